set_option maxRecDepth 100000 in
set_option maxHeartbeats 4000000 in
theorem c_X12_nodes (l : Launch) (D : va_G) (t : Nat → ClassId) (h0 : Nat) (L : Nat → Nat) (sr : Nat → Int32) (f : Nat) (hf : f ≤ 80) (sz : Nat) : KI l D t yX12_nodes cX12_nodes 4 (some .int) ({ frames := 0, cells := 0, slots := 0, locals := 0 }) (mW t h0 L sr) sz [.ref h0, .int (nI f)] 0 := by
  refine go (by decide) (Nat.le_of_ble_eq_true rfl) ?_
  intro p e s m below meth c ls A hF hr hlk hin hsz hAe hP hD hS hA hl
  rw [hAe]
  clear hAe hsz
  have hF : FX p m c cX12_nodes 4 s _ RX12 D t := hF
  have hx := hF.1.1
  have hb := hF.1.2.1
  have hls := hl.1
  have hl : lv_has ls 4 [(0, .ref h0), (1, .int (nI f))] := hl
  refine lv_iconst (v := 0) hx hb dX12_nodes_0 (by decide) ?_
  refine lv_istore_n (lv' := [(2, .int 0), (0, .ref h0), (1, .int (nI f))]) hx hb dX12_nodes_1 rfl hl (by decide) rfl (fun ls hl => ?_)
  refine lv_iload_n hx hb dX12_nodes_2 rfl (lv_at hl 2 rfl) ?_
  refine lv_istore_n (lv' := [(3, .int (nI f)), (2, .int 0), (0, .ref h0), (1, .int (nI f))]) hx hb dX12_nodes_3 rfl hl (by decide) rfl (fun ls hl => ?_)
  have hl : lv_has ls 4 [(3, .int (nI f)), (2, .int 0), (1, .int (nI f)), (0, .ref h0)] := lv_sub hl [0, 1, 3, 2] rfl
  refine r_loop (L0 := fun i => [(3, .int (nI (f + i))), (2, .int 0), (1, .int (nI f)), (0, .ref h0)]) 80 hl hP hS (fun i hi ls H locs hl hP hS ih => ?_) (fun ls H locs hl hP hS => ?_)
  · have hl : lv_has ls 4 [(3, .int (nI (f + i))), (2, .int 0), (1, .int (nI f)), (0, .ref h0)] := hl
    refine lv_iload_n hx hb dX12_nodes_4 rfl (lv_at hl 0 rfl) ?_
    refine lv_iload_n hx hb dX12_nodes_5 rfl (lv_at hl 2 rfl) ?_
    refine lv_bipush (v := 80) hx hb dX12_nodes_6 (by decide) ?_
    refine lv_iadd hx hb dX12_nodes_8 ?_
    refine lv_icmp_ge (tgt := 35) hx hb dX12_nodes_9 rfl (fun h => absurd h (by rw [show nI f + 80 = nI (f + 80) from nI_add f 80]; exact nI_ge (by omega) (by omega))) (fun _ => ?_)
    refine lv_iload_n hx hb dX12_nodes_12 rfl (lv_at hl 1 rfl) ?_
    refine lv_aload_n hx hb dX12_nodes_13 rfl (lv_at hl 3 rfl) ?_
    refine r_get hF ci_X12 fl_X12_13 dX12_nodes_14 hP (q0 := 0) rfl rfl ?_
    refine lv_iload_n hx hb dX12_nodes_17 rfl (lv_at hl 0 rfl) ?_
    refine r_zald (v := 0) hF dX12_nodes_18 hP (q0 := 2) rfl (vp_in_nI (by omega) (by decide)) rfl ?_
    refine lv_if_eq (tgt := 26) hx hb dX12_nodes_19 rfl (fun _ => ?_) (fun h => absurd rfl h)
    refine lv_iconst (v := 0) hx hb dX12_nodes_26 (by decide) ?_
    refine lv_iadd hx hb dX12_nodes_27 ?_
    refine lv_istore_n (lv' := [(2, .int (0 + 0)), (3, .int (nI (f + i))), (1, .int (nI f)), (0, .ref h0)]) hx hb dX12_nodes_28 rfl hl (by decide) rfl (fun ls hl => ?_)
    have hl : lv_has ls 4 [(2, .int 0), (3, .int (nI (f + i))), (1, .int (nI f)), (0, .ref h0)] := hl
    refine lv_iinc (lv' := [(3, .int (nI (f + (i + 1)))), (2, .int 0), (1, .int (nI f)), (0, .ref h0)]) (k := 1) (v := (nI (f + (i + 1)))) hx hb dX12_nodes_29 hl rfl (nI_1 (f + i)) (by decide) rfl (fun ls hl => ?_)
    refine lv_goto (tgt := 4) hx hb dX12_nodes_32 rfl ?_
    exact ih ls H locs hl hP hS
  · have hl : lv_has ls 4 [(3, .int (nI (f + 80))), (2, .int 0), (1, .int (nI f)), (0, .ref h0)] := hl
    refine lv_iload_n hx hb dX12_nodes_4 rfl (lv_at hl 0 rfl) ?_
    refine lv_iload_n hx hb dX12_nodes_5 rfl (lv_at hl 2 rfl) ?_
    refine lv_bipush (v := 80) hx hb dX12_nodes_6 (by decide) ?_
    refine lv_iadd hx hb dX12_nodes_8 ?_
    refine lv_icmp_ge (tgt := 35) hx hb dX12_nodes_9 rfl (fun _ => ?_) (fun h => absurd (by rw [show nI f + 80 = nI (f + 80) from nI_add f 80]; exact nI_le (Nat.le_refl _) (by omega)) h)
    refine lv_iload_n hx hb dX12_nodes_35 rfl (lv_at hl 1 rfl) ?_
    exact r_retK hF hr hlk rfl dX12_nodes_36 hP hS rfl
set_option maxRecDepth 100000 in
set_option maxHeartbeats 4000000 in
theorem c_X12_count (l : Launch) (D : va_G) (t : Nat → ClassId) (h0 : Nat) (L : Nat → Nat) (sr : Nat → Int32) (a n q1 : Nat) (hn : n < 1000) (he : (mW t h0 L sr)[q1]? = some (a, .inl (t 2, n, .inr (.inl (fun _ => 0))))) (sz : Nat) : KI l D t yX12_count cX12_count 4 (some .int) ({ frames := 0, cells := 0, slots := 0, locals := 0 }) (mW t h0 L sr) sz [.ref h0, .ref a] 0 := by
  refine go (by decide) (Nat.le_of_ble_eq_true rfl) ?_
  intro p e s m below meth c ls A hF hr hlk hin hsz hAe hP hD hS hA hl
  rw [hAe]
  clear hAe hsz
  have hF : FX p m c cX12_count 4 s _ RX12 D t := hF
  have hx := hF.1.1
  have hb := hF.1.2.1
  have hls := hl.1
  have hl : lv_has ls 4 [(0, .ref h0), (1, .ref a)] := hl
  refine lv_iconst (v := 0) hx hb dX12_count_0 (by decide) ?_
  refine lv_istore_n (lv' := [(2, .int 0), (0, .ref h0), (1, .ref a)]) hx hb dX12_count_1 rfl hl (by decide) rfl (fun ls hl => ?_)
  refine lv_iconst (v := 0) hx hb dX12_count_2 (by decide) ?_
  refine lv_istore_n (lv' := [(3, .int 0), (2, .int 0), (0, .ref h0), (1, .ref a)]) hx hb dX12_count_3 rfl hl (by decide) rfl (fun ls hl => ?_)
  have hl : lv_has ls 4 [(3, .int 0), (2, .int 0), (1, .ref a), (0, .ref h0)] := lv_sub hl [0, 1, 3, 2] rfl
  refine r_loop (L0 := fun i => [(3, .int (nI i)), (2, .int 0), (1, .ref a), (0, .ref h0)]) n hl hP hS (fun i hi ls H locs hl hP hS ih => ?_) (fun ls H locs hl hP hS => ?_)
  · have hl : lv_has ls 4 [(3, .int (nI i)), (2, .int 0), (1, .ref a), (0, .ref h0)] := hl
    refine lv_iload_n hx hb dX12_count_4 rfl (lv_at hl 0 rfl) ?_
    refine lv_aload_n hx hb dX12_count_5 rfl (lv_at hl 2 rfl) ?_
    refine r_alen (v := (nI n)) hF dX12_count_6 hP he (t0 := 2) rfl rfl ?_
    refine lv_icmp_ge (tgt := 32) hx hb dX12_count_7 rfl (fun h => absurd h (nI_ge hi (by omega))) (fun _ => ?_)
    refine lv_iload_n hx hb dX12_count_10 rfl (lv_at hl 1 rfl) ?_
    refine lv_aload_n hx hb dX12_count_11 rfl (lv_at hl 2 rfl) ?_
    refine lv_iload_n hx hb dX12_count_12 rfl (lv_at hl 0 rfl) ?_
    refine r_lald (v := 0) hF dX12_count_13 hP he (vp_in_nI hi (by omega)) rfl ?_
    refine lv_lconst (v := 0) hx hb dX12_count_14 (by decide) ?_
    refine W.lcmp hx hb dX12_count_15 ?_
    refine lv_if_le (tgt := 23) hx hb dX12_count_16 rfl (fun _ => ?_) (fun h => absurd (by decide) h)
    refine lv_iconst (v := 0) hx hb dX12_count_23 (by decide) ?_
    refine lv_iadd hx hb dX12_count_24 ?_
    refine lv_istore_n (lv' := [(2, .int (0 + 0)), (3, .int (nI i)), (1, .ref a), (0, .ref h0)]) hx hb dX12_count_25 rfl hl (by decide) rfl (fun ls hl => ?_)
    have hl : lv_has ls 4 [(2, .int 0), (3, .int (nI i)), (1, .ref a), (0, .ref h0)] := hl
    refine lv_iinc (lv' := [(3, .int (nI (i + 1))), (2, .int 0), (1, .ref a), (0, .ref h0)]) (k := 1) (v := (nI (i + 1))) hx hb dX12_count_26 hl rfl (nI_1 i) (by decide) rfl (fun ls hl => ?_)
    refine lv_goto (tgt := 4) hx hb dX12_count_29 rfl ?_
    exact ih ls H locs hl hP hS
  · have hl : lv_has ls 4 [(3, .int (nI n)), (2, .int 0), (1, .ref a), (0, .ref h0)] := hl
    refine lv_iload_n hx hb dX12_count_4 rfl (lv_at hl 0 rfl) ?_
    refine lv_aload_n hx hb dX12_count_5 rfl (lv_at hl 2 rfl) ?_
    refine r_alen (v := (nI n)) hF dX12_count_6 hP he (t0 := 2) rfl rfl ?_
    refine lv_icmp_ge (tgt := 32) hx hb dX12_count_7 rfl (fun _ => ?_) (fun h => absurd (nI_le (Nat.le_refl _) (by omega)) h)
    refine lv_iload_n hx hb dX12_count_32 rfl (lv_at hl 1 rfl) ?_
    exact r_retK hF hr hlk rfl dX12_count_33 hP hS rfl
set_option maxRecDepth 100000 in
set_option maxHeartbeats 4000000 in
theorem c_X12_told (l : Launch) (D : va_G) (t : Nat → ClassId) (h0 : Nat) (L : Nat → Nat) (sr : Nat → Int32) (k : Int32) (sz : Nat) : AI l D t yX12_told cX12_told 2 (some .int) ({ frames := 1, cells := 0, slots := 0, locals := 23 }) (mW t h0 L sr) sz [.ref h0, .int k] (toldA k) := by
  refine go (by decide) (Nat.le_of_ble_eq_true rfl) ?_
  intro p e s m below meth c ls A hF hr hlk hin hsz hAe hP hD hS hA hl
  rw [hAe]
  clear hAe hsz
  have hF : FX p m c cX12_told 2 s _ RX12 D t := hF
  have hx := hF.1.1
  have hb := hF.1.2.1
  have hls := hl.1
  have hl : lv_has ls 2 [(0, .ref h0), (1, .int k)] := hl
  rcases pk_ix k (n := 9) (by decide) with h1 | h1 | ⟨j, hj, hkj⟩
  · have hk : toldA k = -1 := by unfold toldA; rw [if_pos h1]
    refine lv_iload_n hx hb dX12_told_0 rfl (lv_at hl 1 rfl) ?_
    refine lv_tableOut (tgt := 113) hx hb dX12_told_1 (Or.inl (Int32.lt_iff_toInt_lt.mp h1)) rfl ?_
    refine lv_iconst (v := (-1)) hx hb dX12_told_113 (by decide) ?_
    exact r_retA hF hr hlk rfl dX12_told_114 hS hk.symm
  · have h8 : (8 : Int32) < k := Int32.lt_of_lt_of_le (by decide) h1
    have hk : toldA k = -1 := by unfold toldA; rw [if_pos h8]; exact ite_self _
    refine lv_iload_n hx hb dX12_told_0 rfl (lv_at hl 1 rfl) ?_
    refine lv_tableOut (tgt := 113) hx hb dX12_told_1 (Or.inr (Int32.lt_iff_toInt_lt.mp h8)) rfl ?_
    refine lv_iconst (v := (-1)) hx hb dX12_told_113 (by decide) ?_
    exact r_retA hF hr hlk rfl dX12_told_114 hS hk.symm
  · rcases (show j = 0 ∨ j = 1 ∨ j = 2 ∨ j = 3 ∨ j = 4 ∨ j = 5 ∨ j = 6 ∨ j = 7 ∨ j = 8 by omega) with z | z | z | z | z | z | z | z | z
    · subst z
      subst hkj
      refine lv_iload_n hx hb dX12_told_0 rfl (lv_at hl 1 rfl) ?_
      refine lv_tableIn (off := 51) (tgt := 52) hx hb dX12_told_1 (by decide) (by decide) rfl rfl ?_
      refine lv_aload_n hx hb dX12_told_52 rfl (lv_at hl 0 rfl) ?_
      refine r_get hF ci_X12 fl_X12_322 dX12_told_53 hP (q0 := 0) rfl rfl ?_
      refine lv_l2i (v := 0) hx hb dX12_told_56 (by decide) ?_
      exact r_retA hF hr hlk rfl dX12_told_57 hS (by decide)
    · subst z
      subst hkj
      refine lv_iload_n hx hb dX12_told_0 rfl (lv_at hl 1 rfl) ?_
      refine lv_tableIn (off := 57) (tgt := 58) hx hb dX12_told_1 (by decide) (by decide) rfl rfl ?_
      refine lv_aload_n hx hb dX12_told_58 rfl (lv_at hl 0 rfl) ?_
      refine r_get hF ci_X12 fl_X12_271 dX12_told_59 hP (q0 := 0) rfl rfl ?_
      exact r_retA hF hr hlk rfl dX12_told_62 hS (by decide)
    · subst z
      subst hkj
      refine lv_iload_n hx hb dX12_told_0 rfl (lv_at hl 1 rfl) ?_
      refine lv_tableIn (off := 62) (tgt := 63) hx hb dX12_told_1 (by decide) (by decide) rfl rfl ?_
      refine lv_aload_n hx hb dX12_told_63 rfl (lv_at hl 0 rfl) ?_
      refine lv_iconst (v := 0) hx hb dX12_told_64 (by decide) ?_
      refine r_cKI (v := 0) (As := [.int (nI 0)]) (rest := []) hF mv_X12_315 ci_X12 (fun sz => c_X12_nodes l D t h0 L sr 0 (by decide) sz) dX12_told_65 rfl rfl (by decide) rfl hl.1 (by decide) hP hD hS hA (q0 := 0) rfl (by decide) rfl (fun H locs hP hS => ?_)
      exact r_retA hF hr hlk rfl dX12_told_68 hS (by decide)
    · subst z
      subst hkj
      refine lv_iload_n hx hb dX12_told_0 rfl (lv_at hl 1 rfl) ?_
      refine lv_tableIn (off := 68) (tgt := 69) hx hb dX12_told_1 (by decide) (by decide) rfl rfl ?_
      refine lv_aload_n hx hb dX12_told_69 rfl (lv_at hl 0 rfl) ?_
      refine lv_aload_n hx hb dX12_told_70 rfl (lv_at hl 0 rfl) ?_
      refine r_get hF ci_X12 fl_X12_139 dX12_told_71 hP (q0 := 0) rfl rfl ?_
      refine r_cKI (v := 0) (As := [.ref (L 41)]) (rest := []) hF mv_X12_688 ci_X12 (fun sz => c_X12_count l D t h0 L sr _ 40 42 (by decide) rfl sz) dX12_told_74 rfl rfl (by decide) rfl hl.1 (by decide) hP hD hS hA (q0 := 0) rfl (by decide) rfl (fun H locs hP hS => ?_)
      exact r_retA hF hr hlk rfl dX12_told_77 hS (by decide)
    · subst z
      subst hkj
      refine lv_iload_n hx hb dX12_told_0 rfl (lv_at hl 1 rfl) ?_
      refine lv_tableIn (off := 77) (tgt := 78) hx hb dX12_told_1 (by decide) (by decide) rfl rfl ?_
      refine lv_aload_n hx hb dX12_told_78 rfl (lv_at hl 0 rfl) ?_
      refine r_get hF ci_X12 fl_X12_289 dX12_told_79 hP (q0 := 0) rfl rfl ?_
      exact r_retA hF hr hlk rfl dX12_told_82 hS (by decide)
    · subst z
      subst hkj
      refine lv_iload_n hx hb dX12_told_0 rfl (lv_at hl 1 rfl) ?_
      refine lv_tableIn (off := 82) (tgt := 83) hx hb dX12_told_1 (by decide) (by decide) rfl rfl ?_
      refine lv_aload_n hx hb dX12_told_83 rfl (lv_at hl 0 rfl) ?_
      refine r_get hF ci_X12 fl_X12_292 dX12_told_84 hP (q0 := 0) rfl rfl ?_
      exact r_retA hF hr hlk rfl dX12_told_87 hS (by decide)
    · subst z
      subst hkj
      refine lv_iload_n hx hb dX12_told_0 rfl (lv_at hl 1 rfl) ?_
      refine lv_tableIn (off := 87) (tgt := 88) hx hb dX12_told_1 (by decide) (by decide) rfl rfl ?_
      refine lv_aload_n hx hb dX12_told_88 rfl (lv_at hl 0 rfl) ?_
      refine lv_aload_n hx hb dX12_told_89 rfl (lv_at hl 0 rfl) ?_
      refine r_get hF ci_X12 fl_X12_118 dX12_told_90 hP (q0 := 0) rfl rfl ?_
      refine r_cKI (v := 0) (As := [.ref (L 34)]) (rest := []) hF mv_X12_688 ci_X12 (fun sz => c_X12_count l D t h0 L sr _ 8 35 (by decide) rfl sz) dX12_told_93 rfl rfl (by decide) rfl hl.1 (by decide) hP hD hS hA (q0 := 0) rfl (by decide) rfl (fun H locs hP hS => ?_)
      exact r_retA hF hr hlk rfl dX12_told_96 hS (by decide)
    · subst z
      subst hkj
      refine lv_iload_n hx hb dX12_told_0 rfl (lv_at hl 1 rfl) ?_
      refine lv_tableIn (off := 96) (tgt := 97) hx hb dX12_told_1 (by decide) (by decide) rfl rfl ?_
      refine lv_aload_n hx hb dX12_told_97 rfl (lv_at hl 0 rfl) ?_
      refine lv_aload_n hx hb dX12_told_98 rfl (lv_at hl 0 rfl) ?_
      refine r_get hF ci_X12 fl_X12_130 dX12_told_99 hP (q0 := 0) rfl rfl ?_
      refine r_cKI (v := 0) (As := [.ref (L 38)]) (rest := []) hF mv_X12_688 ci_X12 (fun sz => c_X12_count l D t h0 L sr _ 16 39 (by decide) rfl sz) dX12_told_102 rfl rfl (by decide) rfl hl.1 (by decide) hP hD hS hA (q0 := 0) rfl (by decide) rfl (fun H locs hP hS => ?_)
      exact r_retA hF hr hlk rfl dX12_told_105 hS (by decide)
    · subst z
      subst hkj
      refine lv_iload_n hx hb dX12_told_0 rfl (lv_at hl 1 rfl) ?_
      refine lv_tableIn (off := 105) (tgt := 106) hx hb dX12_told_1 (by decide) (by decide) rfl rfl ?_
      refine lv_aload_n hx hb dX12_told_106 rfl (lv_at hl 0 rfl) ?_
      refine lv_bipush (v := 80) hx hb dX12_told_107 (by decide) ?_
      refine r_cKI (v := 0) (As := [.int (nI 80)]) (rest := []) hF mv_X12_315 ci_X12 (fun sz => c_X12_nodes l D t h0 L sr 80 (by decide) sz) dX12_told_109 rfl rfl (by decide) rfl hl.1 (by decide) hP hD hS hA (q0 := 0) rfl (by decide) rfl (fun H locs hP hS => ?_)
      exact r_retA hF hr hlk rfl dX12_told_112 hS (by decide)
theorem dX12_tick_190 : decode cX12_tick 190 = .ok (.goto (-161), 3) := by decide +kernel
set_option maxRecDepth 100000 in
set_option maxHeartbeats 4000000 in
theorem c_X12_tick (l : Launch) (D : va_G) (t : Nat → ClassId) (h0 : Nat) (L : Nat → Nat) (sr : Nat → Int32) (k : Int32) (sz : Nat) : AI l D t yX12_tick cX12_tick 8 (some .boolean) ({ frames := 0, cells := 0, slots := 0, locals := 0 }) (mW t h0 L sr) sz [.ref h0, .int k] (tickA k) := by
  refine go (by decide) (Nat.le_of_ble_eq_true rfl) ?_
  intro p e s m below meth c ls A hF hr hlk hin hsz hAe hP hD hS hA hl
  rw [hAe]
  clear hAe hsz
  have hF : FX p m c cX12_tick 8 s _ RX12 D t := hF
  have hx := hF.1.1
  have hb := hF.1.2.1
  have hls := hl.1
  have hl : lv_has ls 8 [(0, .ref h0), (1, .int k)] := hl
  have hP : va_P D cl1 [(h0, .inr (0, mF L)), ((L 41), .inl (t 2, 40, .inr (.inl (fun _ => 0))))] s.heap := hP.sub [0, 42] rfl
  have hD : va_D A [(h0, .inr (0, mF L)), ((L 41), .inl (t 2, 40, .inr (.inl (fun _ => 0))))] := hD.sub [0, 42] (by decide) rfl
  refine lv_iload_n hx hb dX12_tick_0 rfl (lv_at hl 1 rfl) ?_
  refine lv_if_lt (tgt := 11) hx hb dX12_tick_1 rfl (fun h1 => ?_) (fun h1 => ?_)
  · refine lv_iconst (v := 0) hx hb dX12_tick_11 (by decide) ?_
    exact r_retA hF hr hlk rfl dX12_tick_12 hS (by unfold tickA; rw [if_pos h1])
  · refine lv_iload_n hx hb dX12_tick_4 rfl (lv_at hl 1 rfl) ?_
    refine lv_ldcw (v := 1000000) hx hb hF.1.2.2.2.1 (hF.1.2.2.2.2 _ (wb 575 rfl)) dX12_tick_5 ?_
    refine lv_icmp_le (tgt := 13) hx hb dX12_tick_8 rfl (fun h2 => ?_) (fun h2 => ?_)
    · refine lv_aload_n hx hb dX12_tick_13 rfl (lv_at hl 0 rfl) ?_
      refine lv_dup hx hb dX12_tick_14 rfl ?_
      refine r_get hF ci_X12 fl_X12_322 dX12_tick_15 hP (q0 := 0) rfl rfl ?_
      refine lv_iload_n hx hb dX12_tick_18 rfl (lv_at hl 1 rfl) ?_
      refine lv_i2l (v := k.toInt64) hx hb dX12_tick_19 rfl ?_
      refine lv_ladd hx hb dX12_tick_20 ?_
      refine r_put hF ci_X12 fl_X12_322 dX12_tick_21 hP hD hS (q0 := 0) rfl rfl rfl rfl (Nat.le_of_ble_eq_true rfl) (fun H locs hP hD hS => ?_)
      refine lv_lconst (v := 0) hx hb dX12_tick_24 (by decide) ?_
      refine lv_lstore_n (lv' := [(2, .long 0), (0, .ref h0), (1, .int k)]) hx hb dX12_tick_25 rfl hl (by decide) rfl (fun ls hl => ?_)
      refine lv_iconst (v := 1) hx hb dX12_tick_26 (by decide) ?_
      refine lv_istore (lv' := [(4, .int 1), (2, .long 0), (0, .ref h0), (1, .int k)]) hx hb dX12_tick_27 hl (by decide) rfl (fun ls hl => ?_)
      refine lv_iload hx hb dX12_tick_29 (lv_at hl 0 rfl) ?_
      refine lv_if_eq (tgt := 193) hx hb dX12_tick_31 rfl (fun h => absurd h (by decide)) (fun _ => ?_)
      refine lv_iconst (v := (-1)) hx hb dX12_tick_34 (by decide) ?_
      refine lv_istore (lv' := [(5, .int (-1)), (4, .int 1), (2, .long 0), (0, .ref h0), (1, .int k)]) hx hb dX12_tick_35 hl (by decide) rfl (fun ls hl => ?_)
      refine lv_iconst (v := 0) hx hb dX12_tick_37 (by decide) ?_
      refine lv_istore (lv' := [(6, .int 0), (5, .int (-1)), (4, .int 1), (2, .long 0), (0, .ref h0), (1, .int k)]) hx hb dX12_tick_38 hl (by decide) rfl (fun ls hl => ?_)
      have hl : lv_has ls 8 [(6, .int 0), (5, .int (-1)), (4, .int 1), (2, .long 0), (1, .int k), (0, .ref h0)] := lv_sub hl [0, 1, 2, 3, 5, 4] rfl
      refine r_loop (L0 := fun i => [(6, .int (nI i)), (5, .int (-1)), (4, .int 1), (2, .long 0), (1, .int k), (0, .ref h0)]) 40 hl hP hS (fun i hi ls H locs hl hP hS ih => ?_) (fun ls H locs hl hP hS => ?_)
      · have hl : lv_has ls 8 [(6, .int (nI i)), (5, .int (-1)), (4, .int 1), (2, .long 0), (1, .int k), (0, .ref h0)] := hl
        refine lv_iload hx hb dX12_tick_40 (lv_at hl 0 rfl) ?_
        refine lv_bipush (v := 40) hx hb dX12_tick_42 (by decide) ?_
        refine lv_icmp_ge (tgt := 138) hx hb dX12_tick_44 rfl (fun h => absurd h (nI_ge hi (by decide))) (fun _ => ?_)
        refine lv_aload_n hx hb dX12_tick_47 rfl (lv_at hl 5 rfl) ?_
        refine r_get hF ci_X12 fl_X12_139 dX12_tick_48 hP (q0 := 0) rfl rfl ?_
        refine lv_iload hx hb dX12_tick_51 (lv_at hl 0 rfl) ?_
        refine r_lald (v := 0) hF dX12_tick_53 hP (q0 := 1) rfl (vp_in_nI hi (by decide)) rfl ?_
        refine lv_lload_n hx hb dX12_tick_54 rfl (lv_at hl 3 rfl) ?_
        refine W.lcmp hx hb dX12_tick_55 ?_
        refine lv_if_le (tgt := 92) hx hb dX12_tick_56 rfl (fun _ => ?_) (fun h => absurd (by decide) h)
        refine lv_iconst (v := 0) hx hb dX12_tick_92 (by decide) ?_
        refine lv_istore (lv' := [(7, .int 0), (6, .int (nI i)), (5, .int (-1)), (4, .int 1), (2, .long 0), (1, .int k), (0, .ref h0)]) hx hb dX12_tick_93 hl (by decide) rfl (fun ls hl => ?_)
        refine lv_iload hx hb dX12_tick_95 (lv_at hl 0 rfl) ?_
        refine lv_if_eq (tgt := 128) hx hb dX12_tick_97 rfl (fun _ => ?_) (fun h => absurd rfl h)
        refine lv_iload hx hb dX12_tick_128 (lv_at hl 2 rfl) ?_
        refine lv_istore (lv' := [(5, .int (-1)), (7, .int 0), (6, .int (nI i)), (4, .int 1), (2, .long 0), (1, .int k), (0, .ref h0)]) hx hb dX12_tick_130 hl (by decide) rfl (fun ls hl => ?_)
        refine lv_iinc (lv' := [(6, .int (nI (i + 1))), (5, .int (-1)), (7, .int 0), (4, .int 1), (2, .long 0), (1, .int k), (0, .ref h0)]) (k := 2) (v := (nI (i + 1))) hx hb dX12_tick_132 hl rfl (nI_1 i) (by decide) rfl (fun ls hl => ?_)
        refine lv_goto (tgt := 40) hx hb dX12_tick_135 rfl ?_
        have hl : lv_has ls 8 [(6, .int (nI (i + 1))), (5, .int (-1)), (4, .int 1), (2, .long 0), (1, .int k), (0, .ref h0)] := lv_sub hl [0, 1, 3, 4, 5, 6] rfl
        exact ih ls H locs hl hP hS
      · have hl : lv_has ls 8 [(6, .int (nI 40)), (5, .int (-1)), (4, .int 1), (2, .long 0), (1, .int k), (0, .ref h0)] := hl
        refine lv_iload hx hb dX12_tick_40 (lv_at hl 0 rfl) ?_
        refine lv_bipush (v := 40) hx hb dX12_tick_42 (by decide) ?_
        refine lv_icmp_ge (tgt := 138) hx hb dX12_tick_44 rfl (fun _ => ?_) (fun h => absurd (nI_le (Nat.le_refl 40) (by decide)) h)
        refine lv_iload hx hb dX12_tick_138 (lv_at hl 1 rfl) ?_
        refine lv_if_lt (tgt := 147) hx hb dX12_tick_140 rfl (fun _ => ?_) (fun h => absurd (by decide) h)
        refine lv_iconst (v := 0) hx hb dX12_tick_147 (by decide) ?_
        refine lv_istore (lv' := [(4, .int 0), (6, .int (nI 40)), (5, .int (-1)), (2, .long 0), (1, .int k), (0, .ref h0)]) hx hb dX12_tick_148 hl (by decide) rfl (fun ls hl => ?_)
        refine lv_iload hx hb dX12_tick_150 (lv_at hl 0 rfl) ?_
        refine lv_if_eq (tgt := 190) hx hb dX12_tick_152 rfl (fun _ => ?_) (fun h => absurd rfl h)
        refine lv_goto (tgt := 29) hx hb dX12_tick_190 rfl ?_
        refine lv_iload hx hb dX12_tick_29 (lv_at hl 0 rfl) ?_
        refine lv_if_eq (tgt := 193) hx hb dX12_tick_31 rfl (fun _ => ?_) (fun h => absurd rfl h)
        refine lv_iconst (v := 1) hx hb dX12_tick_193 (by decide) ?_
        exact r_retA hF hr hlk rfl dX12_tick_194 hS (by unfold tickA; rw [if_neg h1, if_neg (Int32.not_lt.mpr h2)])
    · refine lv_iconst (v := 0) hx hb dX12_tick_11 (by decide) ?_
      exact r_retA hF hr hlk rfl dX12_tick_12 hS (by unfold tickA; rw [if_neg h1, if_pos (Int32.not_le.mp h2)])
set_option maxRecDepth 100000 in
set_option maxHeartbeats 4000000 in
theorem c_X12_come (l : Launch) (D : va_G) (t : Nat → ClassId) (h0 : Nat) (L : Nat → Nat) (sr : Nat → Int32) (sz : Nat) : KV l D t yX12_come cX12_come 4 ({ frames := 0, cells := 0, slots := 0, locals := 0 }) (mW t h0 L sr) sz [.ref h0, .int 0, .int 0] := by
  refine go (by decide) (Nat.le_of_ble_eq_true rfl) ?_
  intro p e s m below meth c ls A hF hr hlk hin hsz hAe hP hD hS hA hl
  rw [hAe]
  clear hAe hsz
  have hF : FX p m c cX12_come 4 s _ RX12 D t := hF
  have hx := hF.1.1
  have hb := hF.1.2.1
  have hls := hl.1
  have hl : lv_has ls 4 [(0, .ref h0), (1, .int 0), (2, .int 0)] := hl
  refine lv_iconst (v := 0) hx hb dX12_come_0 (by decide) ?_
  refine lv_istore_n (lv' := [(3, .int 0), (0, .ref h0), (1, .int 0), (2, .int 0)]) hx hb dX12_come_1 rfl hl (by decide) rfl (fun ls hl => ?_)
  refine lv_iload_n hx hb dX12_come_2 rfl (lv_at hl 0 rfl) ?_
  refine lv_iload_n hx hb dX12_come_3 rfl (lv_at hl 2 rfl) ?_
  refine lv_icmp_ge (tgt := 20) hx hb dX12_come_4 rfl (fun _ => ?_) (fun h => absurd (by decide) h)
  refine lv_aload_n hx hb dX12_come_20 rfl (lv_at hl 1 rfl) ?_
  refine lv_iconst (v := 0) hx hb dX12_come_21 (by decide) ?_
  refine r_put0 hF ci_X12 fl_X12_271 dX12_come_22 hP hD hS (q0 := 0) rfl rfl rfl rfl rfl (fun H locs hP hS => ?_)
  exact r_retV hF hr hlk dX12_come_25 hP hS
set_option maxRecDepth 100000 in
set_option maxHeartbeats 4000000 in
theorem c_X12_copyNode (l : Launch) (D : va_G) (t : Nat → ClassId) (h0 : Nat) (L : Nat → Nat) (sr : Nat → Int32) (f g : Nat) (hf : f < 160) (hg : g < 160) (sz : Nat) : KV l D t yX12_copyNode cX12_copyNode 4 ({ frames := 0, cells := 0, slots := 0, locals := 0 }) (mW t h0 L sr) sz [.ref h0, .int (nI f), .int (nI g)] := by
  refine go (by decide) (Nat.le_of_ble_eq_true rfl) ?_
  intro p e s m below meth c ls A hF hr hlk hin hsz hAe hP hD hS hA hl
  rw [hAe]
  clear hAe hsz
  have hF : FX p m c cX12_copyNode 4 s _ RX12 D t := hF
  have hx := hF.1.1
  have hb := hF.1.2.1
  have hls := hl.1
  have hl : lv_has ls 4 [(0, .ref h0), (1, .int (nI f)), (2, .int (nI g))] := hl
  refine lv_aload_n hx hb dX12_copyNode_0 rfl (lv_at hl 0 rfl) ?_
  refine r_get hF ci_X12 fl_X12_13 dX12_copyNode_1 hP (q0 := 0) rfl rfl ?_
  refine lv_iload_n hx hb dX12_copyNode_4 rfl (lv_at hl 2 rfl) ?_
  refine lv_aload_n hx hb dX12_copyNode_5 rfl (lv_at hl 0 rfl) ?_
  refine r_get hF ci_X12 fl_X12_13 dX12_copyNode_6 hP (q0 := 0) rfl rfl ?_
  refine lv_iload_n hx hb dX12_copyNode_9 rfl (lv_at hl 1 rfl) ?_
  refine r_zald (v := 0) hF dX12_copyNode_10 hP (q0 := 2) rfl (vp_in_nI hf (by decide)) rfl ?_
  refine r_zast0 hF dX12_copyNode_11 hP hD hS (q0 := 2) rfl (vp_in_nI hg (by decide)) rfl (fun H locs hP hS => ?_)
  refine lv_aload_n hx hb dX12_copyNode_12 rfl (lv_at hl 0 rfl) ?_
  refine r_get hF ci_X12 fl_X12_17 dX12_copyNode_13 hP (q0 := 0) rfl rfl ?_
  refine lv_iload_n hx hb dX12_copyNode_16 rfl (lv_at hl 2 rfl) ?_
  refine lv_aload_n hx hb dX12_copyNode_17 rfl (lv_at hl 0 rfl) ?_
  refine r_get hF ci_X12 fl_X12_17 dX12_copyNode_18 hP (q0 := 0) rfl rfl ?_
  refine lv_iload_n hx hb dX12_copyNode_21 rfl (lv_at hl 1 rfl) ?_
  refine r_iald (v := 0) hF dX12_copyNode_22 hP (q0 := 3) rfl (vp_in_nI hf (by decide)) rfl ?_
  refine r_iast0 hF dX12_copyNode_23 hP hD hS (q0 := 3) rfl (vp_in_nI hg (by decide)) rfl (fun H locs hP hS => ?_)
  refine lv_aload_n hx hb dX12_copyNode_24 rfl (lv_at hl 0 rfl) ?_
  refine r_get hF ci_X12 fl_X12_21 dX12_copyNode_25 hP (q0 := 0) rfl rfl ?_
  refine lv_iload_n hx hb dX12_copyNode_28 rfl (lv_at hl 2 rfl) ?_
  refine lv_aload_n hx hb dX12_copyNode_29 rfl (lv_at hl 0 rfl) ?_
  refine r_get hF ci_X12 fl_X12_21 dX12_copyNode_30 hP (q0 := 0) rfl rfl ?_
  refine lv_iload_n hx hb dX12_copyNode_33 rfl (lv_at hl 1 rfl) ?_
  refine r_zald (v := 0) hF dX12_copyNode_34 hP (q0 := 4) rfl (vp_in_nI hf (by decide)) rfl ?_
  refine r_zast0 hF dX12_copyNode_35 hP hD hS (q0 := 4) rfl (vp_in_nI hg (by decide)) rfl (fun H locs hP hS => ?_)
  refine lv_aload_n hx hb dX12_copyNode_36 rfl (lv_at hl 0 rfl) ?_
  refine r_get hF ci_X12 fl_X12_27 dX12_copyNode_37 hP (q0 := 0) rfl rfl ?_
  refine lv_iload_n hx hb dX12_copyNode_40 rfl (lv_at hl 2 rfl) ?_
  refine lv_aload_n hx hb dX12_copyNode_41 rfl (lv_at hl 0 rfl) ?_
  refine r_get hF ci_X12 fl_X12_27 dX12_copyNode_42 hP (q0 := 0) rfl rfl ?_
  refine lv_iload_n hx hb dX12_copyNode_45 rfl (lv_at hl 1 rfl) ?_
  refine r_iald (v := 0) hF dX12_copyNode_46 hP (q0 := 6) rfl (vp_in_nI hf (by decide)) rfl ?_
  refine r_iast0 hF dX12_copyNode_47 hP hD hS (q0 := 6) rfl (vp_in_nI hg (by decide)) rfl (fun H locs hP hS => ?_)
  refine lv_aload_n hx hb dX12_copyNode_48 rfl (lv_at hl 0 rfl) ?_
  refine r_get hF ci_X12 fl_X12_30 dX12_copyNode_49 hP (q0 := 0) rfl rfl ?_
  refine lv_iload_n hx hb dX12_copyNode_52 rfl (lv_at hl 2 rfl) ?_
  refine lv_aload_n hx hb dX12_copyNode_53 rfl (lv_at hl 0 rfl) ?_
  refine r_get hF ci_X12 fl_X12_30 dX12_copyNode_54 hP (q0 := 0) rfl rfl ?_
  refine lv_iload_n hx hb dX12_copyNode_57 rfl (lv_at hl 1 rfl) ?_
  refine r_iald (v := 0) hF dX12_copyNode_58 hP (q0 := 7) rfl (vp_in_nI hf (by decide)) rfl ?_
  refine r_iast0 hF dX12_copyNode_59 hP hD hS (q0 := 7) rfl (vp_in_nI hg (by decide)) rfl (fun H locs hP hS => ?_)
  refine lv_aload_n hx hb dX12_copyNode_60 rfl (lv_at hl 0 rfl) ?_
  refine r_get hF ci_X12 fl_X12_37 dX12_copyNode_61 hP (q0 := 0) rfl rfl ?_
  refine lv_iload_n hx hb dX12_copyNode_64 rfl (lv_at hl 2 rfl) ?_
  refine lv_aload_n hx hb dX12_copyNode_65 rfl (lv_at hl 0 rfl) ?_
  refine r_get hF ci_X12 fl_X12_37 dX12_copyNode_66 hP (q0 := 0) rfl rfl ?_
  refine lv_iload_n hx hb dX12_copyNode_69 rfl (lv_at hl 1 rfl) ?_
  refine r_iald (v := 0) hF dX12_copyNode_70 hP (q0 := 9) rfl (vp_in_nI hf (by decide)) rfl ?_
  refine r_iast0 hF dX12_copyNode_71 hP hD hS (q0 := 9) rfl (vp_in_nI hg (by decide)) rfl (fun H locs hP hS => ?_)
  refine lv_iconst (v := 0) hx hb dX12_copyNode_72 (by decide) ?_
  refine lv_istore_n (lv' := [(3, .int 0), (0, .ref h0), (1, .int (nI f)), (2, .int (nI g))]) hx hb dX12_copyNode_73 rfl hl (by decide) rfl (fun ls hl => ?_)
  have hl : lv_has ls 4 [(3, .int 0), (2, .int (nI g)), (1, .int (nI f)), (0, .ref h0)] := lv_sub hl [0, 3, 2, 1] rfl
  refine r_loop (L0 := fun i => [(3, .int (nI i)), (2, .int (nI g)), (1, .int (nI f)), (0, .ref h0)]) 12 hl hP hS (fun i hi ls H locs hl hP hS ih => ?_) (fun ls H locs hl hP hS => ?_)
  · have hl : lv_has ls 4 [(3, .int (nI i)), (2, .int (nI g)), (1, .int (nI f)), (0, .ref h0)] := hl
    refine lv_iload_n hx hb dX12_copyNode_74 rfl (lv_at hl 0 rfl) ?_
    refine lv_bipush (v := 12) hx hb dX12_copyNode_75 (by decide) ?_
    refine lv_icmp_ge (tgt := 108) hx hb dX12_copyNode_77 rfl (fun h => absurd h (nI_ge hi (by decide))) (fun _ => ?_)
    refine lv_aload_n hx hb dX12_copyNode_80 rfl (lv_at hl 3 rfl) ?_
    refine r_get hF ci_X12 fl_X12_24 dX12_copyNode_81 hP (q0 := 0) rfl rfl ?_
    refine lv_bipush (v := 12) hx hb dX12_copyNode_84 (by decide) ?_
    refine lv_iload_n hx hb dX12_copyNode_86 rfl (lv_at hl 1 rfl) ?_
    refine lv_imul hx hb dX12_copyNode_87 ?_
    refine lv_iload_n hx hb dX12_copyNode_88 rfl (lv_at hl 0 rfl) ?_
    refine lv_iadd hx hb dX12_copyNode_89 ?_
    refine lv_aload_n hx hb dX12_copyNode_90 rfl (lv_at hl 3 rfl) ?_
    refine r_get hF ci_X12 fl_X12_24 dX12_copyNode_91 hP (q0 := 0) rfl rfl ?_
    refine lv_bipush (v := 12) hx hb dX12_copyNode_94 (by decide) ?_
    refine lv_iload_n hx hb dX12_copyNode_96 rfl (lv_at hl 2 rfl) ?_
    refine lv_imul hx hb dX12_copyNode_97 ?_
    refine lv_iload_n hx hb dX12_copyNode_98 rfl (lv_at hl 0 rfl) ?_
    refine lv_iadd hx hb dX12_copyNode_99 ?_
    refine r_bald (v := 0) hF dX12_copyNode_100 hP (q0 := 5) rfl (by rw [show (12 : Int32) = nI 12 from rfl, pk_mul, nI_add]; exact vp_in_nI (by omega) (by decide)) rfl ?_
    refine r_bast0 hF dX12_copyNode_101 hP hD hS (q0 := 5) rfl (by rw [show (12 : Int32) = nI 12 from rfl, pk_mul, nI_add]; exact vp_in_nI (by omega) (by decide)) rfl (fun H locs hP hS => ?_)
    refine lv_iinc (lv' := [(3, .int (nI (i + 1))), (2, .int (nI g)), (1, .int (nI f)), (0, .ref h0)]) (k := 0) (v := (nI (i + 1))) hx hb dX12_copyNode_102 hl rfl (nI_1 i) (by decide) rfl (fun ls hl => ?_)
    refine lv_goto (tgt := 74) hx hb dX12_copyNode_105 rfl ?_
    exact ih ls H locs hl hP hS
  · have hl : lv_has ls 4 [(3, .int (nI 12)), (2, .int (nI g)), (1, .int (nI f)), (0, .ref h0)] := hl
    refine lv_iload_n hx hb dX12_copyNode_74 rfl (lv_at hl 0 rfl) ?_
    refine lv_bipush (v := 12) hx hb dX12_copyNode_75 (by decide) ?_
    refine lv_icmp_ge (tgt := 108) hx hb dX12_copyNode_77 rfl (fun _ => ?_) (fun h => absurd (nI_le (Nat.le_refl 12) (by decide)) h)
    refine lv_iconst (v := 0) hx hb dX12_copyNode_108 (by decide) ?_
    refine lv_istore_n (lv' := [(3, .int 0), (2, .int (nI g)), (1, .int (nI f)), (0, .ref h0)]) hx hb dX12_copyNode_109 rfl hl (by decide) rfl (fun ls hl => ?_)
    have hl : lv_has ls 4 [(3, .int 0), (2, .int (nI g)), (1, .int (nI f)), (0, .ref h0)] := lv_sub hl [0, 1, 2, 3] rfl
    refine r_loop (L0 := fun i => [(3, .int (nI i)), (2, .int (nI g)), (1, .int (nI f)), (0, .ref h0)]) 4 hl hP hS (fun i hi ls H locs hl hP hS ih => ?_) (fun ls H locs hl hP hS => ?_)
    · have hl : lv_has ls 4 [(3, .int (nI i)), (2, .int (nI g)), (1, .int (nI f)), (0, .ref h0)] := hl
      refine lv_iload_n hx hb dX12_copyNode_110 rfl (lv_at hl 0 rfl) ?_
      refine lv_iconst (v := 4) hx hb dX12_copyNode_111 (by decide) ?_
      refine lv_icmp_ge (tgt := 141) hx hb dX12_copyNode_112 rfl (fun h => absurd h (nI_ge hi (by decide))) (fun _ => ?_)
      refine lv_aload_n hx hb dX12_copyNode_115 rfl (lv_at hl 3 rfl) ?_
      refine r_get hF ci_X12 fl_X12_33 dX12_copyNode_116 hP (q0 := 0) rfl rfl ?_
      refine lv_iconst (v := 4) hx hb dX12_copyNode_119 (by decide) ?_
      refine lv_iload_n hx hb dX12_copyNode_120 rfl (lv_at hl 1 rfl) ?_
      refine lv_imul hx hb dX12_copyNode_121 ?_
      refine lv_iload_n hx hb dX12_copyNode_122 rfl (lv_at hl 0 rfl) ?_
      refine lv_iadd hx hb dX12_copyNode_123 ?_
      refine lv_aload_n hx hb dX12_copyNode_124 rfl (lv_at hl 3 rfl) ?_
      refine r_get hF ci_X12 fl_X12_33 dX12_copyNode_125 hP (q0 := 0) rfl rfl ?_
      refine lv_iconst (v := 4) hx hb dX12_copyNode_128 (by decide) ?_
      refine lv_iload_n hx hb dX12_copyNode_129 rfl (lv_at hl 2 rfl) ?_
      refine lv_imul hx hb dX12_copyNode_130 ?_
      refine lv_iload_n hx hb dX12_copyNode_131 rfl (lv_at hl 0 rfl) ?_
      refine lv_iadd hx hb dX12_copyNode_132 ?_
      refine r_lald (v := 0) hF dX12_copyNode_133 hP (q0 := 8) rfl (by rw [show (4 : Int32) = nI 4 from rfl, pk_mul, nI_add]; exact vp_in_nI (by omega) (by decide)) rfl ?_
      refine r_last0 hF dX12_copyNode_134 hP hD hS (q0 := 8) rfl (by rw [show (4 : Int32) = nI 4 from rfl, pk_mul, nI_add]; exact vp_in_nI (by omega) (by decide)) rfl (fun H locs hP hS => ?_)
      refine lv_iinc (lv' := [(3, .int (nI (i + 1))), (2, .int (nI g)), (1, .int (nI f)), (0, .ref h0)]) (k := 0) (v := (nI (i + 1))) hx hb dX12_copyNode_135 hl rfl (nI_1 i) (by decide) rfl (fun ls hl => ?_)
      refine lv_goto (tgt := 110) hx hb dX12_copyNode_138 rfl ?_
      exact ih ls H locs hl hP hS
    · have hl : lv_has ls 4 [(3, .int (nI 4)), (2, .int (nI g)), (1, .int (nI f)), (0, .ref h0)] := hl
      refine lv_iload_n hx hb dX12_copyNode_110 rfl (lv_at hl 0 rfl) ?_
      refine lv_iconst (v := 4) hx hb dX12_copyNode_111 (by decide) ?_
      refine lv_icmp_ge (tgt := 141) hx hb dX12_copyNode_112 rfl (fun _ => ?_) (fun h => absurd (nI_le (Nat.le_refl 4) (by decide)) h)
      refine lv_iconst (v := 0) hx hb dX12_copyNode_141 (by decide) ?_
      refine lv_istore_n (lv' := [(3, .int 0), (2, .int (nI g)), (1, .int (nI f)), (0, .ref h0)]) hx hb dX12_copyNode_142 rfl hl (by decide) rfl (fun ls hl => ?_)
      have hl : lv_has ls 4 [(3, .int 0), (2, .int (nI g)), (1, .int (nI f)), (0, .ref h0)] := lv_sub hl [0, 1, 2, 3] rfl
      refine r_loop (L0 := fun i => [(3, .int (nI i)), (2, .int (nI g)), (1, .int (nI f)), (0, .ref h0)]) 4096 hl hP hS (fun i hi ls H locs hl hP hS ih => ?_) (fun ls H locs hl hP hS => ?_)
      · have hl : lv_has ls 4 [(3, .int (nI i)), (2, .int (nI g)), (1, .int (nI f)), (0, .ref h0)] := hl
        refine lv_iload_n hx hb dX12_copyNode_143 rfl (lv_at hl 0 rfl) ?_
        refine lv_sipush (v := 4096) hx hb dX12_copyNode_144 (by decide) ?_
        refine lv_icmp_ge (tgt := 180) hx hb dX12_copyNode_147 rfl (fun h => absurd h (nI_ge hi (by decide))) (fun _ => ?_)
        refine lv_aload_n hx hb dX12_copyNode_150 rfl (lv_at hl 3 rfl) ?_
        refine r_get hF ci_X12 fl_X12_41 dX12_copyNode_151 hP (q0 := 0) rfl rfl ?_
        refine lv_sipush (v := 4096) hx hb dX12_copyNode_154 (by decide) ?_
        refine lv_iload_n hx hb dX12_copyNode_157 rfl (lv_at hl 1 rfl) ?_
        refine lv_imul hx hb dX12_copyNode_158 ?_
        refine lv_iload_n hx hb dX12_copyNode_159 rfl (lv_at hl 0 rfl) ?_
        refine lv_iadd hx hb dX12_copyNode_160 ?_
        refine lv_aload_n hx hb dX12_copyNode_161 rfl (lv_at hl 3 rfl) ?_
        refine r_get hF ci_X12 fl_X12_41 dX12_copyNode_162 hP (q0 := 0) rfl rfl ?_
        refine lv_sipush (v := 4096) hx hb dX12_copyNode_165 (by decide) ?_
        refine lv_iload_n hx hb dX12_copyNode_168 rfl (lv_at hl 2 rfl) ?_
        refine lv_imul hx hb dX12_copyNode_169 ?_
        refine lv_iload_n hx hb dX12_copyNode_170 rfl (lv_at hl 0 rfl) ?_
        refine lv_iadd hx hb dX12_copyNode_171 ?_
        refine r_bald (v := 0) hF dX12_copyNode_172 hP (q0 := 10) rfl (by rw [show (4096 : Int32) = nI 4096 from rfl, pk_mul, nI_add]; exact vp_in_nI (by omega) (by decide)) rfl ?_
        refine r_bast0 hF dX12_copyNode_173 hP hD hS (q0 := 10) rfl (by rw [show (4096 : Int32) = nI 4096 from rfl, pk_mul, nI_add]; exact vp_in_nI (by omega) (by decide)) rfl (fun H locs hP hS => ?_)
        refine lv_iinc (lv' := [(3, .int (nI (i + 1))), (2, .int (nI g)), (1, .int (nI f)), (0, .ref h0)]) (k := 0) (v := (nI (i + 1))) hx hb dX12_copyNode_174 hl rfl (nI_1 i) (by decide) rfl (fun ls hl => ?_)
        refine lv_goto (tgt := 143) hx hb dX12_copyNode_177 rfl ?_
        exact ih ls H locs hl hP hS
      · have hl : lv_has ls 4 [(3, .int (nI 4096)), (2, .int (nI g)), (1, .int (nI f)), (0, .ref h0)] := hl
        refine lv_iload_n hx hb dX12_copyNode_143 rfl (lv_at hl 0 rfl) ?_
        refine lv_sipush (v := 4096) hx hb dX12_copyNode_144 (by decide) ?_
        refine lv_icmp_ge (tgt := 180) hx hb dX12_copyNode_147 rfl (fun _ => ?_) (fun h => absurd (nI_le (Nat.le_refl 4096) (by decide)) h)
        exact r_retV hF hr hlk dX12_copyNode_180 hP hS
set_option maxRecDepth 100000 in
set_option maxHeartbeats 4000000 in
theorem c_X12_begin (l : Launch) (D : va_G) (t : Nat → ClassId) (h0 : Nat) (L : Nat → Nat) (sr : Nat → Int32) (sz : Nat) : KV l D t yX12_begin cX12_begin 2 ({ frames := 1, cells := 0, slots := 0, locals := 23 }) (mW t h0 L sr) sz [.ref h0] := by
  refine go (by decide) (Nat.le_of_ble_eq_true rfl) ?_
  intro p e s m below meth c ls A hF hr hlk hin hsz hAe hP hD hS hA hl
  rw [hAe]
  clear hAe hsz
  have hF : FX p m c cX12_begin 2 s _ RX12 D t := hF
  have hx := hF.1.1
  have hb := hF.1.2.1
  have hls := hl.1
  have hl : lv_has ls 2 [(0, .ref h0)] := hl
  refine lv_iconst (v := 0) hx hb dX12_begin_0 (by decide) ?_
  refine lv_istore_n (lv' := [(1, .int 0), (0, .ref h0)]) hx hb dX12_begin_1 rfl hl (by decide) rfl (fun ls hl => ?_)
  have hl : lv_has ls 2 [(1, .int 0), (0, .ref h0)] := lv_sub hl [0, 1] rfl
  refine r_loop (L0 := fun i => [(1, .int (nI i)), (0, .ref h0)]) 6 hl hP hS (fun i hi ls H locs hl hP hS ih => ?_) (fun ls H locs hl hP hS => ?_)
  · have hl : lv_has ls 2 [(1, .int (nI i)), (0, .ref h0)] := hl
    refine lv_iload_n hx hb dX12_begin_2 rfl (lv_at hl 0 rfl) ?_
    refine lv_bipush (v := 6) hx hb dX12_begin_3 (by decide) ?_
    refine lv_icmp_ge (tgt := 28) hx hb dX12_begin_5 rfl (fun h => absurd h (nI_ge hi (by decide))) (fun _ => ?_)
    refine lv_aload_n hx hb dX12_begin_8 rfl (lv_at hl 1 rfl) ?_
    refine r_get hF ci_X12 fl_X12_89 dX12_begin_9 hP (q0 := 0) rfl rfl ?_
    refine lv_iload_n hx hb dX12_begin_12 rfl (lv_at hl 0 rfl) ?_
    refine lv_iconst (v := 0) hx hb dX12_begin_13 (by decide) ?_
    refine r_zast0 hF dX12_begin_14 hP hD hS (q0 := 26) rfl (vp_in_nI hi (by decide)) rfl (fun H locs hP hS => ?_)
    refine lv_aload_n hx hb dX12_begin_15 rfl (lv_at hl 1 rfl) ?_
    refine r_get hF ci_X12 fl_X12_99 dX12_begin_16 hP (q0 := 0) rfl rfl ?_
    refine lv_iload_n hx hb dX12_begin_19 rfl (lv_at hl 0 rfl) ?_
    refine lv_iconst (v := 0) hx hb dX12_begin_20 (by decide) ?_
    refine r_iast0 hF dX12_begin_21 hP hD hS (q0 := 29) rfl (vp_in_nI hi (by decide)) rfl (fun H locs hP hS => ?_)
    refine lv_iinc (lv' := [(1, .int (nI (i + 1))), (0, .ref h0)]) (k := 0) (v := (nI (i + 1))) hx hb dX12_begin_22 hl rfl (nI_1 i) (by decide) rfl (fun ls hl => ?_)
    refine lv_goto (tgt := 2) hx hb dX12_begin_25 rfl ?_
    exact ih ls H locs hl hP hS
  · have hl : lv_has ls 2 [(1, .int (nI 6)), (0, .ref h0)] := hl
    refine lv_iload_n hx hb dX12_begin_2 rfl (lv_at hl 0 rfl) ?_
    refine lv_bipush (v := 6) hx hb dX12_begin_3 (by decide) ?_
    refine lv_icmp_ge (tgt := 28) hx hb dX12_begin_5 rfl (fun _ => ?_) (fun h => absurd (nI_le (Nat.le_refl 6) (by decide)) h)
    refine lv_iconst (v := 0) hx hb dX12_begin_28 (by decide) ?_
    refine lv_istore_n (lv' := [(1, .int 0), (0, .ref h0)]) hx hb dX12_begin_29 rfl hl (by decide) rfl (fun ls hl => ?_)
    have hl : lv_has ls 2 [(1, .int 0), (0, .ref h0)] := lv_sub hl [0, 1] rfl
    refine r_loop (L0 := fun i => [(1, .int (nI i)), (0, .ref h0)]) 8 hl hP hS (fun i hi ls H locs hl hP hS ih => ?_) (fun ls H locs hl hP hS => ?_)
    · have hl : lv_has ls 2 [(1, .int (nI i)), (0, .ref h0)] := hl
      refine lv_iload_n hx hb dX12_begin_30 rfl (lv_at hl 0 rfl) ?_
      refine lv_bipush (v := 8) hx hb dX12_begin_31 (by decide) ?_
      refine lv_icmp_ge (tgt := 49) hx hb dX12_begin_33 rfl (fun h => absurd h (nI_ge hi (by decide))) (fun _ => ?_)
      refine lv_aload_n hx hb dX12_begin_36 rfl (lv_at hl 1 rfl) ?_
      refine r_get hF ci_X12 fl_X12_118 dX12_begin_37 hP (q0 := 0) rfl rfl ?_
      refine lv_iload_n hx hb dX12_begin_40 rfl (lv_at hl 0 rfl) ?_
      refine lv_lconst (v := 0) hx hb dX12_begin_41 (by decide) ?_
      refine r_last0 hF dX12_begin_42 hP hD hS (q0 := 35) rfl (vp_in_nI hi (by decide)) rfl (fun H locs hP hS => ?_)
      refine lv_iinc (lv' := [(1, .int (nI (i + 1))), (0, .ref h0)]) (k := 0) (v := (nI (i + 1))) hx hb dX12_begin_43 hl rfl (nI_1 i) (by decide) rfl (fun ls hl => ?_)
      refine lv_goto (tgt := 30) hx hb dX12_begin_46 rfl ?_
      exact ih ls H locs hl hP hS
    · have hl : lv_has ls 2 [(1, .int (nI 8)), (0, .ref h0)] := hl
      refine lv_iload_n hx hb dX12_begin_30 rfl (lv_at hl 0 rfl) ?_
      refine lv_bipush (v := 8) hx hb dX12_begin_31 (by decide) ?_
      refine lv_icmp_ge (tgt := 49) hx hb dX12_begin_33 rfl (fun _ => ?_) (fun h => absurd (nI_le (Nat.le_refl 8) (by decide)) h)
      refine lv_iconst (v := 0) hx hb dX12_begin_49 (by decide) ?_
      refine lv_istore_n (lv' := [(1, .int 0), (0, .ref h0)]) hx hb dX12_begin_50 rfl hl (by decide) rfl (fun ls hl => ?_)
      have hl : lv_has ls 2 [(1, .int 0), (0, .ref h0)] := lv_sub hl [0, 1] rfl
      refine r_loop (L0 := fun i => [(1, .int (nI i)), (0, .ref h0)]) 16 hl hP hS (fun i hi ls H locs hl hP hS ih => ?_) (fun ls H locs hl hP hS => ?_)
      · have hl : lv_has ls 2 [(1, .int (nI i)), (0, .ref h0)] := hl
        refine lv_iload_n hx hb dX12_begin_51 rfl (lv_at hl 0 rfl) ?_
        refine lv_bipush (v := 16) hx hb dX12_begin_52 (by decide) ?_
        refine lv_icmp_ge (tgt := 70) hx hb dX12_begin_54 rfl (fun h => absurd h (nI_ge hi (by decide))) (fun _ => ?_)
        refine lv_aload_n hx hb dX12_begin_57 rfl (lv_at hl 1 rfl) ?_
        refine r_get hF ci_X12 fl_X12_130 dX12_begin_58 hP (q0 := 0) rfl rfl ?_
        refine lv_iload_n hx hb dX12_begin_61 rfl (lv_at hl 0 rfl) ?_
        refine lv_lconst (v := 0) hx hb dX12_begin_62 (by decide) ?_
        refine r_last0 hF dX12_begin_63 hP hD hS (q0 := 39) rfl (vp_in_nI hi (by decide)) rfl (fun H locs hP hS => ?_)
        refine lv_iinc (lv' := [(1, .int (nI (i + 1))), (0, .ref h0)]) (k := 0) (v := (nI (i + 1))) hx hb dX12_begin_64 hl rfl (nI_1 i) (by decide) rfl (fun ls hl => ?_)
        refine lv_goto (tgt := 51) hx hb dX12_begin_67 rfl ?_
        exact ih ls H locs hl hP hS
      · have hl : lv_has ls 2 [(1, .int (nI 16)), (0, .ref h0)] := hl
        refine lv_iload_n hx hb dX12_begin_51 rfl (lv_at hl 0 rfl) ?_
        refine lv_bipush (v := 16) hx hb dX12_begin_52 (by decide) ?_
        refine lv_icmp_ge (tgt := 70) hx hb dX12_begin_54 rfl (fun _ => ?_) (fun h => absurd (nI_le (Nat.le_refl 16) (by decide)) h)
        refine lv_iconst (v := 0) hx hb dX12_begin_70 (by decide) ?_
        refine lv_istore_n (lv' := [(1, .int 0), (0, .ref h0)]) hx hb dX12_begin_71 rfl hl (by decide) rfl (fun ls hl => ?_)
        have hl : lv_has ls 2 [(1, .int 0), (0, .ref h0)] := lv_sub hl [0, 1] rfl
        refine r_loop (L0 := fun i => [(1, .int (nI i)), (0, .ref h0)]) 40 hl hP hS (fun i hi ls H locs hl hP hS ih => ?_) (fun ls H locs hl hP hS => ?_)
        · have hl : lv_has ls 2 [(1, .int (nI i)), (0, .ref h0)] := hl
          refine lv_iload_n hx hb dX12_begin_72 rfl (lv_at hl 0 rfl) ?_
          refine lv_bipush (v := 40) hx hb dX12_begin_73 (by decide) ?_
          refine lv_icmp_ge (tgt := 91) hx hb dX12_begin_75 rfl (fun h => absurd h (nI_ge hi (by decide))) (fun _ => ?_)
          refine lv_aload_n hx hb dX12_begin_78 rfl (lv_at hl 1 rfl) ?_
          refine r_get hF ci_X12 fl_X12_139 dX12_begin_79 hP (q0 := 0) rfl rfl ?_
          refine lv_iload_n hx hb dX12_begin_82 rfl (lv_at hl 0 rfl) ?_
          refine lv_lconst (v := 0) hx hb dX12_begin_83 (by decide) ?_
          refine r_last0 hF dX12_begin_84 hP hD hS (q0 := 42) rfl (vp_in_nI hi (by decide)) rfl (fun H locs hP hS => ?_)
          refine lv_iinc (lv' := [(1, .int (nI (i + 1))), (0, .ref h0)]) (k := 0) (v := (nI (i + 1))) hx hb dX12_begin_85 hl rfl (nI_1 i) (by decide) rfl (fun ls hl => ?_)
          refine lv_goto (tgt := 72) hx hb dX12_begin_88 rfl ?_
          exact ih ls H locs hl hP hS
        · have hl : lv_has ls 2 [(1, .int (nI 40)), (0, .ref h0)] := hl
          refine lv_iload_n hx hb dX12_begin_72 rfl (lv_at hl 0 rfl) ?_
          refine lv_bipush (v := 40) hx hb dX12_begin_73 (by decide) ?_
          refine lv_icmp_ge (tgt := 91) hx hb dX12_begin_75 rfl (fun _ => ?_) (fun h => absurd (nI_le (Nat.le_refl 40) (by decide)) h)
          refine lv_aload_n hx hb dX12_begin_91 rfl (lv_at hl 1 rfl) ?_
          refine lv_iconst (v := 0) hx hb dX12_begin_92 (by decide) ?_
          refine r_put0 hF ci_X12 fl_X12_289 dX12_begin_93 hP hD hS (q0 := 0) rfl rfl rfl rfl rfl (fun H locs hP hS => ?_)
          refine lv_aload_n hx hb dX12_begin_96 rfl (lv_at hl 1 rfl) ?_
          refine lv_iconst (v := 0) hx hb dX12_begin_97 (by decide) ?_
          refine r_put0 hF ci_X12 fl_X12_292 dX12_begin_98 hP hD hS (q0 := 0) rfl rfl rfl rfl rfl (fun H locs hP hS => ?_)
          refine lv_aload_n hx hb dX12_begin_101 rfl (lv_at hl 1 rfl) ?_
          refine lv_iconst (v := 0) hx hb dX12_begin_102 (by decide) ?_
          refine r_put0 hF ci_X12 fl_X12_271 dX12_begin_103 hP hD hS (q0 := 0) rfl rfl rfl rfl rfl (fun H locs hP hS => ?_)
          refine lv_aload_n hx hb dX12_begin_106 rfl (lv_at hl 1 rfl) ?_
          refine lv_lconst (v := 0) hx hb dX12_begin_107 (by decide) ?_
          refine r_put0 hF ci_X12 fl_X12_295 dX12_begin_108 hP hD hS (q0 := 0) rfl rfl rfl rfl rfl (fun H locs hP hS => ?_)
          refine lv_aload_n hx hb dX12_begin_111 rfl (lv_at hl 1 rfl) ?_
          refine lv_lconst (v := 0) hx hb dX12_begin_112 (by decide) ?_
          refine r_put0 hF ci_X12 fl_X12_299 dX12_begin_113 hP hD hS (q0 := 0) rfl rfl rfl rfl rfl (fun H locs hP hS => ?_)
          refine lv_aload_n hx hb dX12_begin_116 rfl (lv_at hl 1 rfl) ?_
          refine lv_lconst (v := 0) hx hb dX12_begin_117 (by decide) ?_
          refine r_put0 hF ci_X12 fl_X12_302 dX12_begin_118 hP hD hS (q0 := 0) rfl rfl rfl rfl rfl (fun H locs hP hS => ?_)
          refine lv_aload_n hx hb dX12_begin_121 rfl (lv_at hl 1 rfl) ?_
          refine lv_lconst (v := 0) hx hb dX12_begin_122 (by decide) ?_
          refine r_put0 hF ci_X12 fl_X12_305 dX12_begin_123 hP hD hS (q0 := 0) rfl rfl rfl rfl rfl (fun H locs hP hS => ?_)
          refine lv_iconst (v := 0) hx hb dX12_begin_126 (by decide) ?_
          refine lv_istore_n (lv' := [(1, .int 0), (0, .ref h0)]) hx hb dX12_begin_127 rfl hl (by decide) rfl (fun ls hl => ?_)
          have hl : lv_has ls 2 [(1, .int 0), (0, .ref h0)] := lv_sub hl [0, 1] rfl
          refine r_loop (L0 := fun i => [(1, .int (nI i)), (0, .ref h0)]) 80 hl hP hS (fun i hi ls H locs hl hP hS ih => ?_) (fun ls H locs hl hP hS => ?_)
          · have hl : lv_has ls 2 [(1, .int (nI i)), (0, .ref h0)] := hl
            refine lv_iload_n hx hb dX12_begin_128 rfl (lv_at hl 0 rfl) ?_
            refine lv_bipush (v := 80) hx hb dX12_begin_129 (by decide) ?_
            refine lv_icmp_ge (tgt := 156) hx hb dX12_begin_131 rfl (fun h => absurd h (nI_ge hi (by decide))) (fun _ => ?_)
            refine lv_aload_n hx hb dX12_begin_134 rfl (lv_at hl 1 rfl) ?_
            refine lv_bipush (v := 80) hx hb dX12_begin_135 (by decide) ?_
            refine lv_iload_n hx hb dX12_begin_137 rfl (lv_at hl 0 rfl) ?_
            refine lv_iadd hx hb dX12_begin_138 ?_
            refine lv_iload_n hx hb dX12_begin_139 rfl (lv_at hl 0 rfl) ?_
            rw [show (80 : Int32) + nI i = nI (80 + i) from nI_add 80 i]
            refine r_cKV (As := [.int (nI (80 + i)), .int (nI i)]) (rest := []) hF mv_X12_308 ci_X12 (fun sz => c_X12_copyNode l D t h0 L sr (80 + i) i (by omega) (by omega) sz) dX12_begin_140 rfl rfl (by decide) rfl hl.1 (by decide) hP hD hS hA (q0 := 0) rfl (by decide) rfl (fun H locs hP hS => ?_)
            refine lv_aload_n hx hb dX12_begin_143 rfl (lv_at hl 1 rfl) ?_
            refine r_get hF ci_X12 fl_X12_44 dX12_begin_144 hP (q0 := 0) rfl rfl ?_
            refine lv_iload_n hx hb dX12_begin_147 rfl (lv_at hl 0 rfl) ?_
            refine lv_iconst (v := 0) hx hb dX12_begin_148 (by decide) ?_
            refine r_zast0 hF dX12_begin_149 hP hD hS (q0 := 11) rfl (vp_in_nI hi (by decide)) rfl (fun H locs hP hS => ?_)
            refine lv_iinc (lv' := [(1, .int (nI (i + 1))), (0, .ref h0)]) (k := 0) (v := (nI (i + 1))) hx hb dX12_begin_150 hl rfl (nI_1 i) (by decide) rfl (fun ls hl => ?_)
            refine lv_goto (tgt := 128) hx hb dX12_begin_153 rfl ?_
            exact ih ls H locs hl hP hS
          · have hl : lv_has ls 2 [(1, .int (nI 80)), (0, .ref h0)] := hl
            refine lv_iload_n hx hb dX12_begin_128 rfl (lv_at hl 0 rfl) ?_
            refine lv_bipush (v := 80) hx hb dX12_begin_129 (by decide) ?_
            refine lv_icmp_ge (tgt := 156) hx hb dX12_begin_131 rfl (fun _ => ?_) (fun h => absurd (nI_le (Nat.le_refl 80) (by decide)) h)
            exact r_retV hF hr hlk dX12_begin_156 hP hS
set_option maxRecDepth 100000 in
set_option maxHeartbeats 4000000 in
theorem c_X12_crash (l : Launch) (D : va_G) (t : Nat → ClassId) (h0 : Nat) (L : Nat → Nat) (sr : Nat → Int32) (k : Int32) (sz : Nat) : AI l D t yX12_crash cX12_crash 3 (some .int) ({ frames := 2, cells := 0, slots := 0, locals := 60 }) (mW t h0 L sr) sz [.ref h0, .int k] (tapeA k) := by
  refine go (by decide) (Nat.le_of_ble_eq_true rfl) ?_
  intro p e s m below meth c ls A hF hr hlk hin hsz hAe hP hD hS hA hl
  rw [hAe]
  clear hAe hsz
  have hF : FX p m c cX12_crash 3 s _ RX12 D t := hF
  have hx := hF.1.1
  have hb := hF.1.2.1
  have hls := hl.1
  have hl : lv_has ls 3 [(0, .ref h0), (1, .int k)] := hl
  refine lv_iload_n hx hb dX12_crash_0 rfl (lv_at hl 1 rfl) ?_
  refine lv_if_lt (tgt := 12) hx hb dX12_crash_1 rfl (fun h1 => ?_) (fun h1 => ?_)
  · refine lv_iconst (v := (-1)) hx hb dX12_crash_12 (by decide) ?_
    exact r_retA hF hr hlk rfl dX12_crash_13 hS (by unfold tapeA; rw [if_neg (fun z => by subst z; exact absurd h1 (by decide))])
  · refine lv_iload_n hx hb dX12_crash_4 rfl (lv_at hl 1 rfl) ?_
    refine lv_aload_n hx hb dX12_crash_5 rfl (lv_at hl 0 rfl) ?_
    refine r_get hF ci_X12 fl_X12_271 dX12_crash_6 hP (q0 := 0) rfl rfl ?_
    refine lv_icmp_le (tgt := 14) hx hb dX12_crash_9 rfl (fun h2 => ?_) (fun h2 => ?_)
    · have hk0 : k = 0 := by rcases pk_ix k (n := 1) (by decide) with h3 | h3 | ⟨j3, hj3, e3⟩; exact absurd h3 h1; exact absurd (Int32.le_trans h3 h2) (by decide); exact (by have z3 : j3 = 0 := (by omega); subst z3; exact e3)
      subst hk0
      refine lv_aload_n hx hb dX12_crash_14 rfl (lv_at hl 0 rfl) ?_
      refine r_get hF ci_X12 fl_X12_271 dX12_crash_15 hP (q0 := 0) rfl rfl ?_
      refine lv_istore_n (lv' := [(2, .int 0), (0, .ref h0), (1, .int 0)]) hx hb dX12_crash_18 rfl hl (by decide) rfl (fun ls hl => ?_)
      refine lv_aload_n hx hb dX12_crash_19 rfl (lv_at hl 1 rfl) ?_
      refine lv_iload_n hx hb dX12_crash_20 rfl (lv_at hl 2 rfl) ?_
      refine lv_iconst (v := 0) hx hb dX12_crash_21 (by decide) ?_
      refine r_cKV (As := [.int 0, .int 0]) (rest := []) hF mv_X12_281 ci_X12 (fun sz => c_X12_come l D t h0 L sr sz) dX12_crash_22 rfl rfl (by decide) rfl hl.1 (by decide) hP hD hS hA (q0 := 0) rfl (by decide) rfl (fun H locs hP hS => ?_)
      refine lv_aload_n hx hb dX12_crash_25 rfl (lv_at hl 1 rfl) ?_
      refine r_cKV (As := []) (rest := []) hF mv_X12_258 ci_X12 (fun sz => c_X12_begin l D t h0 L sr sz) dX12_crash_26 rfl rfl (by decide) rfl hl.1 (by decide) hP hD hS hA (q0 := 0) rfl (by decide) rfl (fun H locs hP hS => ?_)
      refine lv_iload_n hx hb dX12_crash_29 rfl (lv_at hl 0 rfl) ?_
      exact r_retA hF hr hlk rfl dX12_crash_30 hS (by decide)
    · refine lv_iconst (v := (-1)) hx hb dX12_crash_12 (by decide) ?_
      exact r_retA hF hr hlk rfl dX12_crash_13 hS (by unfold tapeA; rw [if_neg (fun z => h2 (by rw [z]; exact Int32.le_refl 0))])

theorem dX12_number2_0 : decode cX12_number2 0 = .ok (.aload_n 0, 1) := by decide +kernel
theorem dX12_number2_1 : decode cX12_number2 1 = .ok (.iload_n 1, 1) := by decide +kernel
theorem dX12_number2_2 : decode cX12_number2 2 = .ok (.iconst 2, 1) := by decide +kernel
theorem dX12_number2_3 : decode cX12_number2 3 = .ok (.invokevirtual 364, 3) := by decide +kernel
theorem dX12_number2_6 : decode cX12_number2 6 = .ok (.l2i, 1) := by decide +kernel
theorem dX12_number2_7 : decode cX12_number2 7 = .ok (.ireturn, 1) := by decide +kernel
set_option maxRecDepth 100000 in
set_option maxHeartbeats 4000000 in
theorem c_X12_number2 (l : Launch) (D : va_G) (t : Nat → ClassId) (h0 : Nat) (L : Nat → Nat) (σ : HS) (hO : OK ph τ0 σ) (hM : MdI h0 L σ) (a : Int32) (hz : InM h0 L σ (a.toInt + 2)) (hy : 0 ≤ a.toInt ∧ a.toInt ≤ 100000) (sz : Nat) : HMi ph τ0 l D t yX12_number2 cX12_number2 2 (some .int) ({ frames := 1, cells := 0, slots := 0, locals := 27 }) σ sz [.ref h0, .int a] 0 0 (fun r σ' => MdI h0 L σ' ∧ σ' = σ ∧ (r.toInt = NUM h0 L σ a.toInt 2 ∧ 0 ≤ r.toInt ∧ r.toInt ≤ 65535)) := by
  refine h_go hO (by decide) (Nat.le_of_ble_eq_true rfl) ?_
  intro p e s m below meth c ls A hF hr hlk hAe hH0 hA hl
  unfold hB
  rw [hAe]
  clear hAe
  have hF : FX p m c cX12_number2 2 s _ RX12 D t := hF
  have hx := hF.1.1
  have hb := hF.1.2.1
  have hH : MT D t A s.heap h0 L σ s.heap [] := ⟨hH0, hM⟩
  have hle : HLe σ σ := HLe.rf
  have k_0 : (0 : Int32).toInt = 0 := rfl
  have k_2 : (2 : Int32).toInt = 2 := rfl
  have rg_1 := i_range a
  have hl : lv_has ls 2 [(0, .ref h0), (1, .int a)] := hl
  refine lv_aload_n hx hb dX12_number2_0 rfl (lv_at hl 0 rfl) ?_
  refine lv_iload_n hx hb dX12_number2_1 rfl (lv_at hl 1 rfl) ?_
  refine lv_iconst (v := 2) hx hb dX12_number2_2 (by decide) ?_
  refine m_cVl (As := [.int a, .int 2]) (rest := []) hF hH hA mv_X12_364 (fun sz => c_X12_number l D t h0 L _ hH.1.2.2.2 hH.2 a 2 (by rw [k_2]; exact hz) (by omega) sz) dX12_number2_3 rfl rfl (by decide) rfl hl.1 (Nat.le_of_ble_eq_true rfl) (by decide) rfl (fun z345 σ346 H locs lσ346 pz345 hH => ?_)
  obtain ⟨fz345, pz345⟩ := pz345
  have fz345 := fz345.symm
  subst fz345
  have hlt := NUM_lt (h0 := h0) (L := L) (σ := σ) (a := a.toInt) (n := 2)
  refine lv_l2i hx hb dX12_number2_6 rfl ?_
  refine lv_topi (fun z347 ez347 => ?_)
  try have hz347 := l_toi ez347 (by omega) (by omega)
  have hz2 : z347.toInt = NUM h0 L σ a.toInt 2 := by rw [ez347, pz345, show (2 : Int32).toInt.toNat = 2 from rfl, lN_i, nI_toInt (by omega)]
  exact h_reti hF hr hlk rfl dX12_number2_7 hH.1 hle ⟨hH.2, rfl, ⟨hz2, by omega, by omega⟩⟩
theorem dX12_small_0 : decode cX12_small 0 = .ok (.aload_n 0, 1) := by decide +kernel
theorem dX12_small_1 : decode cX12_small 1 = .ok (.iload_n 1, 1) := by decide +kernel
theorem dX12_small_2 : decode cX12_small 2 = .ok (.invokevirtual 456, 3) := by decide +kernel
theorem dX12_small_5 : decode cX12_small 5 = .ok (.aload_n 0, 1) := by decide +kernel
theorem dX12_small_6 : decode cX12_small 6 = .ok (.bipush 64, 2) := by decide +kernel
theorem dX12_small_8 : decode cX12_small 8 = .ok (.iconst 2, 1) := by decide +kernel
theorem dX12_small_9 : decode cX12_small 9 = .ok (.iload_n 1, 1) := by decide +kernel
theorem dX12_small_10 : decode cX12_small 10 = .ok (.i2l, 1) := by decide +kernel
theorem dX12_small_11 : decode cX12_small 11 = .ok (.invokevirtual 376, 3) := by decide +kernel
theorem dX12_small_14 : decode cX12_small 14 = .ok (.lconst 0, 1) := by decide +kernel
theorem dX12_small_15 : decode cX12_small 15 = .ok (.lreturn, 1) := by decide +kernel
set_option maxRecDepth 100000 in
set_option maxHeartbeats 4000000 in
theorem c_X12_small (l : Launch) (D : va_G) (t : Nat → ClassId) (h0 : Nat) (L : Nat → Nat) (σ : HS) (hO : OK ph τ0 σ) (hM : MdI h0 L σ) (n : Int32) (hz : 0 ≤ n.toInt ∧ n.toInt ≤ 1100) (sz : Nat) : HMl ph τ0 l D t yX12_small cX12_small 2 (some .long) ({ frames := 1, cells := 0, slots := 0, locals := 40 }) σ sz [.ref h0, .int n] 0 0 (fun r σ' => MdI h0 L σ' ∧ Fr h0 L [91] [76] σ σ' ∧ (r = 0)) := by
  refine h_go hO (by decide) (Nat.le_of_ble_eq_true rfl) ?_
  intro p e s m below meth c ls A hF hr hlk hAe hH0 hA hl
  unfold hB
  rw [hAe]
  clear hAe
  have hF : FX p m c cX12_small 2 s _ RX12 D t := hF
  have hx := hF.1.1
  have hb := hF.1.2.1
  have hH : MT D t A s.heap h0 L σ s.heap [] := ⟨hH0, hM⟩
  have hle : HLe σ σ := HLe.rf
  have hfr : Fr h0 L [91] [76] σ σ := Fr.rf
  have kl_0 : (0 : Int64).toInt = 0 := rfl
  have k_0 : (0 : Int32).toInt = 0 := rfl
  have k_2 : (2 : Int32).toInt = 2 := rfl
  have k_64 : (64 : Int32).toInt = 64 := rfl
  have rg_1 := i_range n
  have hl : lv_has ls 2 [(0, .ref h0), (1, .int n)] := hl
  refine lv_aload_n hx hb dX12_small_0 rfl (lv_at hl 0 rfl) ?_
  refine lv_iload_n hx hb dX12_small_1 rfl (lv_at hl 1 rfl) ?_
  refine m_cVv (As := [.int n]) (rest := []) hF hH hA mv_X12_456 (fun sz => c_X12_body l D t h0 L _ hH.1.2.2.2 hH.2 n (by omega) sz) dX12_small_2 rfl rfl (by decide) rfl hl.1 (Nat.le_of_ble_eq_true rfl) (by decide) rfl (fun σ349 H locs lσ349 pz348 hH => ?_)
  obtain ⟨fz348, pz348⟩ := pz348
  have hle := hle.tr lσ349
  have hfr := hfr.tr fz348 (by decide) (by decide)
  refine lv_aload_n hx hb dX12_small_5 rfl (lv_at hl 0 rfl) ?_
  refine lv_bipush (v := 64) hx hb dX12_small_6 (by decide) ?_
  refine lv_iconst (v := 2) hx hb dX12_small_8 (by decide) ?_
  refine lv_iload_n hx hb dX12_small_9 rfl (lv_at hl 1 rfl) ?_
  refine lv_i2l hx hb dX12_small_10 rfl ?_
  refine lv_topl (fun z350 ez350 => ?_)
  have hz350 := i_tol ez350
  refine m_cVv (As := [.int 64, .int 2, .long z350]) (rest := []) hF hH hA mv_X12_376 (fun sz => c_X12_set l D t h0 L _ hH.1.2.2.2 hH.2 64 2 z350 (by omega) sz) dX12_small_11 rfl rfl (by decide) rfl hl.1 (Nat.le_of_ble_eq_true rfl) (by decide) rfl (fun σ352 H locs lσ352 pz351 hH => ?_)
  obtain ⟨fz351, pz351⟩ := pz351
  have hle := hle.tr lσ352
  have hfr := hfr.tr fz351 (by decide) (by decide)
  refine lv_lconst (v := 0) hx hb dX12_small_14 (by decide) ?_
  exact h_retl hF hr hlk dX12_small_15 hH.1 hle ⟨hH.2, hfr, rfl⟩
theorem dX12_header_0 : decode cX12_header 0 = .ok (.iconst 0, 1) := by decide +kernel
theorem dX12_header_1 : decode cX12_header 1 = .ok (.istore 14, 2) := by decide +kernel
theorem dX12_header_3 : decode cX12_header 3 = .ok (.iload 14, 2) := by decide +kernel
theorem dX12_header_5 : decode cX12_header 5 = .ok (.bipush 64, 2) := by decide +kernel
theorem dX12_header_7 : decode cX12_header 7 = .ok (.if_icmp .ge 22, 3) := by decide +kernel
theorem dX12_header_10 : decode cX12_header 10 = .ok (.aload_n 0, 1) := by decide +kernel
theorem dX12_header_11 : decode cX12_header 11 = .ok (.getfield 246, 3) := by decide +kernel
theorem dX12_header_14 : decode cX12_header 14 = .ok (.aload_n 0, 1) := by decide +kernel
theorem dX12_header_15 : decode cX12_header 15 = .ok (.getfield 368, 3) := by decide +kernel
theorem dX12_header_18 : decode cX12_header 18 = .ok (.iload 14, 2) := by decide +kernel
theorem dX12_header_20 : decode cX12_header 20 = .ok (.iadd, 1) := by decide +kernel
theorem dX12_header_21 : decode cX12_header 21 = .ok (.iconst 0, 1) := by decide +kernel
theorem dX12_header_22 : decode cX12_header 22 = .ok (.bastore, 1) := by decide +kernel
theorem dX12_header_23 : decode cX12_header 23 = .ok (.iinc 14 1, 3) := by decide +kernel
theorem dX12_header_26 : decode cX12_header 26 = .ok (.goto (-23), 3) := by decide +kernel
theorem dX12_header_29 : decode cX12_header 29 = .ok (.aload_n 0, 1) := by decide +kernel
theorem dX12_header_30 : decode cX12_header 30 = .ok (.iconst 0, 1) := by decide +kernel
theorem dX12_header_31 : decode cX12_header 31 = .ok (.iconst 4, 1) := by decide +kernel
theorem dX12_header_32 : decode cX12_header 32 = .ok (.ldc2_w 374, 3) := by decide +kernel
theorem dX12_header_35 : decode cX12_header 35 = .ok (.invokevirtual 376, 3) := by decide +kernel
theorem dX12_header_38 : decode cX12_header 38 = .ok (.aload_n 0, 1) := by decide +kernel
theorem dX12_header_39 : decode cX12_header 39 = .ok (.iconst 4, 1) := by decide +kernel
theorem dX12_header_40 : decode cX12_header 40 = .ok (.iconst 2, 1) := by decide +kernel
theorem dX12_header_41 : decode cX12_header 41 = .ok (.ldc2_w 380, 3) := by decide +kernel
theorem dX12_header_44 : decode cX12_header 44 = .ok (.invokevirtual 376, 3) := by decide +kernel
theorem dX12_header_47 : decode cX12_header 47 = .ok (.aload_n 0, 1) := by decide +kernel
theorem dX12_header_48 : decode cX12_header 48 = .ok (.bipush 6, 2) := by decide +kernel
theorem dX12_header_50 : decode cX12_header 50 = .ok (.iconst 2, 1) := by decide +kernel
theorem dX12_header_51 : decode cX12_header 51 = .ok (.iload 4, 2) := by decide +kernel
theorem dX12_header_53 : decode cX12_header 53 = .ok (.i2l, 1) := by decide +kernel
theorem dX12_header_54 : decode cX12_header 54 = .ok (.invokevirtual 376, 3) := by decide +kernel
theorem dX12_header_57 : decode cX12_header 57 = .ok (.aload_n 0, 1) := by decide +kernel
theorem dX12_header_58 : decode cX12_header 58 = .ok (.bipush 8, 2) := by decide +kernel
theorem dX12_header_60 : decode cX12_header 60 = .ok (.iconst 4, 1) := by decide +kernel
theorem dX12_header_61 : decode cX12_header 61 = .ok (.lload_n 1, 1) := by decide +kernel
theorem dX12_header_62 : decode cX12_header 62 = .ok (.invokevirtual 376, 3) := by decide +kernel
theorem dX12_header_65 : decode cX12_header 65 = .ok (.aload_n 0, 1) := by decide +kernel
theorem dX12_header_66 : decode cX12_header 66 = .ok (.bipush 12, 2) := by decide +kernel
theorem dX12_header_68 : decode cX12_header 68 = .ok (.iconst 2, 1) := by decide +kernel
theorem dX12_header_69 : decode cX12_header 69 = .ok (.iload_n 3, 1) := by decide +kernel
theorem dX12_header_70 : decode cX12_header 70 = .ok (.i2l, 1) := by decide +kernel
theorem dX12_header_71 : decode cX12_header 71 = .ok (.invokevirtual 376, 3) := by decide +kernel
theorem dX12_header_74 : decode cX12_header 74 = .ok (.aload_n 0, 1) := by decide +kernel
theorem dX12_header_75 : decode cX12_header 75 = .ok (.bipush 14, 2) := by decide +kernel
theorem dX12_header_77 : decode cX12_header 77 = .ok (.iconst 2, 1) := by decide +kernel
theorem dX12_header_78 : decode cX12_header 78 = .ok (.iload 5, 2) := by decide +kernel
theorem dX12_header_80 : decode cX12_header 80 = .ok (.i2l, 1) := by decide +kernel
theorem dX12_header_81 : decode cX12_header 81 = .ok (.invokevirtual 376, 3) := by decide +kernel
theorem dX12_header_84 : decode cX12_header 84 = .ok (.aload_n 0, 1) := by decide +kernel
theorem dX12_header_85 : decode cX12_header 85 = .ok (.bipush 16, 2) := by decide +kernel
theorem dX12_header_87 : decode cX12_header 87 = .ok (.iconst 4, 1) := by decide +kernel
theorem dX12_header_88 : decode cX12_header 88 = .ok (.lload 6, 2) := by decide +kernel
theorem dX12_header_90 : decode cX12_header 90 = .ok (.invokevirtual 376, 3) := by decide +kernel
theorem dX12_header_93 : decode cX12_header 93 = .ok (.aload_n 0, 1) := by decide +kernel
theorem dX12_header_94 : decode cX12_header 94 = .ok (.bipush 24, 2) := by decide +kernel
theorem dX12_header_96 : decode cX12_header 96 = .ok (.bipush 8, 2) := by decide +kernel
theorem dX12_header_98 : decode cX12_header 98 = .ok (.lload 8, 2) := by decide +kernel
theorem dX12_header_100 : decode cX12_header 100 = .ok (.invokevirtual 376, 3) := by decide +kernel
theorem dX12_header_103 : decode cX12_header 103 = .ok (.aload_n 0, 1) := by decide +kernel
theorem dX12_header_104 : decode cX12_header 104 = .ok (.bipush 32, 2) := by decide +kernel
theorem dX12_header_106 : decode cX12_header 106 = .ok (.bipush 8, 2) := by decide +kernel
theorem dX12_header_108 : decode cX12_header 108 = .ok (.lload 10, 2) := by decide +kernel
theorem dX12_header_110 : decode cX12_header 110 = .ok (.invokevirtual 376, 3) := by decide +kernel
theorem dX12_header_113 : decode cX12_header 113 = .ok (.aload_n 0, 1) := by decide +kernel
theorem dX12_header_114 : decode cX12_header 114 = .ok (.bipush 40, 2) := by decide +kernel
theorem dX12_header_116 : decode cX12_header 116 = .ok (.bipush 8, 2) := by decide +kernel
theorem dX12_header_118 : decode cX12_header 118 = .ok (.lload 12, 2) := by decide +kernel
theorem dX12_header_120 : decode cX12_header 120 = .ok (.invokevirtual 376, 3) := by decide +kernel
theorem dX12_header_123 : decode cX12_header 123 = .ok (.return_, 1) := by decide +kernel
set_option maxRecDepth 100000 in
set_option maxHeartbeats 4000000 in
theorem c_X12_header (l : Launch) (D : va_G) (t : Nat → ClassId) (h0 : Nat) (L : Nat → Nat) (σ : HS) (hO : OK ph τ0 σ) (hM : MdI h0 L σ) (v1 : Int64) (n3 n4 n5 : Int32) (v6 v8 v10 v12 : Int64) (sz : Nat) : HMv ph τ0 l D t yX12_header cX12_header 15 ({ frames := 1, cells := 0, slots := 0, locals := 40 }) σ sz [.ref h0, .long v1, .int n3, .int n4, .int n5, .long v6, .long v8, .long v10, .long v12] 0 0 (fun σ' => MdI h0 L σ' ∧ Fr h0 L [] [76] σ σ' ∧ (True)) := by
  refine h_go hO (by decide) (Nat.le_of_ble_eq_true rfl) ?_
  intro p e s m below meth c ls A hF hr hlk hAe hH0 hA hl
  unfold hB
  rw [hAe]
  clear hAe
  have hF : FX p m c cX12_header 15 s _ RX12 D t := hF
  have hx := hF.1.1
  have hb := hF.1.2.1
  have hH : MT D t A s.heap h0 L σ s.heap [] := ⟨hH0, hM⟩
  have hle : HLe σ σ := HLe.rf
  have hfr : Fr h0 L [] [76] σ σ := Fr.rf
  have kl_64 : (64 : Int64).toInt = 64 := rfl
  have kl_1112364030 : (1112364030 : Int64).toInt = 1112364030 := rfl
  have k_0 : (0 : Int32).toInt = 0 := rfl
  have k_2 : (2 : Int32).toInt = 2 := rfl
  have k_4 : (4 : Int32).toInt = 4 := rfl
  have k_6 : (6 : Int32).toInt = 6 := rfl
  have k_8 : (8 : Int32).toInt = 8 := rfl
  have k_12 : (12 : Int32).toInt = 12 := rfl
  have k_14 : (14 : Int32).toInt = 14 := rfl
  have k_16 : (16 : Int32).toInt = 16 := rfl
  have k_24 : (24 : Int32).toInt = 24 := rfl
  have k_32 : (32 : Int32).toInt = 32 := rfl
  have k_40 : (40 : Int32).toInt = 40 := rfl
  have k_64 : (64 : Int32).toInt = 64 := rfl
  have rg_3 := i_range n3
  have rg_4 := i_range n4
  have rg_5 := i_range n5
  have hl : lv_has ls 15 [(0, .ref h0), (1, .long v1), (3, .int n3), (4, .int n4), (5, .int n5), (6, .long v6), (8, .long v8), (10, .long v10), (12, .long v12)] := hl
  refine lv_iconst (v := 0) hx hb dX12_header_0 (by decide) ?_
  refine lv_istore (lv' := [(14, .int 0), (0, .ref h0), (1, .long v1), (3, .int n3), (4, .int n4), (5, .int n5), (6, .long v6), (8, .long v8), (10, .long v10), (12, .long v12)]) hx hb dX12_header_1 hl (by decide) rfl (fun ls hl => ?_)
  have hl : lv_has ls 15 [(14, .int 0), (12, .long v12), (10, .long v10), (8, .long v8), (6, .long v6), (5, .int n5), (4, .int n4), (3, .int n3), (1, .long v1), (0, .ref h0)] := lv_sub hl [0, 9, 8, 7, 6, 5, 4, 3, 2, 1] rfl
  refine m_loop (β := Int32) (L0 := fun x => [(14, .int x), (12, .long v12), (10, .long v10), (8, .long v8), (6, .long v6), (5, .int n5), (4, .int n4), (3, .int n3), (1, .long v1), (0, .ref h0)]) (I := fun x σ2 => HLe σ σ2 ∧ Fr h0 L [] [76] σ σ2 ∧ (0 ≤ x.toInt ∧ x.toInt ≤ 64)) (fun x σ2 => (64 - x.toInt).toNat) (0) hl ⟨hle, hfr, by (try dsimp only); omega⟩ hH (fun x σL ls H locs hl hI hH ih => ?_)
  obtain ⟨x353, hx1⟩ : ∃ y, y = x := ⟨_, rfl⟩
  subst hx1
  obtain ⟨hle, hfr, hI⟩ := hI
  have hl : lv_has ls 15 [(14, .int x353), (12, .long v12), (10, .long v10), (8, .long v8), (6, .long v6), (5, .int n5), (4, .int n4), (3, .int n3), (1, .long v1), (0, .ref h0)] := hl
  have hI : 0 ≤ x353.toInt ∧ x353.toInt ≤ 64 := hI
  have rg_x353 := i_range x353
  refine lv_iload hx hb dX12_header_3 (lv_at hl 0 rfl) ?_
  refine lv_bipush (v := 64) hx hb dX12_header_5 (by decide) ?_
  refine lv_icmp_ge (tgt := 29) hx hb dX12_header_7 rfl (fun h354 => ?_) (fun h354 => ?_)
  · have ch354 := i_le h354
    refine lv_aload_n hx hb dX12_header_29 rfl (lv_at hl 9 rfl) ?_
    refine lv_iconst (v := 0) hx hb dX12_header_30 (by decide) ?_
    refine lv_iconst (v := 4) hx hb dX12_header_31 (by decide) ?_
    refine lv_ldc2 (v := 1112364030) hx hb hF.1.2.2.2.1 (hF.1.2.2.2.2 _ (wc_47 17 rfl)) dX12_header_32 ?_
    refine m_cVv (As := [.int 0, .int 4, .long 1112364030]) (rest := []) hF hH hA mv_X12_376 (fun sz => c_X12_set l D t h0 L _ hH.1.2.2.2 hH.2 0 4 1112364030 (by omega) sz) dX12_header_35 rfl rfl (by decide) rfl hl.1 (Nat.le_of_ble_eq_true rfl) (by decide) rfl (fun σ356 H locs lσ356 pz355 hH => ?_)
    obtain ⟨fz355, pz355⟩ := pz355
    have hle := hle.tr lσ356
    have hfr := hfr.tr fz355 (by decide) (by decide)
    refine lv_aload_n hx hb dX12_header_38 rfl (lv_at hl 9 rfl) ?_
    refine lv_iconst (v := 4) hx hb dX12_header_39 (by decide) ?_
    refine lv_iconst (v := 2) hx hb dX12_header_40 (by decide) ?_
    refine lv_ldc2 (v := 64) hx hb hF.1.2.2.2.1 (hF.1.2.2.2.2 _ (wc_47 21 rfl)) dX12_header_41 ?_
    refine m_cVv (As := [.int 4, .int 2, .long 64]) (rest := []) hF hH hA mv_X12_376 (fun sz => c_X12_set l D t h0 L _ hH.1.2.2.2 hH.2 4 2 64 (by omega) sz) dX12_header_44 rfl rfl (by decide) rfl hl.1 (Nat.le_of_ble_eq_true rfl) (by decide) rfl (fun σ358 H locs lσ358 pz357 hH => ?_)
    obtain ⟨fz357, pz357⟩ := pz357
    have hle := hle.tr lσ358
    have hfr := hfr.tr fz357 (by decide) (by decide)
    refine lv_aload_n hx hb dX12_header_47 rfl (lv_at hl 9 rfl) ?_
    refine lv_bipush (v := 6) hx hb dX12_header_48 (by decide) ?_
    refine lv_iconst (v := 2) hx hb dX12_header_50 (by decide) ?_
    refine lv_iload hx hb dX12_header_51 (lv_at hl 6 rfl) ?_
    refine lv_i2l hx hb dX12_header_53 rfl ?_
    refine lv_topl (fun z359 ez359 => ?_)
    have hz359 := i_tol ez359
    refine m_cVv (As := [.int 6, .int 2, .long z359]) (rest := []) hF hH hA mv_X12_376 (fun sz => c_X12_set l D t h0 L _ hH.1.2.2.2 hH.2 6 2 z359 (by omega) sz) dX12_header_54 rfl rfl (by decide) rfl hl.1 (Nat.le_of_ble_eq_true rfl) (by decide) rfl (fun σ361 H locs lσ361 pz360 hH => ?_)
    obtain ⟨fz360, pz360⟩ := pz360
    have hle := hle.tr lσ361
    have hfr := hfr.tr fz360 (by decide) (by decide)
    refine lv_aload_n hx hb dX12_header_57 rfl (lv_at hl 9 rfl) ?_
    refine lv_bipush (v := 8) hx hb dX12_header_58 (by decide) ?_
    refine lv_iconst (v := 4) hx hb dX12_header_60 (by decide) ?_
    refine lv_lload_n hx hb dX12_header_61 rfl (lv_at hl 8 rfl) ?_
    refine m_cVv (As := [.int 8, .int 4, .long v1]) (rest := []) hF hH hA mv_X12_376 (fun sz => c_X12_set l D t h0 L _ hH.1.2.2.2 hH.2 8 4 v1 (by omega) sz) dX12_header_62 rfl rfl (by decide) rfl hl.1 (Nat.le_of_ble_eq_true rfl) (by decide) rfl (fun σ363 H locs lσ363 pz362 hH => ?_)
    obtain ⟨fz362, pz362⟩ := pz362
    have hle := hle.tr lσ363
    have hfr := hfr.tr fz362 (by decide) (by decide)
    refine lv_aload_n hx hb dX12_header_65 rfl (lv_at hl 9 rfl) ?_
    refine lv_bipush (v := 12) hx hb dX12_header_66 (by decide) ?_
    refine lv_iconst (v := 2) hx hb dX12_header_68 (by decide) ?_
    refine lv_iload_n hx hb dX12_header_69 rfl (lv_at hl 7 rfl) ?_
    refine lv_i2l hx hb dX12_header_70 rfl ?_
    refine lv_topl (fun z364 ez364 => ?_)
    have hz364 := i_tol ez364
    refine m_cVv (As := [.int 12, .int 2, .long z364]) (rest := []) hF hH hA mv_X12_376 (fun sz => c_X12_set l D t h0 L _ hH.1.2.2.2 hH.2 12 2 z364 (by omega) sz) dX12_header_71 rfl rfl (by decide) rfl hl.1 (Nat.le_of_ble_eq_true rfl) (by decide) rfl (fun σ366 H locs lσ366 pz365 hH => ?_)
    obtain ⟨fz365, pz365⟩ := pz365
    have hle := hle.tr lσ366
    have hfr := hfr.tr fz365 (by decide) (by decide)
    refine lv_aload_n hx hb dX12_header_74 rfl (lv_at hl 9 rfl) ?_
    refine lv_bipush (v := 14) hx hb dX12_header_75 (by decide) ?_
    refine lv_iconst (v := 2) hx hb dX12_header_77 (by decide) ?_
    refine lv_iload hx hb dX12_header_78 (lv_at hl 5 rfl) ?_
    refine lv_i2l hx hb dX12_header_80 rfl ?_
    refine lv_topl (fun z367 ez367 => ?_)
    have hz367 := i_tol ez367
    refine m_cVv (As := [.int 14, .int 2, .long z367]) (rest := []) hF hH hA mv_X12_376 (fun sz => c_X12_set l D t h0 L _ hH.1.2.2.2 hH.2 14 2 z367 (by omega) sz) dX12_header_81 rfl rfl (by decide) rfl hl.1 (Nat.le_of_ble_eq_true rfl) (by decide) rfl (fun σ369 H locs lσ369 pz368 hH => ?_)
    obtain ⟨fz368, pz368⟩ := pz368
    have hle := hle.tr lσ369
    have hfr := hfr.tr fz368 (by decide) (by decide)
    refine lv_aload_n hx hb dX12_header_84 rfl (lv_at hl 9 rfl) ?_
    refine lv_bipush (v := 16) hx hb dX12_header_85 (by decide) ?_
    refine lv_iconst (v := 4) hx hb dX12_header_87 (by decide) ?_
    refine lv_lload hx hb dX12_header_88 (lv_at hl 4 rfl) ?_
    refine m_cVv (As := [.int 16, .int 4, .long v6]) (rest := []) hF hH hA mv_X12_376 (fun sz => c_X12_set l D t h0 L _ hH.1.2.2.2 hH.2 16 4 v6 (by omega) sz) dX12_header_90 rfl rfl (by decide) rfl hl.1 (Nat.le_of_ble_eq_true rfl) (by decide) rfl (fun σ371 H locs lσ371 pz370 hH => ?_)
    obtain ⟨fz370, pz370⟩ := pz370
    have hle := hle.tr lσ371
    have hfr := hfr.tr fz370 (by decide) (by decide)
    refine lv_aload_n hx hb dX12_header_93 rfl (lv_at hl 9 rfl) ?_
    refine lv_bipush (v := 24) hx hb dX12_header_94 (by decide) ?_
    refine lv_bipush (v := 8) hx hb dX12_header_96 (by decide) ?_
    refine lv_lload hx hb dX12_header_98 (lv_at hl 3 rfl) ?_
    refine m_cVv (As := [.int 24, .int 8, .long v8]) (rest := []) hF hH hA mv_X12_376 (fun sz => c_X12_set l D t h0 L _ hH.1.2.2.2 hH.2 24 8 v8 (by omega) sz) dX12_header_100 rfl rfl (by decide) rfl hl.1 (Nat.le_of_ble_eq_true rfl) (by decide) rfl (fun σ373 H locs lσ373 pz372 hH => ?_)
    obtain ⟨fz372, pz372⟩ := pz372
    have hle := hle.tr lσ373
    have hfr := hfr.tr fz372 (by decide) (by decide)
    refine lv_aload_n hx hb dX12_header_103 rfl (lv_at hl 9 rfl) ?_
    refine lv_bipush (v := 32) hx hb dX12_header_104 (by decide) ?_
    refine lv_bipush (v := 8) hx hb dX12_header_106 (by decide) ?_
    refine lv_lload hx hb dX12_header_108 (lv_at hl 2 rfl) ?_
    refine m_cVv (As := [.int 32, .int 8, .long v10]) (rest := []) hF hH hA mv_X12_376 (fun sz => c_X12_set l D t h0 L _ hH.1.2.2.2 hH.2 32 8 v10 (by omega) sz) dX12_header_110 rfl rfl (by decide) rfl hl.1 (Nat.le_of_ble_eq_true rfl) (by decide) rfl (fun σ375 H locs lσ375 pz374 hH => ?_)
    obtain ⟨fz374, pz374⟩ := pz374
    have hle := hle.tr lσ375
    have hfr := hfr.tr fz374 (by decide) (by decide)
    refine lv_aload_n hx hb dX12_header_113 rfl (lv_at hl 9 rfl) ?_
    refine lv_bipush (v := 40) hx hb dX12_header_114 (by decide) ?_
    refine lv_bipush (v := 8) hx hb dX12_header_116 (by decide) ?_
    refine lv_lload hx hb dX12_header_118 (lv_at hl 1 rfl) ?_
    refine m_cVv (As := [.int 40, .int 8, .long v12]) (rest := []) hF hH hA mv_X12_376 (fun sz => c_X12_set l D t h0 L _ hH.1.2.2.2 hH.2 40 8 v12 (by omega) sz) dX12_header_120 rfl rfl (by decide) rfl hl.1 (Nat.le_of_ble_eq_true rfl) (by decide) rfl (fun σ377 H locs lσ377 pz376 hH => ?_)
    obtain ⟨fz376, pz376⟩ := pz376
    have hle := hle.tr lσ377
    have hfr := hfr.tr fz376 (by decide) (by decide)
    exact h_retv hF hr hlk dX12_header_123 hH.1 hle ⟨hH.2, hfr, trivial⟩
  · have ch354 := i_nle h354
    refine lv_aload_n hx hb dX12_header_10 rfl (lv_at hl 9 rfl) ?_
    refine m_getA 76 hF hH fk_X12_246 dX12_header_11 (by decide) rfl ?_
    refine lv_aload_n hx hb dX12_header_14 rfl (lv_at hl 9 rfl) ?_
    refine m_getI hF hH fk_X12_368 dX12_header_15 0 85000 rfl rfl (fun z378 ez378 vz378 => ?_)
    have wz378 := i_eq ez378
    refine lv_iload hx hb dX12_header_18 (lv_at hl 0 rfl) ?_
    refine lv_iadd hx hb dX12_header_20 ?_
    refine lv_topi (fun z379 ez379 => ?_)
    try have hz379 := i_add ez379 (by omega) (by omega)
    refine lv_iconst (v := 0) hx hb dX12_header_21 (by decide) ?_
    have hMp := hH.2
    refine m_bast 76 90000 hF hH dX12_header_22 (by decide) rfl rfl rfl rfl (by omega) (by omega) (fun σ380 H locs eσ380 hH => ?_)
    have hle := hle.tr (show HLe σL σ380 by rw [eσ380]; exact HLe.uI)
    have hfr := hfr.aI hMp (by decide) eσ380 (by decide)
    obtain ⟨z381, ez381⟩ : ∃ z : Int32, z = x353 + Int32.ofInt 1 := ⟨_, rfl⟩
    have hz381 := i_add ez381 (by rw [show (Int32.ofInt 1).toInt = 1 from rfl]; omega) (by rw [show (Int32.ofInt 1).toInt = 1 from rfl]; omega)
    rw [show (Int32.ofInt 1).toInt = 1 from rfl] at hz381
    refine lv_iinc (lv' := [(14, .int z381), (12, .long v12), (10, .long v10), (8, .long v8), (6, .long v6), (5, .int n5), (4, .int n4), (3, .int n3), (1, .long v1), (0, .ref h0)]) (k := 0) (v := z381) hx hb dX12_header_23 hl rfl ez381.symm (by decide) rfl (fun ls hl => ?_)
    refine lv_goto (tgt := 3) hx hb dX12_header_26 rfl ?_
    have hl : lv_has ls 15 [(14, .int z381), (12, .long v12), (10, .long v10), (8, .long v8), (6, .long v6), (5, .int n5), (4, .int n4), (3, .int n3), (1, .long v1), (0, .ref h0)] := lv_sub hl [0, 1, 2, 3, 4, 5, 6, 7, 8, 9] rfl
    exact ih (z381) σ380 ls H locs (by (try dsimp only); omega) hl ⟨hle, hfr, by (try dsimp only); omega⟩ hH
theorem dX12_send_0 : decode cX12_send 0 = .ok (.aload_n 0, 1) := by decide +kernel
theorem dX12_send_1 : decode cX12_send 1 = .ok (.getfield 89, 3) := by decide +kernel
theorem dX12_send_4 : decode cX12_send 4 = .ok (.iload_n 1, 1) := by decide +kernel
theorem dX12_send_5 : decode cX12_send 5 = .ok (.baload, 1) := by decide +kernel
theorem dX12_send_6 : decode cX12_send 6 = .ok (.ifCond .eq 19, 3) := by decide +kernel
theorem dX12_send_9 : decode cX12_send 9 = .ok (.aload_n 0, 1) := by decide +kernel
theorem dX12_send_10 : decode cX12_send 10 = .ok (.getfield 99, 3) := by decide +kernel
theorem dX12_send_13 : decode cX12_send 13 = .ok (.iload_n 1, 1) := by decide +kernel
theorem dX12_send_14 : decode cX12_send 14 = .ok (.iaload, 1) := by decide +kernel
theorem dX12_send_15 : decode cX12_send 15 = .ok (.iconst 4, 1) := by decide +kernel
theorem dX12_send_16 : decode cX12_send 16 = .ok (.iadd, 1) := by decide +kernel
theorem dX12_send_17 : decode cX12_send 17 = .ok (.iload_n 3, 1) := by decide +kernel
theorem dX12_send_18 : decode cX12_send 18 = .ok (.iadd, 1) := by decide +kernel
theorem dX12_send_19 : decode cX12_send 19 = .ok (.sipush 16000, 3) := by decide +kernel
theorem dX12_send_22 : decode cX12_send 22 = .ok (.if_icmp .le 4, 3) := by decide +kernel
theorem dX12_send_25 : decode cX12_send 25 = .ok (.return_, 1) := by decide +kernel
theorem dX12_send_26 : decode cX12_send 26 = .ok (.sipush 16000, 3) := by decide +kernel
theorem dX12_send_29 : decode cX12_send 29 = .ok (.iload_n 1, 1) := by decide +kernel
theorem dX12_send_30 : decode cX12_send 30 = .ok (.imul, 1) := by decide +kernel
theorem dX12_send_31 : decode cX12_send 31 = .ok (.aload_n 0, 1) := by decide +kernel
theorem dX12_send_32 : decode cX12_send 32 = .ok (.getfield 99, 3) := by decide +kernel
theorem dX12_send_35 : decode cX12_send 35 = .ok (.iload_n 1, 1) := by decide +kernel
theorem dX12_send_36 : decode cX12_send 36 = .ok (.iaload, 1) := by decide +kernel
theorem dX12_send_37 : decode cX12_send 37 = .ok (.iadd, 1) := by decide +kernel
theorem dX12_send_38 : decode cX12_send 38 = .ok (.istore 4, 2) := by decide +kernel
theorem dX12_send_40 : decode cX12_send 40 = .ok (.aload_n 0, 1) := by decide +kernel
theorem dX12_send_41 : decode cX12_send 41 = .ok (.getfield 96, 3) := by decide +kernel
theorem dX12_send_44 : decode cX12_send 44 = .ok (.iload 4, 2) := by decide +kernel
theorem dX12_send_46 : decode cX12_send 46 = .ok (.iconst 0, 1) := by decide +kernel
theorem dX12_send_47 : decode cX12_send 47 = .ok (.bastore, 1) := by decide +kernel
theorem dX12_send_48 : decode cX12_send 48 = .ok (.aload_n 0, 1) := by decide +kernel
theorem dX12_send_49 : decode cX12_send 49 = .ok (.getfield 96, 3) := by decide +kernel
theorem dX12_send_52 : decode cX12_send 52 = .ok (.iload 4, 2) := by decide +kernel
theorem dX12_send_54 : decode cX12_send 54 = .ok (.iconst 1, 1) := by decide +kernel
theorem dX12_send_55 : decode cX12_send 55 = .ok (.iadd, 1) := by decide +kernel
theorem dX12_send_56 : decode cX12_send 56 = .ok (.iload_n 3, 1) := by decide +kernel
theorem dX12_send_57 : decode cX12_send 57 = .ok (.bipush 16, 2) := by decide +kernel
theorem dX12_send_59 : decode cX12_send 59 = .ok (.ishr, 1) := by decide +kernel
theorem dX12_send_60 : decode cX12_send 60 = .ok (.i2b, 1) := by decide +kernel
theorem dX12_send_61 : decode cX12_send 61 = .ok (.bastore, 1) := by decide +kernel
theorem dX12_send_62 : decode cX12_send 62 = .ok (.aload_n 0, 1) := by decide +kernel
theorem dX12_send_63 : decode cX12_send 63 = .ok (.getfield 96, 3) := by decide +kernel
theorem dX12_send_66 : decode cX12_send 66 = .ok (.iload 4, 2) := by decide +kernel
theorem dX12_send_68 : decode cX12_send 68 = .ok (.iconst 2, 1) := by decide +kernel
theorem dX12_send_69 : decode cX12_send 69 = .ok (.iadd, 1) := by decide +kernel
theorem dX12_send_70 : decode cX12_send 70 = .ok (.iload_n 3, 1) := by decide +kernel
theorem dX12_send_71 : decode cX12_send 71 = .ok (.bipush 8, 2) := by decide +kernel
theorem dX12_send_73 : decode cX12_send 73 = .ok (.ishr, 1) := by decide +kernel
theorem dX12_send_74 : decode cX12_send 74 = .ok (.i2b, 1) := by decide +kernel
theorem dX12_send_75 : decode cX12_send 75 = .ok (.bastore, 1) := by decide +kernel
theorem dX12_send_76 : decode cX12_send 76 = .ok (.aload_n 0, 1) := by decide +kernel
theorem dX12_send_77 : decode cX12_send 77 = .ok (.getfield 96, 3) := by decide +kernel
theorem dX12_send_80 : decode cX12_send 80 = .ok (.iload 4, 2) := by decide +kernel
theorem dX12_send_82 : decode cX12_send 82 = .ok (.iconst 3, 1) := by decide +kernel
theorem dX12_send_83 : decode cX12_send 83 = .ok (.iadd, 1) := by decide +kernel
theorem dX12_send_84 : decode cX12_send 84 = .ok (.iload_n 3, 1) := by decide +kernel
theorem dX12_send_85 : decode cX12_send 85 = .ok (.i2b, 1) := by decide +kernel
theorem dX12_send_86 : decode cX12_send 86 = .ok (.bastore, 1) := by decide +kernel
theorem dX12_send_87 : decode cX12_send 87 = .ok (.iconst 0, 1) := by decide +kernel
theorem dX12_send_88 : decode cX12_send 88 = .ok (.istore 5, 2) := by decide +kernel
theorem dX12_send_90 : decode cX12_send 90 = .ok (.iload 5, 2) := by decide +kernel
theorem dX12_send_92 : decode cX12_send 92 = .ok (.iload_n 3, 1) := by decide +kernel
theorem dX12_send_93 : decode cX12_send 93 = .ok (.if_icmp .ge 30, 3) := by decide +kernel
theorem dX12_send_96 : decode cX12_send 96 = .ok (.aload_n 0, 1) := by decide +kernel
theorem dX12_send_97 : decode cX12_send 97 = .ok (.getfield 96, 3) := by decide +kernel
theorem dX12_send_100 : decode cX12_send 100 = .ok (.iload 4, 2) := by decide +kernel
theorem dX12_send_102 : decode cX12_send 102 = .ok (.iconst 4, 1) := by decide +kernel
theorem dX12_send_103 : decode cX12_send 103 = .ok (.iadd, 1) := by decide +kernel
theorem dX12_send_104 : decode cX12_send 104 = .ok (.iload 5, 2) := by decide +kernel
theorem dX12_send_106 : decode cX12_send 106 = .ok (.iadd, 1) := by decide +kernel
theorem dX12_send_107 : decode cX12_send 107 = .ok (.aload_n 0, 1) := by decide +kernel
theorem dX12_send_108 : decode cX12_send 108 = .ok (.getfield 246, 3) := by decide +kernel
theorem dX12_send_111 : decode cX12_send 111 = .ok (.iload_n 2, 1) := by decide +kernel
theorem dX12_send_112 : decode cX12_send 112 = .ok (.iload 5, 2) := by decide +kernel
theorem dX12_send_114 : decode cX12_send 114 = .ok (.iadd, 1) := by decide +kernel
theorem dX12_send_115 : decode cX12_send 115 = .ok (.baload, 1) := by decide +kernel
theorem dX12_send_116 : decode cX12_send 116 = .ok (.bastore, 1) := by decide +kernel
theorem dX12_send_117 : decode cX12_send 117 = .ok (.iinc 5 1, 3) := by decide +kernel
theorem dX12_send_120 : decode cX12_send 120 = .ok (.goto (-30), 3) := by decide +kernel
theorem dX12_send_123 : decode cX12_send 123 = .ok (.aload_n 0, 1) := by decide +kernel
theorem dX12_send_124 : decode cX12_send 124 = .ok (.getfield 99, 3) := by decide +kernel
theorem dX12_send_127 : decode cX12_send 127 = .ok (.iload_n 1, 1) := by decide +kernel
theorem dX12_send_128 : decode cX12_send 128 = .ok (.dup2, 1) := by decide +kernel
theorem dX12_send_129 : decode cX12_send 129 = .ok (.iaload, 1) := by decide +kernel
theorem dX12_send_130 : decode cX12_send 130 = .ok (.iconst 4, 1) := by decide +kernel
theorem dX12_send_131 : decode cX12_send 131 = .ok (.iload_n 3, 1) := by decide +kernel
theorem dX12_send_132 : decode cX12_send 132 = .ok (.iadd, 1) := by decide +kernel
theorem dX12_send_133 : decode cX12_send 133 = .ok (.iadd, 1) := by decide +kernel
theorem dX12_send_134 : decode cX12_send 134 = .ok (.iastore, 1) := by decide +kernel
theorem dX12_send_135 : decode cX12_send 135 = .ok (.return_, 1) := by decide +kernel
set_option maxRecDepth 100000 in
set_option maxHeartbeats 4000000 in
theorem c_X12_send (l : Launch) (D : va_G) (t : Nat → ClassId) (h0 : Nat) (L : Nat → Nat) (σ : HS) (hO : OK ph τ0 σ) (hM : MdI h0 L σ) (k a n : Int32) (hz : 0 ≤ k.toInt ∧ k.toInt < 6 ∧ 0 ≤ a.toInt ∧ 0 ≤ n.toInt ∧ a.toInt + n.toInt ≤ 90000) (sz : Nat) : HMv ph τ0 l D t yX12_send cX12_send 6 ({ frames := 0, cells := 0, slots := 0, locals := 0 }) σ sz [.ref h0, .int k, .int a, .int n] 0 0 (fun σ' => MdI h0 L σ' ∧ Fr h0 L [] [27, 28] σ σ' ∧ (True)) := by
  refine h_go hO (by decide) (Nat.le_of_ble_eq_true rfl) ?_
  intro p e s m below meth c ls A hF hr hlk hAe hH0 hA hl
  unfold hB
  rw [hAe]
  clear hAe
  have hF : FX p m c cX12_send 6 s _ RX12 D t := hF
  have hx := hF.1.1
  have hb := hF.1.2.1
  have hH : MT D t A s.heap h0 L σ s.heap [] := ⟨hH0, hM⟩
  have hle : HLe σ σ := HLe.rf
  have hfr : Fr h0 L [] [27, 28] σ σ := Fr.rf
  have k_0 : (0 : Int32).toInt = 0 := rfl
  have k_1 : (1 : Int32).toInt = 1 := rfl
  have k_2 : (2 : Int32).toInt = 2 := rfl
  have k_3 : (3 : Int32).toInt = 3 := rfl
  have k_4 : (4 : Int32).toInt = 4 := rfl
  have k_8 : (8 : Int32).toInt = 8 := rfl
  have k_16 : (16 : Int32).toInt = 16 := rfl
  have k_16000 : (16000 : Int32).toInt = 16000 := rfl
  have rg_1 := i_range k
  have rg_2 := i_range a
  have rg_3 := i_range n
  have hl : lv_has ls 6 [(0, .ref h0), (1, .int k), (2, .int a), (3, .int n)] := hl
  have kp_28 : sI σ (L 28) = sI σ (L 28) := rfl
  refine lv_aload_n hx hb dX12_send_0 rfl (lv_at hl 0 rfl) ?_
  refine m_getA 25 hF hH fk_X12_89 dX12_send_1 (by decide) rfl ?_
  refine lv_iload_n hx hb dX12_send_4 rfl (lv_at hl 1 rfl) ?_
  refine m_zald 25 6 hF hH dX12_send_5 (by decide) rfl rfl 0 1 rfl rfl (by omega) (by omega) (fun z382 ez382 vz382 => ?_)
  have wz382 := i_eq ez382
  refine lv_if_eq (tgt := 25) hx hb dX12_send_6 rfl (fun h383 => ?_) (fun h383 => ?_)
  · have ch383 := i_eq h383
    exact h_retv hF hr hlk dX12_send_25 hH.1 hle ⟨hH.2, hfr, trivial⟩
  · have ch383 := i_ne h383
    refine lv_aload_n hx hb dX12_send_9 rfl (lv_at hl 0 rfl) ?_
    refine m_getA 28 hF hH fk_X12_99 dX12_send_10 (by decide) rfl ?_
    refine lv_iload_n hx hb dX12_send_13 rfl (lv_at hl 1 rfl) ?_
    refine m_iald 28 6 hF hH dX12_send_14 (by decide) rfl rfl 0 16000 rfl rfl (by omega) (by omega) (fun z384 ez384 vz384 => ?_)
    have wz384 := i_eq ez384
    refine lv_iconst (v := 4) hx hb dX12_send_15 (by decide) ?_
    refine lv_iadd hx hb dX12_send_16 ?_
    refine lv_topi (fun z385 ez385 => ?_)
    try have hz385 := i_add ez385 (by omega) (by omega)
    refine lv_iload_n hx hb dX12_send_17 rfl (lv_at hl 3 rfl) ?_
    refine lv_iadd hx hb dX12_send_18 ?_
    refine lv_topi (fun z386 ez386 => ?_)
    try have hz386 := i_add ez386 (by omega) (by omega)
    refine lv_sipush (v := 16000) hx hb dX12_send_19 (by decide) ?_
    refine lv_icmp_le (tgt := 26) hx hb dX12_send_22 rfl (fun h387 => ?_) (fun h387 => ?_)
    · have ch387 := i_le h387
      refine lv_sipush (v := 16000) hx hb dX12_send_26 (by decide) ?_
      refine lv_iload_n hx hb dX12_send_29 rfl (lv_at hl 1 rfl) ?_
      refine lv_imul hx hb dX12_send_30 ?_
      refine lv_topi (fun z388 ez388 => ?_)
      try have hz388 := i_mulk 16000 rfl ez388 (by omega) (by omega)
      refine lv_aload_n hx hb dX12_send_31 rfl (lv_at hl 0 rfl) ?_
      refine m_getA 28 hF hH fk_X12_99 dX12_send_32 (by decide) rfl ?_
      refine lv_iload_n hx hb dX12_send_35 rfl (lv_at hl 1 rfl) ?_
      refine m_iald 28 6 hF hH dX12_send_36 (by decide) rfl rfl 0 16000 rfl rfl (by omega) (by omega) (fun z389 ez389 vz389 => ?_)
      have wz389 := i_eq ez389
      refine lv_iadd hx hb dX12_send_37 ?_
      refine lv_topi (fun z390 ez390 => ?_)
      try have hz390 := i_add ez390 (by omega) (by omega)
      refine lv_istore (lv' := [(4, .int z390), (0, .ref h0), (1, .int k), (2, .int a), (3, .int n)]) hx hb dX12_send_38 hl (by decide) rfl (fun ls hl => ?_)
      refine lv_aload_n hx hb dX12_send_40 rfl (lv_at hl 1 rfl) ?_
      refine m_getA 27 hF hH fk_X12_96 dX12_send_41 (by decide) rfl ?_
      refine lv_iload hx hb dX12_send_44 (lv_at hl 0 rfl) ?_
      refine lv_iconst (v := 0) hx hb dX12_send_46 (by decide) ?_
      have hMp := hH.2
      refine m_bast 27 96000 hF hH dX12_send_47 (by decide) rfl rfl rfl rfl (by omega) (by omega) (fun σ391 H locs eσ391 hH => ?_)
      have kp_28 : sI σ391 (L 28) = sI σ (L 28) := (keepAA eσ391 hMp (by decide) (by decide) (by decide)).trans kp_28
      have hle := hle.tr (show HLe σ σ391 by rw [eσ391]; exact HLe.uI)
      have hfr := hfr.aI hMp (by decide) eσ391 (by decide)
      refine lv_aload_n hx hb dX12_send_48 rfl (lv_at hl 1 rfl) ?_
      refine m_getA 27 hF hH fk_X12_96 dX12_send_49 (by decide) rfl ?_
      refine lv_iload hx hb dX12_send_52 (lv_at hl 0 rfl) ?_
      refine lv_iconst (v := 1) hx hb dX12_send_54 (by decide) ?_
      refine lv_iadd hx hb dX12_send_55 ?_
      refine lv_topi (fun z392 ez392 => ?_)
      try have hz392 := i_add ez392 (by omega) (by omega)
      refine lv_iload_n hx hb dX12_send_56 rfl (lv_at hl 4 rfl) ?_
      refine lv_bipush (v := 16) hx hb dX12_send_57 (by decide) ?_
      refine lv_ishr hx hb dX12_send_59 ?_
      refine lv_topi (fun z393 ez393 => ?_)
      refine lv_i2b hx hb dX12_send_60 rfl ?_
      refine lv_topi (fun z394 ez394 => ?_)
      have hMp := hH.2
      refine m_bast 27 96000 hF hH dX12_send_61 (by decide) rfl rfl rfl rfl (by omega) (by omega) (fun σ395 H locs eσ395 hH => ?_)
      have kp_28 : sI σ395 (L 28) = sI σ (L 28) := (keepAA eσ395 hMp (by decide) (by decide) (by decide)).trans kp_28
      have hle := hle.tr (show HLe σ391 σ395 by rw [eσ395]; exact HLe.uI)
      have hfr := hfr.aI hMp (by decide) eσ395 (by decide)
      refine lv_aload_n hx hb dX12_send_62 rfl (lv_at hl 1 rfl) ?_
      refine m_getA 27 hF hH fk_X12_96 dX12_send_63 (by decide) rfl ?_
      refine lv_iload hx hb dX12_send_66 (lv_at hl 0 rfl) ?_
      refine lv_iconst (v := 2) hx hb dX12_send_68 (by decide) ?_
      refine lv_iadd hx hb dX12_send_69 ?_
      refine lv_topi (fun z396 ez396 => ?_)
      try have hz396 := i_add ez396 (by omega) (by omega)
      refine lv_iload_n hx hb dX12_send_70 rfl (lv_at hl 4 rfl) ?_
      refine lv_bipush (v := 8) hx hb dX12_send_71 (by decide) ?_
      refine lv_ishr hx hb dX12_send_73 ?_
      refine lv_topi (fun z397 ez397 => ?_)
      refine lv_i2b hx hb dX12_send_74 rfl ?_
      refine lv_topi (fun z398 ez398 => ?_)
      have hMp := hH.2
      refine m_bast 27 96000 hF hH dX12_send_75 (by decide) rfl rfl rfl rfl (by omega) (by omega) (fun σ399 H locs eσ399 hH => ?_)
      have kp_28 : sI σ399 (L 28) = sI σ (L 28) := (keepAA eσ399 hMp (by decide) (by decide) (by decide)).trans kp_28
      have hle := hle.tr (show HLe σ395 σ399 by rw [eσ399]; exact HLe.uI)
      have hfr := hfr.aI hMp (by decide) eσ399 (by decide)
      refine lv_aload_n hx hb dX12_send_76 rfl (lv_at hl 1 rfl) ?_
      refine m_getA 27 hF hH fk_X12_96 dX12_send_77 (by decide) rfl ?_
      refine lv_iload hx hb dX12_send_80 (lv_at hl 0 rfl) ?_
      refine lv_iconst (v := 3) hx hb dX12_send_82 (by decide) ?_
      refine lv_iadd hx hb dX12_send_83 ?_
      refine lv_topi (fun z400 ez400 => ?_)
      try have hz400 := i_add ez400 (by omega) (by omega)
      refine lv_iload_n hx hb dX12_send_84 rfl (lv_at hl 4 rfl) ?_
      refine lv_i2b hx hb dX12_send_85 rfl ?_
      refine lv_topi (fun z401 ez401 => ?_)
      have hMp := hH.2
      refine m_bast 27 96000 hF hH dX12_send_86 (by decide) rfl rfl rfl rfl (by omega) (by omega) (fun σ402 H locs eσ402 hH => ?_)
      have kp_28 : sI σ402 (L 28) = sI σ (L 28) := (keepAA eσ402 hMp (by decide) (by decide) (by decide)).trans kp_28
      have hle := hle.tr (show HLe σ399 σ402 by rw [eσ402]; exact HLe.uI)
      have hfr := hfr.aI hMp (by decide) eσ402 (by decide)
      refine lv_iconst (v := 0) hx hb dX12_send_87 (by decide) ?_
      refine lv_istore (lv' := [(5, .int 0), (4, .int z390), (0, .ref h0), (1, .int k), (2, .int a), (3, .int n)]) hx hb dX12_send_88 hl (by decide) rfl (fun ls hl => ?_)
      have hl : lv_has ls 6 [(5, .int 0), (4, .int z390), (3, .int n), (2, .int a), (1, .int k), (0, .ref h0)] := lv_sub hl [0, 1, 5, 4, 3, 2] rfl
      have hat : 0 ≤ z390.toInt ∧ z390.toInt + 4 + n.toInt ≤ 96000 := by omega
      have hos : (sI σ (L 28) k.toInt.toNat).toInt + 4 + n.toInt ≤ 16000 := by omega
      refine m_loop (β := Int32) (L0 := fun x => [(5, .int x), (4, .int z390), (3, .int n), (2, .int a), (1, .int k), (0, .ref h0)]) (I := fun x σ2 => HLe σ σ2 ∧ Fr h0 L [] [27, 28] σ σ2 ∧ ((0 ≤ x.toInt ∧ x.toInt ≤ n.toInt) ∧ sI σ2 (L 28) = sI σ (L 28))) (fun x σ2 => (n.toInt - x.toInt).toNat) (0) hl ⟨hle, hfr, ⟨by (try dsimp only); omega, kp_28⟩⟩ hH (fun x σL ls H locs hl hI hH ih => ?_)
      obtain ⟨x403, hx1⟩ : ∃ y, y = x := ⟨_, rfl⟩
      subst hx1
      obtain ⟨hle, hfr, hI⟩ := hI
      have hl : lv_has ls 6 [(5, .int x403), (4, .int z390), (3, .int n), (2, .int a), (1, .int k), (0, .ref h0)] := hl
      have hI : (0 ≤ x403.toInt ∧ x403.toInt ≤ n.toInt) ∧ sI σL (L 28) = sI σ (L 28) := hI
      have rg_x403 := i_range x403
      have kp_28 : sI σL (L 28) = sI σ (L 28) := hI.2
      have hI := hI.1
      refine lv_iload hx hb dX12_send_90 (lv_at hl 0 rfl) ?_
      refine lv_iload_n hx hb dX12_send_92 rfl (lv_at hl 2 rfl) ?_
      refine lv_icmp_ge (tgt := 123) hx hb dX12_send_93 rfl (fun h404 => ?_) (fun h404 => ?_)
      · have ch404 := i_le h404
        refine lv_aload_n hx hb dX12_send_123 rfl (lv_at hl 5 rfl) ?_
        refine m_getA 28 hF hH fk_X12_99 dX12_send_124 (by decide) rfl ?_
        refine lv_iload_n hx hb dX12_send_127 rfl (lv_at hl 4 rfl) ?_
        refine lv_dup2_11 hx hb dX12_send_128 rfl rfl ?_
        refine m_iald 28 6 hF hH dX12_send_129 (by decide) rfl rfl 0 16000 rfl rfl (by omega) (by omega) (fun z405 ez405 vz405 => ?_)
        have wz405 := i_eq (ez405.trans (congrFun kp_28 _))
        refine lv_iconst (v := 4) hx hb dX12_send_130 (by decide) ?_
        refine lv_iload_n hx hb dX12_send_131 rfl (lv_at hl 2 rfl) ?_
        refine lv_iadd hx hb dX12_send_132 ?_
        refine lv_topi (fun z406 ez406 => ?_)
        try have hz406 := i_add ez406 (by omega) (by omega)
        refine lv_iadd hx hb dX12_send_133 ?_
        refine lv_topi (fun z407 ez407 => ?_)
        try have hz407 := i_add ez407 (by omega) (by omega)
        have hMp := hH.2
        refine m_iast 28 6 hF hH dX12_send_134 (by decide) rfl rfl 0 16000 rfl rfl (by omega) (by omega) (by omega) (fun σ408 H locs eσ408 hH => ?_)
        have kp_28 : sI σ408 (L 28) = upd (sI σ (L 28)) k.toInt.toNat z407 := by rw [eσ408]; exact u2_upd.trans (congrArg (fun f => upd f k.toInt.toNat z407) kp_28)
        have hle := hle.tr (show HLe σL σ408 by rw [eσ408]; exact HLe.uI)
        have hfr := hfr.aI hMp (by decide) eσ408 (by decide)
        exact h_retv hF hr hlk dX12_send_135 hH.1 hle ⟨hH.2, hfr, trivial⟩
      · have ch404 := i_nle h404
        refine lv_aload_n hx hb dX12_send_96 rfl (lv_at hl 5 rfl) ?_
        refine m_getA 27 hF hH fk_X12_96 dX12_send_97 (by decide) rfl ?_
        refine lv_iload hx hb dX12_send_100 (lv_at hl 1 rfl) ?_
        refine lv_iconst (v := 4) hx hb dX12_send_102 (by decide) ?_
        refine lv_iadd hx hb dX12_send_103 ?_
        refine lv_topi (fun z409 ez409 => ?_)
        try have hz409 := i_add ez409 (by omega) (by omega)
        refine lv_iload hx hb dX12_send_104 (lv_at hl 0 rfl) ?_
        refine lv_iadd hx hb dX12_send_106 ?_
        refine lv_topi (fun z410 ez410 => ?_)
        try have hz410 := i_add ez410 (by omega) (by omega)
        refine lv_aload_n hx hb dX12_send_107 rfl (lv_at hl 5 rfl) ?_
        refine m_getA 76 hF hH fk_X12_246 dX12_send_108 (by decide) rfl ?_
        refine lv_iload_n hx hb dX12_send_111 rfl (lv_at hl 3 rfl) ?_
        refine lv_iload hx hb dX12_send_112 (lv_at hl 0 rfl) ?_
        refine lv_iadd hx hb dX12_send_114 ?_
        refine lv_topi (fun z411 ez411 => ?_)
        try have hz411 := i_add ez411 (by omega) (by omega)
        refine m_bald 76 90000 hF hH dX12_send_115 (by decide) rfl rfl (-128) 127 rfl rfl (by omega) (by omega) (fun z412 ez412 vz412 => ?_)
        have wz412 := i_eq ez412
        have hMp := hH.2
        refine m_bast 27 96000 hF hH dX12_send_116 (by decide) rfl rfl rfl rfl (by omega) (by omega) (fun σ413 H locs eσ413 hH => ?_)
        have kp_28 : sI σ413 (L 28) = sI σ (L 28) := (keepAA eσ413 hMp (by decide) (by decide) (by decide)).trans kp_28
        have hle := hle.tr (show HLe σL σ413 by rw [eσ413]; exact HLe.uI)
        have hfr := hfr.aI hMp (by decide) eσ413 (by decide)
        obtain ⟨z414, ez414⟩ : ∃ z : Int32, z = x403 + Int32.ofInt 1 := ⟨_, rfl⟩
        have hz414 := i_add ez414 (by rw [show (Int32.ofInt 1).toInt = 1 from rfl]; omega) (by rw [show (Int32.ofInt 1).toInt = 1 from rfl]; omega)
        rw [show (Int32.ofInt 1).toInt = 1 from rfl] at hz414
        refine lv_iinc (lv' := [(5, .int z414), (4, .int z390), (3, .int n), (2, .int a), (1, .int k), (0, .ref h0)]) (k := 0) (v := z414) hx hb dX12_send_117 hl rfl ez414.symm (by decide) rfl (fun ls hl => ?_)
        refine lv_goto (tgt := 90) hx hb dX12_send_120 rfl ?_
        have hl : lv_has ls 6 [(5, .int z414), (4, .int z390), (3, .int n), (2, .int a), (1, .int k), (0, .ref h0)] := lv_sub hl [0, 1, 2, 3, 4, 5] rfl
        exact ih (z414) σ413 ls H locs (by (try dsimp only); omega) hl ⟨hle, hfr, ⟨by (try dsimp only); omega, kp_28⟩⟩ hH
    · have ch387 := i_nle h387
      exact h_retv hF hr hlk dX12_send_25 hH.1 hle ⟨hH.2, hfr, trivial⟩
theorem dX12_takeId_0 : decode cX12_takeId 0 = .ok (.iconst 0, 1) := by decide +kernel
theorem dX12_takeId_1 : decode cX12_takeId 1 = .ok (.istore 4, 2) := by decide +kernel
theorem dX12_takeId_3 : decode cX12_takeId 3 = .ok (.iload 4, 2) := by decide +kernel
theorem dX12_takeId_5 : decode cX12_takeId 5 = .ok (.aload_n 0, 1) := by decide +kernel
theorem dX12_takeId_6 : decode cX12_takeId 6 = .ok (.getfield 112, 3) := by decide +kernel
theorem dX12_takeId_9 : decode cX12_takeId 9 = .ok (.iload_n 1, 1) := by decide +kernel
theorem dX12_takeId_10 : decode cX12_takeId 10 = .ok (.iaload, 1) := by decide +kernel
theorem dX12_takeId_11 : decode cX12_takeId 11 = .ok (.if_icmp .ge 66, 3) := by decide +kernel
theorem dX12_takeId_14 : decode cX12_takeId 14 = .ok (.aload_n 0, 1) := by decide +kernel
theorem dX12_takeId_15 : decode cX12_takeId 15 = .ok (.getfield 109, 3) := by decide +kernel
theorem dX12_takeId_18 : decode cX12_takeId 18 = .ok (.bipush 16, 2) := by decide +kernel
theorem dX12_takeId_20 : decode cX12_takeId 20 = .ok (.iload_n 1, 1) := by decide +kernel
theorem dX12_takeId_21 : decode cX12_takeId 21 = .ok (.imul, 1) := by decide +kernel
theorem dX12_takeId_22 : decode cX12_takeId 22 = .ok (.iload 4, 2) := by decide +kernel
theorem dX12_takeId_24 : decode cX12_takeId 24 = .ok (.iadd, 1) := by decide +kernel
theorem dX12_takeId_25 : decode cX12_takeId 25 = .ok (.laload, 1) := by decide +kernel
theorem dX12_takeId_26 : decode cX12_takeId 26 = .ok (.lload_n 2, 1) := by decide +kernel
theorem dX12_takeId_27 : decode cX12_takeId 27 = .ok (.lcmp, 1) := by decide +kernel
theorem dX12_takeId_28 : decode cX12_takeId 28 = .ok (.ifCond .ne 43, 3) := by decide +kernel
theorem dX12_takeId_31 : decode cX12_takeId 31 = .ok (.aload_n 0, 1) := by decide +kernel
theorem dX12_takeId_32 : decode cX12_takeId 32 = .ok (.getfield 112, 3) := by decide +kernel
theorem dX12_takeId_35 : decode cX12_takeId 35 = .ok (.iload_n 1, 1) := by decide +kernel
theorem dX12_takeId_36 : decode cX12_takeId 36 = .ok (.dup2, 1) := by decide +kernel
theorem dX12_takeId_37 : decode cX12_takeId 37 = .ok (.iaload, 1) := by decide +kernel
theorem dX12_takeId_38 : decode cX12_takeId 38 = .ok (.iconst 1, 1) := by decide +kernel
theorem dX12_takeId_39 : decode cX12_takeId 39 = .ok (.isub, 1) := by decide +kernel
theorem dX12_takeId_40 : decode cX12_takeId 40 = .ok (.iastore, 1) := by decide +kernel
theorem dX12_takeId_41 : decode cX12_takeId 41 = .ok (.aload_n 0, 1) := by decide +kernel
theorem dX12_takeId_42 : decode cX12_takeId 42 = .ok (.getfield 109, 3) := by decide +kernel
theorem dX12_takeId_45 : decode cX12_takeId 45 = .ok (.bipush 16, 2) := by decide +kernel
theorem dX12_takeId_47 : decode cX12_takeId 47 = .ok (.iload_n 1, 1) := by decide +kernel
theorem dX12_takeId_48 : decode cX12_takeId 48 = .ok (.imul, 1) := by decide +kernel
theorem dX12_takeId_49 : decode cX12_takeId 49 = .ok (.iload 4, 2) := by decide +kernel
theorem dX12_takeId_51 : decode cX12_takeId 51 = .ok (.iadd, 1) := by decide +kernel
theorem dX12_takeId_52 : decode cX12_takeId 52 = .ok (.aload_n 0, 1) := by decide +kernel
theorem dX12_takeId_53 : decode cX12_takeId 53 = .ok (.getfield 109, 3) := by decide +kernel
theorem dX12_takeId_56 : decode cX12_takeId 56 = .ok (.bipush 16, 2) := by decide +kernel
theorem dX12_takeId_58 : decode cX12_takeId 58 = .ok (.iload_n 1, 1) := by decide +kernel
theorem dX12_takeId_59 : decode cX12_takeId 59 = .ok (.imul, 1) := by decide +kernel
theorem dX12_takeId_60 : decode cX12_takeId 60 = .ok (.aload_n 0, 1) := by decide +kernel
theorem dX12_takeId_61 : decode cX12_takeId 61 = .ok (.getfield 112, 3) := by decide +kernel
theorem dX12_takeId_64 : decode cX12_takeId 64 = .ok (.iload_n 1, 1) := by decide +kernel
theorem dX12_takeId_65 : decode cX12_takeId 65 = .ok (.iaload, 1) := by decide +kernel
theorem dX12_takeId_66 : decode cX12_takeId 66 = .ok (.iadd, 1) := by decide +kernel
theorem dX12_takeId_67 : decode cX12_takeId 67 = .ok (.laload, 1) := by decide +kernel
theorem dX12_takeId_68 : decode cX12_takeId 68 = .ok (.lastore, 1) := by decide +kernel
theorem dX12_takeId_69 : decode cX12_takeId 69 = .ok (.iconst 1, 1) := by decide +kernel
theorem dX12_takeId_70 : decode cX12_takeId 70 = .ok (.ireturn, 1) := by decide +kernel
theorem dX12_takeId_71 : decode cX12_takeId 71 = .ok (.iinc 4 1, 3) := by decide +kernel
theorem dX12_takeId_74 : decode cX12_takeId 74 = .ok (.goto (-71), 3) := by decide +kernel
theorem dX12_takeId_77 : decode cX12_takeId 77 = .ok (.iconst 0, 1) := by decide +kernel
theorem dX12_takeId_78 : decode cX12_takeId 78 = .ok (.ireturn, 1) := by decide +kernel
set_option maxRecDepth 100000 in
set_option maxHeartbeats 4000000 in
theorem c_X12_takeId (l : Launch) (D : va_G) (t : Nat → ClassId) (h0 : Nat) (L : Nat → Nat) (σ : HS) (hO : OK ph τ0 σ) (hM : MdI h0 L σ) (k : Int32) (v : Int64) (hz : 0 ≤ k.toInt ∧ k.toInt < 6) (sz : Nat) : HMi ph τ0 l D t yX12_takeId cX12_takeId 5 (some .boolean) ({ frames := 0, cells := 0, slots := 0, locals := 0 }) σ sz [.ref h0, .int k, .long v] 0 0 (fun r σ' => MdI h0 L σ' ∧ Fr h0 L [] [31, 32] σ σ' ∧ (0 ≤ r.toInt ∧ r.toInt ≤ 1)) := by
  refine h_go hO (by decide) (Nat.le_of_ble_eq_true rfl) ?_
  intro p e s m below meth c ls A hF hr hlk hAe hH0 hA hl
  unfold hB
  rw [hAe]
  clear hAe
  have hF : FX p m c cX12_takeId 5 s _ RX12 D t := hF
  have hx := hF.1.1
  have hb := hF.1.2.1
  have hH : MT D t A s.heap h0 L σ s.heap [] := ⟨hH0, hM⟩
  have hle : HLe σ σ := HLe.rf
  have hfr : Fr h0 L [] [31, 32] σ σ := Fr.rf
  have k_0 : (0 : Int32).toInt = 0 := rfl
  have k_1 : (1 : Int32).toInt = 1 := rfl
  have k_16 : (16 : Int32).toInt = 16 := rfl
  have rg_1 := i_range k
  have hl : lv_has ls 5 [(0, .ref h0), (1, .int k), (2, .long v)] := hl
  refine lv_iconst (v := 0) hx hb dX12_takeId_0 (by decide) ?_
  refine lv_istore (lv' := [(4, .int 0), (0, .ref h0), (1, .int k), (2, .long v)]) hx hb dX12_takeId_1 hl (by decide) rfl (fun ls hl => ?_)
  have hl : lv_has ls 5 [(4, .int 0), (2, .long v), (1, .int k), (0, .ref h0)] := lv_sub hl [0, 3, 2, 1] rfl
  refine m_loop (β := Int32) (L0 := fun x => [(4, .int x), (2, .long v), (1, .int k), (0, .ref h0)]) (I := fun x σ2 => HLe σ σ2 ∧ Fr h0 L [] [31, 32] σ σ2 ∧ ((0 ≤ x.toInt ∧ x.toInt ≤ 16))) (fun x σ2 => (16 - x.toInt).toNat) (0) hl ⟨hle, hfr, by (try dsimp only); omega⟩ hH (fun x σL ls H locs hl hI hH ih => ?_)
  obtain ⟨x415, hx1⟩ : ∃ y, y = x := ⟨_, rfl⟩
  subst hx1
  obtain ⟨hle, hfr, hI⟩ := hI
  have hl : lv_has ls 5 [(4, .int x415), (2, .long v), (1, .int k), (0, .ref h0)] := hl
  have hI : (0 ≤ x415.toInt ∧ x415.toInt ≤ 16) := hI
  have rg_x415 := i_range x415
  refine lv_iload hx hb dX12_takeId_3 (lv_at hl 0 rfl) ?_
  refine lv_aload_n hx hb dX12_takeId_5 rfl (lv_at hl 3 rfl) ?_
  refine m_getA 32 hF hH fk_X12_112 dX12_takeId_6 (by decide) rfl ?_
  refine lv_iload_n hx hb dX12_takeId_9 rfl (lv_at hl 2 rfl) ?_
  refine m_iald 32 6 hF hH dX12_takeId_10 (by decide) rfl rfl 0 16 rfl rfl (by omega) (by omega) (fun z416 ez416 vz416 => ?_)
  have wz416 := i_eq ez416
  refine lv_icmp_ge (tgt := 77) hx hb dX12_takeId_11 rfl (fun h417 => ?_) (fun h417 => ?_)
  · have ch417 := i_le h417
    refine lv_iconst (v := 0) hx hb dX12_takeId_77 (by decide) ?_
    exact h_reti hF hr hlk (i_01 (by omega)).1 dX12_takeId_78 hH.1 hle ⟨hH.2, hfr, by (try dsimp only); omega⟩
  · have ch417 := i_nle h417
    refine lv_aload_n hx hb dX12_takeId_14 rfl (lv_at hl 3 rfl) ?_
    refine m_getA 31 hF hH fk_X12_109 dX12_takeId_15 (by decide) rfl ?_
    refine lv_bipush (v := 16) hx hb dX12_takeId_18 (by decide) ?_
    refine lv_iload_n hx hb dX12_takeId_20 rfl (lv_at hl 2 rfl) ?_
    refine lv_imul hx hb dX12_takeId_21 ?_
    refine lv_topi (fun z418 ez418 => ?_)
    try have hz418 := i_mulk 16 rfl ez418 (by omega) (by omega)
    refine lv_iload hx hb dX12_takeId_22 (lv_at hl 0 rfl) ?_
    refine lv_iadd hx hb dX12_takeId_24 ?_
    refine lv_topi (fun z419 ez419 => ?_)
    try have hz419 := i_add ez419 (by omega) (by omega)
    refine m_lald 31 96 hF hH dX12_takeId_25 (by decide) rfl rfl (by omega) (by omega) (fun z420 ez420 => ?_)
    refine lv_lload_n hx hb dX12_takeId_26 rfl (lv_at hl 1 rfl) ?_
    refine W.lcmp hx hb dX12_takeId_27 ?_
    refine lv_topi (fun z421 ez421 => ?_)
    have hz421 := l_cmp ez421
    refine lv_if_ne (tgt := 71) hx hb dX12_takeId_28 rfl (fun h422 => ?_) (fun h422 => ?_)
    · have ch422 := i_ne h422
      obtain ⟨z423, ez423⟩ : ∃ z : Int32, z = x415 + Int32.ofInt 1 := ⟨_, rfl⟩
      have hz423 := i_add ez423 (by rw [show (Int32.ofInt 1).toInt = 1 from rfl]; omega) (by rw [show (Int32.ofInt 1).toInt = 1 from rfl]; omega)
      rw [show (Int32.ofInt 1).toInt = 1 from rfl] at hz423
      refine lv_iinc (lv' := [(4, .int z423), (2, .long v), (1, .int k), (0, .ref h0)]) (k := 0) (v := z423) hx hb dX12_takeId_71 hl rfl ez423.symm (by decide) rfl (fun ls hl => ?_)
      refine lv_goto (tgt := 3) hx hb dX12_takeId_74 rfl ?_
      have hl : lv_has ls 5 [(4, .int z423), (2, .long v), (1, .int k), (0, .ref h0)] := lv_sub hl [0, 1, 2, 3] rfl
      exact ih (z423) σL ls H locs (by (try dsimp only); omega) hl ⟨hle, hfr, by (try dsimp only); omega⟩ hH
    · have ch422 := i_eq h422
      refine lv_aload_n hx hb dX12_takeId_31 rfl (lv_at hl 3 rfl) ?_
      refine m_getA 32 hF hH fk_X12_112 dX12_takeId_32 (by decide) rfl ?_
      refine lv_iload_n hx hb dX12_takeId_35 rfl (lv_at hl 2 rfl) ?_
      refine lv_dup2_11 hx hb dX12_takeId_36 rfl rfl ?_
      refine m_iald 32 6 hF hH dX12_takeId_37 (by decide) rfl rfl 0 16 rfl rfl (by omega) (by omega) (fun z424 ez424 vz424 => ?_)
      have wz424 := i_eq ez424
      refine lv_iconst (v := 1) hx hb dX12_takeId_38 (by decide) ?_
      refine lv_isub hx hb dX12_takeId_39 ?_
      refine lv_topi (fun z425 ez425 => ?_)
      try have hz425 := i_sub ez425 (by omega) (by omega)
      have hMp := hH.2
      refine m_iast 32 6 hF hH dX12_takeId_40 (by decide) rfl rfl 0 16 rfl rfl (by omega) (by omega) (by omega) (fun σ426 H locs eσ426 hH => ?_)
      have hle := hle.tr (show HLe σL σ426 by rw [eσ426]; exact HLe.uI)
      have hfr := hfr.aI hMp (by decide) eσ426 (by decide)
      refine lv_aload_n hx hb dX12_takeId_41 rfl (lv_at hl 3 rfl) ?_
      refine m_getA 31 hF hH fk_X12_109 dX12_takeId_42 (by decide) rfl ?_
      refine lv_bipush (v := 16) hx hb dX12_takeId_45 (by decide) ?_
      refine lv_iload_n hx hb dX12_takeId_47 rfl (lv_at hl 2 rfl) ?_
      refine lv_imul hx hb dX12_takeId_48 ?_
      refine lv_topi (fun z427 ez427 => ?_)
      try have hz427 := i_mulk 16 rfl ez427 (by omega) (by omega)
      refine lv_iload hx hb dX12_takeId_49 (lv_at hl 0 rfl) ?_
      refine lv_iadd hx hb dX12_takeId_51 ?_
      refine lv_topi (fun z428 ez428 => ?_)
      try have hz428 := i_add ez428 (by omega) (by omega)
      refine lv_aload_n hx hb dX12_takeId_52 rfl (lv_at hl 3 rfl) ?_
      refine m_getA 31 hF hH fk_X12_109 dX12_takeId_53 (by decide) rfl ?_
      refine lv_bipush (v := 16) hx hb dX12_takeId_56 (by decide) ?_
      refine lv_iload_n hx hb dX12_takeId_58 rfl (lv_at hl 2 rfl) ?_
      refine lv_imul hx hb dX12_takeId_59 ?_
      refine lv_topi (fun z429 ez429 => ?_)
      try have hz429 := i_mulk 16 rfl ez429 (by omega) (by omega)
      refine lv_aload_n hx hb dX12_takeId_60 rfl (lv_at hl 3 rfl) ?_
      refine m_getA 32 hF hH fk_X12_112 dX12_takeId_61 (by decide) rfl ?_
      refine lv_iload_n hx hb dX12_takeId_64 rfl (lv_at hl 2 rfl) ?_
      refine m_iald 32 6 hF hH dX12_takeId_65 (by decide) rfl rfl 0 16 rfl rfl (by omega) (by omega) (fun z430 ez430 vz430 => ?_)
      have wz430 := i_eq ez430
      have uz430 : z430.toInt = z425.toInt := by rw [ez430, eσ426]; exact congrArg Int32.toInt u2_same
      refine lv_iadd hx hb dX12_takeId_66 ?_
      refine lv_topi (fun z431 ez431 => ?_)
      try have hz431 := i_add ez431 (by omega) (by omega)
      refine m_lald 31 96 hF hH dX12_takeId_67 (by decide) rfl rfl (by omega) (by omega) (fun z432 ez432 => ?_)
      have hMp := hH.2
      refine m_last 31 96 hF hH dX12_takeId_68 (by decide) rfl rfl (by omega) (by omega) (fun σ433 H locs eσ433 hH => ?_)
      have hle := hle.tr (show HLe σ426 σ433 by rw [eσ433]; exact HLe.uJ)
      have hfr := hfr.aJ hMp (by decide) eσ433 (by decide)
      refine lv_iconst (v := 1) hx hb dX12_takeId_69 (by decide) ?_
      exact h_reti hF hr hlk (i_01 (by omega)).1 dX12_takeId_70 hH.1 hle ⟨hH.2, hfr, by (try dsimp only); omega⟩
theorem dX12_grant_0 : decode cX12_grant 0 = .ok (.iload_n 2, 1) := by decide +kernel
theorem dX12_grant_1 : decode cX12_grant 1 = .ok (.iconst 1, 1) := by decide +kernel
theorem dX12_grant_2 : decode cX12_grant 2 = .ok (.if_icmp .ge 7, 3) := by decide +kernel
theorem dX12_grant_5 : decode cX12_grant 5 = .ok (.iconst 1, 1) := by decide +kernel
theorem dX12_grant_6 : decode cX12_grant 6 = .ok (.goto 4, 3) := by decide +kernel
theorem dX12_grant_9 : decode cX12_grant 9 = .ok (.iload_n 2, 1) := by decide +kernel
theorem dX12_grant_10 : decode cX12_grant 10 = .ok (.istore_n 3, 1) := by decide +kernel
theorem dX12_grant_11 : decode cX12_grant 11 = .ok (.bipush 16, 2) := by decide +kernel
theorem dX12_grant_13 : decode cX12_grant 13 = .ok (.aload_n 0, 1) := by decide +kernel
theorem dX12_grant_14 : decode cX12_grant 14 = .ok (.getfield 112, 3) := by decide +kernel
theorem dX12_grant_17 : decode cX12_grant 17 = .ok (.iload_n 1, 1) := by decide +kernel
theorem dX12_grant_18 : decode cX12_grant 18 = .ok (.iaload, 1) := by decide +kernel
theorem dX12_grant_19 : decode cX12_grant 19 = .ok (.isub, 1) := by decide +kernel
theorem dX12_grant_20 : decode cX12_grant 20 = .ok (.istore 4, 2) := by decide +kernel
theorem dX12_grant_22 : decode cX12_grant 22 = .ok (.iload_n 3, 1) := by decide +kernel
theorem dX12_grant_23 : decode cX12_grant 23 = .ok (.iload 4, 2) := by decide +kernel
theorem dX12_grant_25 : decode cX12_grant 25 = .ok (.if_icmp .le 8, 3) := by decide +kernel
theorem dX12_grant_28 : decode cX12_grant 28 = .ok (.iload 4, 2) := by decide +kernel
theorem dX12_grant_30 : decode cX12_grant 30 = .ok (.goto 4, 3) := by decide +kernel
theorem dX12_grant_33 : decode cX12_grant 33 = .ok (.iload_n 3, 1) := by decide +kernel
theorem dX12_grant_34 : decode cX12_grant 34 = .ok (.istore_n 3, 1) := by decide +kernel
theorem dX12_grant_35 : decode cX12_grant 35 = .ok (.iconst 0, 1) := by decide +kernel
theorem dX12_grant_36 : decode cX12_grant 36 = .ok (.istore 5, 2) := by decide +kernel
theorem dX12_grant_38 : decode cX12_grant 38 = .ok (.iload 5, 2) := by decide +kernel
theorem dX12_grant_40 : decode cX12_grant 40 = .ok (.iload_n 3, 1) := by decide +kernel
theorem dX12_grant_41 : decode cX12_grant 41 = .ok (.if_icmp .ge 51, 3) := by decide +kernel
theorem dX12_grant_44 : decode cX12_grant 44 = .ok (.aload_n 0, 1) := by decide +kernel
theorem dX12_grant_45 : decode cX12_grant 45 = .ok (.getfield 115, 3) := by decide +kernel
theorem dX12_grant_48 : decode cX12_grant 48 = .ok (.iload_n 1, 1) := by decide +kernel
theorem dX12_grant_49 : decode cX12_grant 49 = .ok (.dup2, 1) := by decide +kernel
theorem dX12_grant_50 : decode cX12_grant 50 = .ok (.laload, 1) := by decide +kernel
theorem dX12_grant_51 : decode cX12_grant 51 = .ok (.lconst 1, 1) := by decide +kernel
theorem dX12_grant_52 : decode cX12_grant 52 = .ok (.ladd, 1) := by decide +kernel
theorem dX12_grant_53 : decode cX12_grant 53 = .ok (.lastore, 1) := by decide +kernel
theorem dX12_grant_54 : decode cX12_grant 54 = .ok (.aload_n 0, 1) := by decide +kernel
theorem dX12_grant_55 : decode cX12_grant 55 = .ok (.getfield 109, 3) := by decide +kernel
theorem dX12_grant_58 : decode cX12_grant 58 = .ok (.bipush 16, 2) := by decide +kernel
theorem dX12_grant_60 : decode cX12_grant 60 = .ok (.iload_n 1, 1) := by decide +kernel
theorem dX12_grant_61 : decode cX12_grant 61 = .ok (.imul, 1) := by decide +kernel
theorem dX12_grant_62 : decode cX12_grant 62 = .ok (.aload_n 0, 1) := by decide +kernel
theorem dX12_grant_63 : decode cX12_grant 63 = .ok (.getfield 112, 3) := by decide +kernel
theorem dX12_grant_66 : decode cX12_grant 66 = .ok (.iload_n 1, 1) := by decide +kernel
theorem dX12_grant_67 : decode cX12_grant 67 = .ok (.iaload, 1) := by decide +kernel
theorem dX12_grant_68 : decode cX12_grant 68 = .ok (.iadd, 1) := by decide +kernel
theorem dX12_grant_69 : decode cX12_grant 69 = .ok (.aload_n 0, 1) := by decide +kernel
theorem dX12_grant_70 : decode cX12_grant 70 = .ok (.getfield 115, 3) := by decide +kernel
theorem dX12_grant_73 : decode cX12_grant 73 = .ok (.iload_n 1, 1) := by decide +kernel
theorem dX12_grant_74 : decode cX12_grant 74 = .ok (.laload, 1) := by decide +kernel
theorem dX12_grant_75 : decode cX12_grant 75 = .ok (.lastore, 1) := by decide +kernel
theorem dX12_grant_76 : decode cX12_grant 76 = .ok (.aload_n 0, 1) := by decide +kernel
theorem dX12_grant_77 : decode cX12_grant 77 = .ok (.getfield 112, 3) := by decide +kernel
theorem dX12_grant_80 : decode cX12_grant 80 = .ok (.iload_n 1, 1) := by decide +kernel
theorem dX12_grant_81 : decode cX12_grant 81 = .ok (.dup2, 1) := by decide +kernel
theorem dX12_grant_82 : decode cX12_grant 82 = .ok (.iaload, 1) := by decide +kernel
theorem dX12_grant_83 : decode cX12_grant 83 = .ok (.iconst 1, 1) := by decide +kernel
theorem dX12_grant_84 : decode cX12_grant 84 = .ok (.iadd, 1) := by decide +kernel
theorem dX12_grant_85 : decode cX12_grant 85 = .ok (.iastore, 1) := by decide +kernel
theorem dX12_grant_86 : decode cX12_grant 86 = .ok (.iinc 5 1, 3) := by decide +kernel
theorem dX12_grant_89 : decode cX12_grant 89 = .ok (.goto (-51), 3) := by decide +kernel
theorem dX12_grant_92 : decode cX12_grant 92 = .ok (.iload_n 3, 1) := by decide +kernel
theorem dX12_grant_93 : decode cX12_grant 93 = .ok (.ireturn, 1) := by decide +kernel
set_option maxRecDepth 100000 in
set_option maxHeartbeats 4000000 in
theorem c_X12_grant (l : Launch) (D : va_G) (t : Nat → ClassId) (h0 : Nat) (L : Nat → Nat) (σ : HS) (hO : OK ph τ0 σ) (hM : MdI h0 L σ) (k q : Int32) (hz : 0 ≤ k.toInt ∧ k.toInt < 6) (sz : Nat) : HMi ph τ0 l D t yX12_grant cX12_grant 6 (some .int) ({ frames := 0, cells := 0, slots := 0, locals := 0 }) σ sz [.ref h0, .int k, .int q] 0 0 (fun r σ' => MdI h0 L σ' ∧ Fr h0 L [] [31, 32, 33] σ σ' ∧ (0 ≤ r.toInt ∧ r.toInt ≤ 16)) := by
  refine h_go hO (by decide) (Nat.le_of_ble_eq_true rfl) ?_
  intro p e s m below meth c ls A hF hr hlk hAe hH0 hA hl
  unfold hB
  rw [hAe]
  clear hAe
  have hF : FX p m c cX12_grant 6 s _ RX12 D t := hF
  have hx := hF.1.1
  have hb := hF.1.2.1
  have hH : MT D t A s.heap h0 L σ s.heap [] := ⟨hH0, hM⟩
  have hle : HLe σ σ := HLe.rf
  have hfr : Fr h0 L [] [31, 32, 33] σ σ := Fr.rf
  have kl_1 : (1 : Int64).toInt = 1 := rfl
  have k_0 : (0 : Int32).toInt = 0 := rfl
  have k_1 : (1 : Int32).toInt = 1 := rfl
  have k_16 : (16 : Int32).toInt = 16 := rfl
  have rg_1 := i_range k
  have rg_2 := i_range q
  have hl : lv_has ls 6 [(0, .ref h0), (1, .int k), (2, .int q)] := hl
  refine lv_iload_n hx hb dX12_grant_0 rfl (lv_at hl 2 rfl) ?_
  refine lv_iconst (v := 1) hx hb dX12_grant_1 (by decide) ?_
  refine lv_icmp_ge (tgt := 9) hx hb dX12_grant_2 rfl (fun h434 => ?_) (fun h434 => ?_)
  · have ch434 := i_le h434
    refine lv_iload_n hx hb dX12_grant_9 rfl (lv_at hl 2 rfl) ?_
    refine lv_istore_n (lv' := [(3, .int q), (0, .ref h0), (1, .int k), (2, .int q)]) hx hb dX12_grant_10 rfl hl (by decide) rfl (fun ls hl => ?_)
    refine lv_bipush (v := 16) hx hb dX12_grant_11 (by decide) ?_
    refine lv_aload_n hx hb dX12_grant_13 rfl (lv_at hl 1 rfl) ?_
    refine m_getA 32 hF hH fk_X12_112 dX12_grant_14 (by decide) rfl ?_
    refine lv_iload_n hx hb dX12_grant_17 rfl (lv_at hl 2 rfl) ?_
    refine m_iald 32 6 hF hH dX12_grant_18 (by decide) rfl rfl 0 16 rfl rfl (by omega) (by omega) (fun z435 ez435 vz435 => ?_)
    have wz435 := i_eq ez435
    refine lv_isub hx hb dX12_grant_19 ?_
    refine lv_topi (fun z436 ez436 => ?_)
    try have hz436 := i_sub ez436 (by omega) (by omega)
    refine lv_istore (lv' := [(4, .int z436), (3, .int q), (0, .ref h0), (1, .int k), (2, .int q)]) hx hb dX12_grant_20 hl (by decide) rfl (fun ls hl => ?_)
    refine lv_iload_n hx hb dX12_grant_22 rfl (lv_at hl 1 rfl) ?_
    refine lv_iload hx hb dX12_grant_23 (lv_at hl 0 rfl) ?_
    refine lv_icmp_le (tgt := 33) hx hb dX12_grant_25 rfl (fun h437 => ?_) (fun h437 => ?_)
    · have ch437 := i_le h437
      refine lv_iload_n hx hb dX12_grant_33 rfl (lv_at hl 1 rfl) ?_
      refine lv_istore_n (lv' := [(3, .int q), (4, .int z436), (0, .ref h0), (1, .int k), (2, .int q)]) hx hb dX12_grant_34 rfl hl (by decide) rfl (fun ls hl => ?_)
      refine lv_iconst (v := 0) hx hb dX12_grant_35 (by decide) ?_
      refine lv_istore (lv' := [(5, .int 0), (3, .int q), (4, .int z436), (0, .ref h0), (1, .int k), (2, .int q)]) hx hb dX12_grant_36 hl (by decide) rfl (fun ls hl => ?_)
      have hl : lv_has ls 6 [(5, .int 0), (4, .int z436), (3, .int q), (2, .int q), (1, .int k), (0, .ref h0)] := lv_sub hl [0, 2, 1, 5, 4, 3] rfl
      have kp_32 : sI σ (L 32) = sI σ (L 32) := rfl
      have hq0 : 0 ≤ q.toInt ∧ (sI σ (L 32) k.toInt.toNat).toInt + q.toInt ≤ 16 := by omega
      refine m_loop (β := Int32) (L0 := fun x => [(5, .int x), (4, .int z436), (3, .int q), (2, .int q), (1, .int k), (0, .ref h0)]) (I := fun x σ2 => HLe σ σ2 ∧ Fr h0 L [] [31, 32, 33] σ σ2 ∧ ((0 ≤ x.toInt ∧ x.toInt ≤ q.toInt) ∧ (sI σ2 (L 32) k.toInt.toNat).toInt + (q.toInt - x.toInt) ≤ 16)) (fun x σ2 => (q.toInt - x.toInt).toNat) (0) hl ⟨hle, hfr, ⟨by (try dsimp only); omega, by (try dsimp only); omega⟩⟩ hH (fun x σL ls H locs hl hI hH ih => ?_)
      obtain ⟨x438, hx1⟩ : ∃ y, y = x := ⟨_, rfl⟩
      subst hx1
      obtain ⟨hle, hfr, hI⟩ := hI
      have hl : lv_has ls 6 [(5, .int x438), (4, .int z436), (3, .int q), (2, .int q), (1, .int k), (0, .ref h0)] := hl
      have hI : (0 ≤ x438.toInt ∧ x438.toInt ≤ q.toInt) ∧ (sI σL (L 32) k.toInt.toNat).toInt + (q.toInt - x438.toInt) ≤ 16 := hI
      have rg_x438 := i_range x438
      have kp_32 : sI σL (L 32) = sI σL (L 32) := rfl
      refine lv_iload hx hb dX12_grant_38 (lv_at hl 0 rfl) ?_
      refine lv_iload_n hx hb dX12_grant_40 rfl (lv_at hl 2 rfl) ?_
      refine lv_icmp_ge (tgt := 92) hx hb dX12_grant_41 rfl (fun h439 => ?_) (fun h439 => ?_)
      · have ch439 := i_le h439
        refine lv_iload_n hx hb dX12_grant_92 rfl (lv_at hl 2 rfl) ?_
        exact h_reti hF hr hlk rfl dX12_grant_93 hH.1 hle ⟨hH.2, hfr, by (try dsimp only); omega⟩
      · have ch439 := i_nle h439
        refine lv_aload_n hx hb dX12_grant_44 rfl (lv_at hl 5 rfl) ?_
        refine m_getA 33 hF hH fk_X12_115 dX12_grant_45 (by decide) rfl ?_
        refine lv_iload_n hx hb dX12_grant_48 rfl (lv_at hl 4 rfl) ?_
        refine lv_dup2_11 hx hb dX12_grant_49 rfl rfl ?_
        refine m_lald 33 6 hF hH dX12_grant_50 (by decide) rfl rfl (by omega) (by omega) (fun z440 ez440 => ?_)
        refine lv_lconst (v := 1) hx hb dX12_grant_51 (by decide) ?_
        refine lv_ladd hx hb dX12_grant_52 ?_
        refine lv_topl (fun z441 ez441 => ?_)
        try have hz441 := l_add ez441 (by omega) (by omega)
        have hMp := hH.2
        refine m_last 33 6 hF hH dX12_grant_53 (by decide) rfl rfl (by omega) (by omega) (fun σ442 H locs eσ442 hH => ?_)
        have kp_32 : sI σ442 (L 32) = sI σL (L 32) := (keepAJ eσ442).trans kp_32
        have hle := hle.tr (show HLe σL σ442 by rw [eσ442]; exact HLe.uJ)
        have hfr := hfr.aJ hMp (by decide) eσ442 (by decide)
        refine lv_aload_n hx hb dX12_grant_54 rfl (lv_at hl 5 rfl) ?_
        refine m_getA 31 hF hH fk_X12_109 dX12_grant_55 (by decide) rfl ?_
        refine lv_bipush (v := 16) hx hb dX12_grant_58 (by decide) ?_
        refine lv_iload_n hx hb dX12_grant_60 rfl (lv_at hl 4 rfl) ?_
        refine lv_imul hx hb dX12_grant_61 ?_
        refine lv_topi (fun z443 ez443 => ?_)
        try have hz443 := i_mulk 16 rfl ez443 (by omega) (by omega)
        refine lv_aload_n hx hb dX12_grant_62 rfl (lv_at hl 5 rfl) ?_
        refine m_getA 32 hF hH fk_X12_112 dX12_grant_63 (by decide) rfl ?_
        refine lv_iload_n hx hb dX12_grant_66 rfl (lv_at hl 4 rfl) ?_
        refine m_iald 32 6 hF hH dX12_grant_67 (by decide) rfl rfl 0 16 rfl rfl (by omega) (by omega) (fun z444 ez444 vz444 => ?_)
        have wz444 := i_eq (ez444.trans (congrFun kp_32 _))
        refine lv_iadd hx hb dX12_grant_68 ?_
        refine lv_topi (fun z445 ez445 => ?_)
        try have hz445 := i_add ez445 (by omega) (by omega)
        refine lv_aload_n hx hb dX12_grant_69 rfl (lv_at hl 5 rfl) ?_
        refine m_getA 33 hF hH fk_X12_115 dX12_grant_70 (by decide) rfl ?_
        refine lv_iload_n hx hb dX12_grant_73 rfl (lv_at hl 4 rfl) ?_
        refine m_lald 33 6 hF hH dX12_grant_74 (by decide) rfl rfl (by omega) (by omega) (fun z446 ez446 => ?_)
        have hMp := hH.2
        refine m_last 31 96 hF hH dX12_grant_75 (by decide) rfl rfl (by omega) (by omega) (fun σ447 H locs eσ447 hH => ?_)
        have kp_32 : sI σ447 (L 32) = sI σL (L 32) := (keepAJ eσ447).trans kp_32
        have hle := hle.tr (show HLe σ442 σ447 by rw [eσ447]; exact HLe.uJ)
        have hfr := hfr.aJ hMp (by decide) eσ447 (by decide)
        refine lv_aload_n hx hb dX12_grant_76 rfl (lv_at hl 5 rfl) ?_
        refine m_getA 32 hF hH fk_X12_112 dX12_grant_77 (by decide) rfl ?_
        refine lv_iload_n hx hb dX12_grant_80 rfl (lv_at hl 4 rfl) ?_
        refine lv_dup2_11 hx hb dX12_grant_81 rfl rfl ?_
        refine m_iald 32 6 hF hH dX12_grant_82 (by decide) rfl rfl 0 16 rfl rfl (by omega) (by omega) (fun z448 ez448 vz448 => ?_)
        have wz448 := i_eq (ez448.trans (congrFun kp_32 _))
        refine lv_iconst (v := 1) hx hb dX12_grant_83 (by decide) ?_
        refine lv_iadd hx hb dX12_grant_84 ?_
        refine lv_topi (fun z449 ez449 => ?_)
        try have hz449 := i_add ez449 (by omega) (by omega)
        have hMp := hH.2
        refine m_iast 32 6 hF hH dX12_grant_85 (by decide) rfl rfl 0 16 rfl rfl (by omega) (by omega) (by omega) (fun σ450 H locs eσ450 hH => ?_)
        have kp_32 : sI σ450 (L 32) = upd (sI σL (L 32)) k.toInt.toNat z449 := by rw [eσ450]; exact u2_upd.trans (congrArg (fun f => upd f k.toInt.toNat z449) kp_32)
        have hle := hle.tr (show HLe σ447 σ450 by rw [eσ450]; exact HLe.uI)
        have hfr := hfr.aI hMp (by decide) eσ450 (by decide)
        obtain ⟨z451, ez451⟩ : ∃ z : Int32, z = x438 + Int32.ofInt 1 := ⟨_, rfl⟩
        have hz451 := i_add ez451 (by rw [show (Int32.ofInt 1).toInt = 1 from rfl]; omega) (by rw [show (Int32.ofInt 1).toInt = 1 from rfl]; omega)
        rw [show (Int32.ofInt 1).toInt = 1 from rfl] at hz451
        refine lv_iinc (lv' := [(5, .int z451), (4, .int z436), (3, .int q), (2, .int q), (1, .int k), (0, .ref h0)]) (k := 0) (v := z451) hx hb dX12_grant_86 hl rfl ez451.symm (by decide) rfl (fun ls hl => ?_)
        refine lv_goto (tgt := 38) hx hb dX12_grant_89 rfl ?_
        have hfx : (sI σ450 (L 32) k.toInt.toNat).toInt = z449.toInt := by rw [eσ450]; exact congrArg Int32.toInt u2_same
        have hl : lv_has ls 6 [(5, .int z451), (4, .int z436), (3, .int q), (2, .int q), (1, .int k), (0, .ref h0)] := lv_sub hl [0, 1, 2, 3, 4, 5] rfl
        exact ih (z451) σ450 ls H locs (by (try dsimp only); omega) hl ⟨hle, hfr, ⟨by (try dsimp only); omega, by (try dsimp only); omega⟩⟩ hH
    · have ch437 := i_nle h437
      refine lv_iload hx hb dX12_grant_28 (lv_at hl 0 rfl) ?_
      refine lv_goto (tgt := 34) hx hb dX12_grant_30 rfl ?_
      refine lv_istore_n (lv' := [(3, .int z436), (4, .int z436), (0, .ref h0), (1, .int k), (2, .int q)]) hx hb dX12_grant_34 rfl hl (by decide) rfl (fun ls hl => ?_)
      refine lv_iconst (v := 0) hx hb dX12_grant_35 (by decide) ?_
      refine lv_istore (lv' := [(5, .int 0), (3, .int z436), (4, .int z436), (0, .ref h0), (1, .int k), (2, .int q)]) hx hb dX12_grant_36 hl (by decide) rfl (fun ls hl => ?_)
      have hl : lv_has ls 6 [(5, .int 0), (4, .int z436), (3, .int z436), (2, .int q), (1, .int k), (0, .ref h0)] := lv_sub hl [0, 2, 1, 5, 4, 3] rfl
      have kp_32 : sI σ (L 32) = sI σ (L 32) := rfl
      have hq0 : 0 ≤ z436.toInt ∧ (sI σ (L 32) k.toInt.toNat).toInt + z436.toInt ≤ 16 := by omega
      refine m_loop (β := Int32) (L0 := fun x => [(5, .int x), (4, .int z436), (3, .int z436), (2, .int q), (1, .int k), (0, .ref h0)]) (I := fun x σ2 => HLe σ σ2 ∧ Fr h0 L [] [31, 32, 33] σ σ2 ∧ ((0 ≤ x.toInt ∧ x.toInt ≤ z436.toInt) ∧ (sI σ2 (L 32) k.toInt.toNat).toInt + (z436.toInt - x.toInt) ≤ 16)) (fun x σ2 => (z436.toInt - x.toInt).toNat) (0) hl ⟨hle, hfr, ⟨by (try dsimp only); omega, by (try dsimp only); omega⟩⟩ hH (fun x σL ls H locs hl hI hH ih => ?_)
      obtain ⟨x452, hx1⟩ : ∃ y, y = x := ⟨_, rfl⟩
      subst hx1
      obtain ⟨hle, hfr, hI⟩ := hI
      have hl : lv_has ls 6 [(5, .int x452), (4, .int z436), (3, .int z436), (2, .int q), (1, .int k), (0, .ref h0)] := hl
      have hI : (0 ≤ x452.toInt ∧ x452.toInt ≤ z436.toInt) ∧ (sI σL (L 32) k.toInt.toNat).toInt + (z436.toInt - x452.toInt) ≤ 16 := hI
      have rg_x452 := i_range x452
      have kp_32 : sI σL (L 32) = sI σL (L 32) := rfl
      refine lv_iload hx hb dX12_grant_38 (lv_at hl 0 rfl) ?_
      refine lv_iload_n hx hb dX12_grant_40 rfl (lv_at hl 2 rfl) ?_
      refine lv_icmp_ge (tgt := 92) hx hb dX12_grant_41 rfl (fun h453 => ?_) (fun h453 => ?_)
      · have ch453 := i_le h453
        refine lv_iload_n hx hb dX12_grant_92 rfl (lv_at hl 2 rfl) ?_
        exact h_reti hF hr hlk rfl dX12_grant_93 hH.1 hle ⟨hH.2, hfr, by (try dsimp only); omega⟩
      · have ch453 := i_nle h453
        refine lv_aload_n hx hb dX12_grant_44 rfl (lv_at hl 5 rfl) ?_
        refine m_getA 33 hF hH fk_X12_115 dX12_grant_45 (by decide) rfl ?_
        refine lv_iload_n hx hb dX12_grant_48 rfl (lv_at hl 4 rfl) ?_
        refine lv_dup2_11 hx hb dX12_grant_49 rfl rfl ?_
        refine m_lald 33 6 hF hH dX12_grant_50 (by decide) rfl rfl (by omega) (by omega) (fun z454 ez454 => ?_)
        refine lv_lconst (v := 1) hx hb dX12_grant_51 (by decide) ?_
        refine lv_ladd hx hb dX12_grant_52 ?_
        refine lv_topl (fun z455 ez455 => ?_)
        try have hz455 := l_add ez455 (by omega) (by omega)
        have hMp := hH.2
        refine m_last 33 6 hF hH dX12_grant_53 (by decide) rfl rfl (by omega) (by omega) (fun σ456 H locs eσ456 hH => ?_)
        have kp_32 : sI σ456 (L 32) = sI σL (L 32) := (keepAJ eσ456).trans kp_32
        have hle := hle.tr (show HLe σL σ456 by rw [eσ456]; exact HLe.uJ)
        have hfr := hfr.aJ hMp (by decide) eσ456 (by decide)
        refine lv_aload_n hx hb dX12_grant_54 rfl (lv_at hl 5 rfl) ?_
        refine m_getA 31 hF hH fk_X12_109 dX12_grant_55 (by decide) rfl ?_
        refine lv_bipush (v := 16) hx hb dX12_grant_58 (by decide) ?_
        refine lv_iload_n hx hb dX12_grant_60 rfl (lv_at hl 4 rfl) ?_
        refine lv_imul hx hb dX12_grant_61 ?_
        refine lv_topi (fun z457 ez457 => ?_)
        try have hz457 := i_mulk 16 rfl ez457 (by omega) (by omega)
        refine lv_aload_n hx hb dX12_grant_62 rfl (lv_at hl 5 rfl) ?_
        refine m_getA 32 hF hH fk_X12_112 dX12_grant_63 (by decide) rfl ?_
        refine lv_iload_n hx hb dX12_grant_66 rfl (lv_at hl 4 rfl) ?_
        refine m_iald 32 6 hF hH dX12_grant_67 (by decide) rfl rfl 0 16 rfl rfl (by omega) (by omega) (fun z458 ez458 vz458 => ?_)
        have wz458 := i_eq (ez458.trans (congrFun kp_32 _))
        refine lv_iadd hx hb dX12_grant_68 ?_
        refine lv_topi (fun z459 ez459 => ?_)
        try have hz459 := i_add ez459 (by omega) (by omega)
        refine lv_aload_n hx hb dX12_grant_69 rfl (lv_at hl 5 rfl) ?_
        refine m_getA 33 hF hH fk_X12_115 dX12_grant_70 (by decide) rfl ?_
        refine lv_iload_n hx hb dX12_grant_73 rfl (lv_at hl 4 rfl) ?_
        refine m_lald 33 6 hF hH dX12_grant_74 (by decide) rfl rfl (by omega) (by omega) (fun z460 ez460 => ?_)
        have hMp := hH.2
        refine m_last 31 96 hF hH dX12_grant_75 (by decide) rfl rfl (by omega) (by omega) (fun σ461 H locs eσ461 hH => ?_)
        have kp_32 : sI σ461 (L 32) = sI σL (L 32) := (keepAJ eσ461).trans kp_32
        have hle := hle.tr (show HLe σ456 σ461 by rw [eσ461]; exact HLe.uJ)
        have hfr := hfr.aJ hMp (by decide) eσ461 (by decide)
        refine lv_aload_n hx hb dX12_grant_76 rfl (lv_at hl 5 rfl) ?_
        refine m_getA 32 hF hH fk_X12_112 dX12_grant_77 (by decide) rfl ?_
        refine lv_iload_n hx hb dX12_grant_80 rfl (lv_at hl 4 rfl) ?_
        refine lv_dup2_11 hx hb dX12_grant_81 rfl rfl ?_
        refine m_iald 32 6 hF hH dX12_grant_82 (by decide) rfl rfl 0 16 rfl rfl (by omega) (by omega) (fun z462 ez462 vz462 => ?_)
        have wz462 := i_eq (ez462.trans (congrFun kp_32 _))
        refine lv_iconst (v := 1) hx hb dX12_grant_83 (by decide) ?_
        refine lv_iadd hx hb dX12_grant_84 ?_
        refine lv_topi (fun z463 ez463 => ?_)
        try have hz463 := i_add ez463 (by omega) (by omega)
        have hMp := hH.2
        refine m_iast 32 6 hF hH dX12_grant_85 (by decide) rfl rfl 0 16 rfl rfl (by omega) (by omega) (by omega) (fun σ464 H locs eσ464 hH => ?_)
        have kp_32 : sI σ464 (L 32) = upd (sI σL (L 32)) k.toInt.toNat z463 := by rw [eσ464]; exact u2_upd.trans (congrArg (fun f => upd f k.toInt.toNat z463) kp_32)
        have hle := hle.tr (show HLe σ461 σ464 by rw [eσ464]; exact HLe.uI)
        have hfr := hfr.aI hMp (by decide) eσ464 (by decide)
        obtain ⟨z465, ez465⟩ : ∃ z : Int32, z = x452 + Int32.ofInt 1 := ⟨_, rfl⟩
        have hz465 := i_add ez465 (by rw [show (Int32.ofInt 1).toInt = 1 from rfl]; omega) (by rw [show (Int32.ofInt 1).toInt = 1 from rfl]; omega)
        rw [show (Int32.ofInt 1).toInt = 1 from rfl] at hz465
        refine lv_iinc (lv' := [(5, .int z465), (4, .int z436), (3, .int z436), (2, .int q), (1, .int k), (0, .ref h0)]) (k := 0) (v := z465) hx hb dX12_grant_86 hl rfl ez465.symm (by decide) rfl (fun ls hl => ?_)
        refine lv_goto (tgt := 38) hx hb dX12_grant_89 rfl ?_
        have hfx : (sI σ464 (L 32) k.toInt.toNat).toInt = z463.toInt := by rw [eσ464]; exact congrArg Int32.toInt u2_same
        have hl : lv_has ls 6 [(5, .int z465), (4, .int z436), (3, .int z436), (2, .int q), (1, .int k), (0, .ref h0)] := lv_sub hl [0, 1, 2, 3, 4, 5] rfl
        exact ih (z465) σ464 ls H locs (by (try dsimp only); omega) hl ⟨hle, hfr, ⟨by (try dsimp only); omega, by (try dsimp only); omega⟩⟩ hH
  · have ch434 := i_nle h434
    refine lv_iconst (v := 1) hx hb dX12_grant_5 (by decide) ?_
    refine lv_goto (tgt := 10) hx hb dX12_grant_6 rfl ?_
    refine lv_istore_n (lv' := [(3, .int 1), (0, .ref h0), (1, .int k), (2, .int q)]) hx hb dX12_grant_10 rfl hl (by decide) rfl (fun ls hl => ?_)
    refine lv_bipush (v := 16) hx hb dX12_grant_11 (by decide) ?_
    refine lv_aload_n hx hb dX12_grant_13 rfl (lv_at hl 1 rfl) ?_
    refine m_getA 32 hF hH fk_X12_112 dX12_grant_14 (by decide) rfl ?_
    refine lv_iload_n hx hb dX12_grant_17 rfl (lv_at hl 2 rfl) ?_
    refine m_iald 32 6 hF hH dX12_grant_18 (by decide) rfl rfl 0 16 rfl rfl (by omega) (by omega) (fun z466 ez466 vz466 => ?_)
    have wz466 := i_eq ez466
    refine lv_isub hx hb dX12_grant_19 ?_
    refine lv_topi (fun z467 ez467 => ?_)
    try have hz467 := i_sub ez467 (by omega) (by omega)
    refine lv_istore (lv' := [(4, .int z467), (3, .int 1), (0, .ref h0), (1, .int k), (2, .int q)]) hx hb dX12_grant_20 hl (by decide) rfl (fun ls hl => ?_)
    refine lv_iload_n hx hb dX12_grant_22 rfl (lv_at hl 1 rfl) ?_
    refine lv_iload hx hb dX12_grant_23 (lv_at hl 0 rfl) ?_
    refine lv_icmp_le (tgt := 33) hx hb dX12_grant_25 rfl (fun h468 => ?_) (fun h468 => ?_)
    · have ch468 := i_le h468
      refine lv_iload_n hx hb dX12_grant_33 rfl (lv_at hl 1 rfl) ?_
      refine lv_istore_n (lv' := [(3, .int 1), (4, .int z467), (0, .ref h0), (1, .int k), (2, .int q)]) hx hb dX12_grant_34 rfl hl (by decide) rfl (fun ls hl => ?_)
      refine lv_iconst (v := 0) hx hb dX12_grant_35 (by decide) ?_
      refine lv_istore (lv' := [(5, .int 0), (3, .int 1), (4, .int z467), (0, .ref h0), (1, .int k), (2, .int q)]) hx hb dX12_grant_36 hl (by decide) rfl (fun ls hl => ?_)
      have hl : lv_has ls 6 [(5, .int 0), (4, .int z467), (3, .int 1), (2, .int q), (1, .int k), (0, .ref h0)] := lv_sub hl [0, 2, 1, 5, 4, 3] rfl
      have kp_32 : sI σ (L 32) = sI σ (L 32) := rfl
      have hq0 : 0 ≤ (1 : Int32).toInt ∧ (sI σ (L 32) k.toInt.toNat).toInt + (1 : Int32).toInt ≤ 16 := by omega
      refine m_loop (β := Int32) (L0 := fun x => [(5, .int x), (4, .int z467), (3, .int 1), (2, .int q), (1, .int k), (0, .ref h0)]) (I := fun x σ2 => HLe σ σ2 ∧ Fr h0 L [] [31, 32, 33] σ σ2 ∧ ((0 ≤ x.toInt ∧ x.toInt ≤ (1 : Int32).toInt) ∧ (sI σ2 (L 32) k.toInt.toNat).toInt + ((1 : Int32).toInt - x.toInt) ≤ 16)) (fun x σ2 => ((1 : Int32).toInt - x.toInt).toNat) (0) hl ⟨hle, hfr, ⟨by (try dsimp only); omega, by (try dsimp only); omega⟩⟩ hH (fun x σL ls H locs hl hI hH ih => ?_)
      obtain ⟨x469, hx1⟩ : ∃ y, y = x := ⟨_, rfl⟩
      subst hx1
      obtain ⟨hle, hfr, hI⟩ := hI
      have hl : lv_has ls 6 [(5, .int x469), (4, .int z467), (3, .int 1), (2, .int q), (1, .int k), (0, .ref h0)] := hl
      have hI : (0 ≤ x469.toInt ∧ x469.toInt ≤ (1 : Int32).toInt) ∧ (sI σL (L 32) k.toInt.toNat).toInt + ((1 : Int32).toInt - x469.toInt) ≤ 16 := hI
      have rg_x469 := i_range x469
      have kp_32 : sI σL (L 32) = sI σL (L 32) := rfl
      refine lv_iload hx hb dX12_grant_38 (lv_at hl 0 rfl) ?_
      refine lv_iload_n hx hb dX12_grant_40 rfl (lv_at hl 2 rfl) ?_
      refine lv_icmp_ge (tgt := 92) hx hb dX12_grant_41 rfl (fun h470 => ?_) (fun h470 => ?_)
      · have ch470 := i_le h470
        refine lv_iload_n hx hb dX12_grant_92 rfl (lv_at hl 2 rfl) ?_
        exact h_reti hF hr hlk rfl dX12_grant_93 hH.1 hle ⟨hH.2, hfr, by (try dsimp only); omega⟩
      · have ch470 := i_nle h470
        refine lv_aload_n hx hb dX12_grant_44 rfl (lv_at hl 5 rfl) ?_
        refine m_getA 33 hF hH fk_X12_115 dX12_grant_45 (by decide) rfl ?_
        refine lv_iload_n hx hb dX12_grant_48 rfl (lv_at hl 4 rfl) ?_
        refine lv_dup2_11 hx hb dX12_grant_49 rfl rfl ?_
        refine m_lald 33 6 hF hH dX12_grant_50 (by decide) rfl rfl (by omega) (by omega) (fun z471 ez471 => ?_)
        refine lv_lconst (v := 1) hx hb dX12_grant_51 (by decide) ?_
        refine lv_ladd hx hb dX12_grant_52 ?_
        refine lv_topl (fun z472 ez472 => ?_)
        try have hz472 := l_add ez472 (by omega) (by omega)
        have hMp := hH.2
        refine m_last 33 6 hF hH dX12_grant_53 (by decide) rfl rfl (by omega) (by omega) (fun σ473 H locs eσ473 hH => ?_)
        have kp_32 : sI σ473 (L 32) = sI σL (L 32) := (keepAJ eσ473).trans kp_32
        have hle := hle.tr (show HLe σL σ473 by rw [eσ473]; exact HLe.uJ)
        have hfr := hfr.aJ hMp (by decide) eσ473 (by decide)
        refine lv_aload_n hx hb dX12_grant_54 rfl (lv_at hl 5 rfl) ?_
        refine m_getA 31 hF hH fk_X12_109 dX12_grant_55 (by decide) rfl ?_
        refine lv_bipush (v := 16) hx hb dX12_grant_58 (by decide) ?_
        refine lv_iload_n hx hb dX12_grant_60 rfl (lv_at hl 4 rfl) ?_
        refine lv_imul hx hb dX12_grant_61 ?_
        refine lv_topi (fun z474 ez474 => ?_)
        try have hz474 := i_mulk 16 rfl ez474 (by omega) (by omega)
        refine lv_aload_n hx hb dX12_grant_62 rfl (lv_at hl 5 rfl) ?_
        refine m_getA 32 hF hH fk_X12_112 dX12_grant_63 (by decide) rfl ?_
        refine lv_iload_n hx hb dX12_grant_66 rfl (lv_at hl 4 rfl) ?_
        refine m_iald 32 6 hF hH dX12_grant_67 (by decide) rfl rfl 0 16 rfl rfl (by omega) (by omega) (fun z475 ez475 vz475 => ?_)
        have wz475 := i_eq (ez475.trans (congrFun kp_32 _))
        refine lv_iadd hx hb dX12_grant_68 ?_
        refine lv_topi (fun z476 ez476 => ?_)
        try have hz476 := i_add ez476 (by omega) (by omega)
        refine lv_aload_n hx hb dX12_grant_69 rfl (lv_at hl 5 rfl) ?_
        refine m_getA 33 hF hH fk_X12_115 dX12_grant_70 (by decide) rfl ?_
        refine lv_iload_n hx hb dX12_grant_73 rfl (lv_at hl 4 rfl) ?_
        refine m_lald 33 6 hF hH dX12_grant_74 (by decide) rfl rfl (by omega) (by omega) (fun z477 ez477 => ?_)
        have hMp := hH.2
        refine m_last 31 96 hF hH dX12_grant_75 (by decide) rfl rfl (by omega) (by omega) (fun σ478 H locs eσ478 hH => ?_)
        have kp_32 : sI σ478 (L 32) = sI σL (L 32) := (keepAJ eσ478).trans kp_32
        have hle := hle.tr (show HLe σ473 σ478 by rw [eσ478]; exact HLe.uJ)
        have hfr := hfr.aJ hMp (by decide) eσ478 (by decide)
        refine lv_aload_n hx hb dX12_grant_76 rfl (lv_at hl 5 rfl) ?_
        refine m_getA 32 hF hH fk_X12_112 dX12_grant_77 (by decide) rfl ?_
        refine lv_iload_n hx hb dX12_grant_80 rfl (lv_at hl 4 rfl) ?_
        refine lv_dup2_11 hx hb dX12_grant_81 rfl rfl ?_
        refine m_iald 32 6 hF hH dX12_grant_82 (by decide) rfl rfl 0 16 rfl rfl (by omega) (by omega) (fun z479 ez479 vz479 => ?_)
        have wz479 := i_eq (ez479.trans (congrFun kp_32 _))
        refine lv_iconst (v := 1) hx hb dX12_grant_83 (by decide) ?_
        refine lv_iadd hx hb dX12_grant_84 ?_
        refine lv_topi (fun z480 ez480 => ?_)
        try have hz480 := i_add ez480 (by omega) (by omega)
        have hMp := hH.2
        refine m_iast 32 6 hF hH dX12_grant_85 (by decide) rfl rfl 0 16 rfl rfl (by omega) (by omega) (by omega) (fun σ481 H locs eσ481 hH => ?_)
        have kp_32 : sI σ481 (L 32) = upd (sI σL (L 32)) k.toInt.toNat z480 := by rw [eσ481]; exact u2_upd.trans (congrArg (fun f => upd f k.toInt.toNat z480) kp_32)
        have hle := hle.tr (show HLe σ478 σ481 by rw [eσ481]; exact HLe.uI)
        have hfr := hfr.aI hMp (by decide) eσ481 (by decide)
        obtain ⟨z482, ez482⟩ : ∃ z : Int32, z = x469 + Int32.ofInt 1 := ⟨_, rfl⟩
        have hz482 := i_add ez482 (by rw [show (Int32.ofInt 1).toInt = 1 from rfl]; omega) (by rw [show (Int32.ofInt 1).toInt = 1 from rfl]; omega)
        rw [show (Int32.ofInt 1).toInt = 1 from rfl] at hz482
        refine lv_iinc (lv' := [(5, .int z482), (4, .int z467), (3, .int 1), (2, .int q), (1, .int k), (0, .ref h0)]) (k := 0) (v := z482) hx hb dX12_grant_86 hl rfl ez482.symm (by decide) rfl (fun ls hl => ?_)
        refine lv_goto (tgt := 38) hx hb dX12_grant_89 rfl ?_
        have hfx : (sI σ481 (L 32) k.toInt.toNat).toInt = z480.toInt := by rw [eσ481]; exact congrArg Int32.toInt u2_same
        have hl : lv_has ls 6 [(5, .int z482), (4, .int z467), (3, .int 1), (2, .int q), (1, .int k), (0, .ref h0)] := lv_sub hl [0, 1, 2, 3, 4, 5] rfl
        exact ih (z482) σ481 ls H locs (by (try dsimp only); omega) hl ⟨hle, hfr, ⟨by (try dsimp only); omega, by (try dsimp only); omega⟩⟩ hH
    · have ch468 := i_nle h468
      refine lv_iload hx hb dX12_grant_28 (lv_at hl 0 rfl) ?_
      refine lv_goto (tgt := 34) hx hb dX12_grant_30 rfl ?_
      refine lv_istore_n (lv' := [(3, .int z467), (4, .int z467), (0, .ref h0), (1, .int k), (2, .int q)]) hx hb dX12_grant_34 rfl hl (by decide) rfl (fun ls hl => ?_)
      refine lv_iconst (v := 0) hx hb dX12_grant_35 (by decide) ?_
      refine lv_istore (lv' := [(5, .int 0), (3, .int z467), (4, .int z467), (0, .ref h0), (1, .int k), (2, .int q)]) hx hb dX12_grant_36 hl (by decide) rfl (fun ls hl => ?_)
      have hl : lv_has ls 6 [(5, .int 0), (4, .int z467), (3, .int z467), (2, .int q), (1, .int k), (0, .ref h0)] := lv_sub hl [0, 2, 1, 5, 4, 3] rfl
      have kp_32 : sI σ (L 32) = sI σ (L 32) := rfl
      have hq0 : 0 ≤ z467.toInt ∧ (sI σ (L 32) k.toInt.toNat).toInt + z467.toInt ≤ 16 := by omega
      refine m_loop (β := Int32) (L0 := fun x => [(5, .int x), (4, .int z467), (3, .int z467), (2, .int q), (1, .int k), (0, .ref h0)]) (I := fun x σ2 => HLe σ σ2 ∧ Fr h0 L [] [31, 32, 33] σ σ2 ∧ ((0 ≤ x.toInt ∧ x.toInt ≤ z467.toInt) ∧ (sI σ2 (L 32) k.toInt.toNat).toInt + (z467.toInt - x.toInt) ≤ 16)) (fun x σ2 => (z467.toInt - x.toInt).toNat) (0) hl ⟨hle, hfr, ⟨by (try dsimp only); omega, by (try dsimp only); omega⟩⟩ hH (fun x σL ls H locs hl hI hH ih => ?_)
      obtain ⟨x483, hx1⟩ : ∃ y, y = x := ⟨_, rfl⟩
      subst hx1
      obtain ⟨hle, hfr, hI⟩ := hI
      have hl : lv_has ls 6 [(5, .int x483), (4, .int z467), (3, .int z467), (2, .int q), (1, .int k), (0, .ref h0)] := hl
      have hI : (0 ≤ x483.toInt ∧ x483.toInt ≤ z467.toInt) ∧ (sI σL (L 32) k.toInt.toNat).toInt + (z467.toInt - x483.toInt) ≤ 16 := hI
      have rg_x483 := i_range x483
      have kp_32 : sI σL (L 32) = sI σL (L 32) := rfl
      refine lv_iload hx hb dX12_grant_38 (lv_at hl 0 rfl) ?_
      refine lv_iload_n hx hb dX12_grant_40 rfl (lv_at hl 2 rfl) ?_
      refine lv_icmp_ge (tgt := 92) hx hb dX12_grant_41 rfl (fun h484 => ?_) (fun h484 => ?_)
      · have ch484 := i_le h484
        refine lv_iload_n hx hb dX12_grant_92 rfl (lv_at hl 2 rfl) ?_
        exact h_reti hF hr hlk rfl dX12_grant_93 hH.1 hle ⟨hH.2, hfr, by (try dsimp only); omega⟩
      · have ch484 := i_nle h484
        refine lv_aload_n hx hb dX12_grant_44 rfl (lv_at hl 5 rfl) ?_
        refine m_getA 33 hF hH fk_X12_115 dX12_grant_45 (by decide) rfl ?_
        refine lv_iload_n hx hb dX12_grant_48 rfl (lv_at hl 4 rfl) ?_
        refine lv_dup2_11 hx hb dX12_grant_49 rfl rfl ?_
        refine m_lald 33 6 hF hH dX12_grant_50 (by decide) rfl rfl (by omega) (by omega) (fun z485 ez485 => ?_)
        refine lv_lconst (v := 1) hx hb dX12_grant_51 (by decide) ?_
        refine lv_ladd hx hb dX12_grant_52 ?_
        refine lv_topl (fun z486 ez486 => ?_)
        try have hz486 := l_add ez486 (by omega) (by omega)
        have hMp := hH.2
        refine m_last 33 6 hF hH dX12_grant_53 (by decide) rfl rfl (by omega) (by omega) (fun σ487 H locs eσ487 hH => ?_)
        have kp_32 : sI σ487 (L 32) = sI σL (L 32) := (keepAJ eσ487).trans kp_32
        have hle := hle.tr (show HLe σL σ487 by rw [eσ487]; exact HLe.uJ)
        have hfr := hfr.aJ hMp (by decide) eσ487 (by decide)
        refine lv_aload_n hx hb dX12_grant_54 rfl (lv_at hl 5 rfl) ?_
        refine m_getA 31 hF hH fk_X12_109 dX12_grant_55 (by decide) rfl ?_
        refine lv_bipush (v := 16) hx hb dX12_grant_58 (by decide) ?_
        refine lv_iload_n hx hb dX12_grant_60 rfl (lv_at hl 4 rfl) ?_
        refine lv_imul hx hb dX12_grant_61 ?_
        refine lv_topi (fun z488 ez488 => ?_)
        try have hz488 := i_mulk 16 rfl ez488 (by omega) (by omega)
        refine lv_aload_n hx hb dX12_grant_62 rfl (lv_at hl 5 rfl) ?_
        refine m_getA 32 hF hH fk_X12_112 dX12_grant_63 (by decide) rfl ?_
        refine lv_iload_n hx hb dX12_grant_66 rfl (lv_at hl 4 rfl) ?_
        refine m_iald 32 6 hF hH dX12_grant_67 (by decide) rfl rfl 0 16 rfl rfl (by omega) (by omega) (fun z489 ez489 vz489 => ?_)
        have wz489 := i_eq (ez489.trans (congrFun kp_32 _))
        refine lv_iadd hx hb dX12_grant_68 ?_
        refine lv_topi (fun z490 ez490 => ?_)
        try have hz490 := i_add ez490 (by omega) (by omega)
        refine lv_aload_n hx hb dX12_grant_69 rfl (lv_at hl 5 rfl) ?_
        refine m_getA 33 hF hH fk_X12_115 dX12_grant_70 (by decide) rfl ?_
        refine lv_iload_n hx hb dX12_grant_73 rfl (lv_at hl 4 rfl) ?_
        refine m_lald 33 6 hF hH dX12_grant_74 (by decide) rfl rfl (by omega) (by omega) (fun z491 ez491 => ?_)
        have hMp := hH.2
        refine m_last 31 96 hF hH dX12_grant_75 (by decide) rfl rfl (by omega) (by omega) (fun σ492 H locs eσ492 hH => ?_)
        have kp_32 : sI σ492 (L 32) = sI σL (L 32) := (keepAJ eσ492).trans kp_32
        have hle := hle.tr (show HLe σ487 σ492 by rw [eσ492]; exact HLe.uJ)
        have hfr := hfr.aJ hMp (by decide) eσ492 (by decide)
        refine lv_aload_n hx hb dX12_grant_76 rfl (lv_at hl 5 rfl) ?_
        refine m_getA 32 hF hH fk_X12_112 dX12_grant_77 (by decide) rfl ?_
        refine lv_iload_n hx hb dX12_grant_80 rfl (lv_at hl 4 rfl) ?_
        refine lv_dup2_11 hx hb dX12_grant_81 rfl rfl ?_
        refine m_iald 32 6 hF hH dX12_grant_82 (by decide) rfl rfl 0 16 rfl rfl (by omega) (by omega) (fun z493 ez493 vz493 => ?_)
        have wz493 := i_eq (ez493.trans (congrFun kp_32 _))
        refine lv_iconst (v := 1) hx hb dX12_grant_83 (by decide) ?_
        refine lv_iadd hx hb dX12_grant_84 ?_
        refine lv_topi (fun z494 ez494 => ?_)
        try have hz494 := i_add ez494 (by omega) (by omega)
        have hMp := hH.2
        refine m_iast 32 6 hF hH dX12_grant_85 (by decide) rfl rfl 0 16 rfl rfl (by omega) (by omega) (by omega) (fun σ495 H locs eσ495 hH => ?_)
        have kp_32 : sI σ495 (L 32) = upd (sI σL (L 32)) k.toInt.toNat z494 := by rw [eσ495]; exact u2_upd.trans (congrArg (fun f => upd f k.toInt.toNat z494) kp_32)
        have hle := hle.tr (show HLe σ492 σ495 by rw [eσ495]; exact HLe.uI)
        have hfr := hfr.aI hMp (by decide) eσ495 (by decide)
        obtain ⟨z496, ez496⟩ : ∃ z : Int32, z = x483 + Int32.ofInt 1 := ⟨_, rfl⟩
        have hz496 := i_add ez496 (by rw [show (Int32.ofInt 1).toInt = 1 from rfl]; omega) (by rw [show (Int32.ofInt 1).toInt = 1 from rfl]; omega)
        rw [show (Int32.ofInt 1).toInt = 1 from rfl] at hz496
        refine lv_iinc (lv' := [(5, .int z496), (4, .int z467), (3, .int z467), (2, .int q), (1, .int k), (0, .ref h0)]) (k := 0) (v := z496) hx hb dX12_grant_86 hl rfl ez496.symm (by decide) rfl (fun ls hl => ?_)
        refine lv_goto (tgt := 38) hx hb dX12_grant_89 rfl ?_
        have hfx : (sI σ495 (L 32) k.toInt.toNat).toInt = z494.toInt := by rw [eσ495]; exact congrArg Int32.toInt u2_same
        have hl : lv_has ls 6 [(5, .int z496), (4, .int z467), (3, .int z467), (2, .int q), (1, .int k), (0, .ref h0)] := lv_sub hl [0, 1, 2, 3, 4, 5] rfl
        exact ih (z496) σ495 ls H locs (by (try dsimp only); omega) hl ⟨hle, hfr, ⟨by (try dsimp only); omega, by (try dsimp only); omega⟩⟩ hH

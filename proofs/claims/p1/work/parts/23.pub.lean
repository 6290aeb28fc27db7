set_option maxRecDepth 100000 in
set_option maxHeartbeats 4000000 in
theorem c_Jx4a65c_size_8abf5 (l : Launch) (D : va_G) (t : Nat → ClassId) (ws : va_W) (h0 q : Nat) (mc ed : Value) (he : ws[q]? = some (h0, .inr (7, [mc, ed, .int 0]))) (sz : Nat) : KI l D t yJx4a65c_size_8abf5 cJx4a65c_size_8abf5 1 (some .int) ({ frames := 0, cells := 0, slots := 0, locals := 0 }) ws sz [.ref h0] 0 := by
  refine go (by decide) (Nat.le_of_ble_eq_true rfl) ?_
  intro p e s m below meth c ls A hF hr hlk hin hsz hAe hP hD hS hA hl
  rw [hAe]
  clear hAe hsz
  have hF : FX p m c cJx4a65c_size_8abf5 1 s _ RJx4a65c D t := hF
  have hx := hF.1.1
  have hb := hF.1.2.1
  have hls := hl.1
  have hl : lv_has ls 1 [(0, .ref h0)] := hl
  refine lv_aload_n hx hb dJx4a65c_size_8abf5_0 rfl (lv_at hl 0 rfl) ?_
  refine r_get hF ci_Jx4a65c fl_Jx4a65c_48 dJx4a65c_size_8abf5_1 hP he rfl ?_
  exact r_retK hF hr hlk rfl dJx4a65c_size_8abf5_4 hP hS rfl
set_option maxRecDepth 100000 in
set_option maxHeartbeats 4000000 in
theorem c_X11_connection (l : Launch) (D : va_G) (t : Nat → ClassId) (ws : va_W) (h0 ca q0 q1 : Nat) (fs : List Value) (f : Nat → Option Nat) (he0 : ws[q0]? = some (h0, .inr (1, fs))) (hv : fs[1]? = some (.ref ca)) (he1 : ws[q1]? = some (ca, .inl (t 5, 6, .inr (.inr (.inr (.inr f)))))) (k : Int32) (v : Option Nat) (hk : (k < 0 ∨ 6 ≤ k) ∧ v = none ∨ ∃ j, j < 6 ∧ k = nI j ∧ f j = v) (sz : Nat) : KQ l D t yX11_connection cX11_connection 2 (some (.object "ShareHouse$Conn")) ({ frames := 0, cells := 0, slots := 0, locals := 0 }) ws sz [.ref h0, .int k] v := by
  refine go (by decide) (Nat.le_of_ble_eq_true rfl) ?_
  intro p e s m below meth c ls A hF hr hlk hin hsz hAe hP hD hS hA hl
  rw [hAe]
  clear hAe hsz
  have hF : FX p m c cX11_connection 2 s _ RX11 D t := hF
  have hx := hF.1.1
  have hb := hF.1.2.1
  have hls := hl.1
  have hl : lv_has ls 2 [(0, .ref h0), (1, .int k)] := hl
  rcases hk with ⟨hk | hk, rfl⟩ | ⟨j, hj, hkj, hfj⟩
  · refine lv_iload_n hx hb dX11_connection_0 rfl (lv_at hl 1 rfl) ?_
    refine lv_if_lt (tgt := 22) hx hb dX11_connection_1 rfl (fun _ => ?_) (fun h => absurd hk h)
    refine lv_null hx hb dX11_connection_22 ?_
    exact r_retQ (v := none) hF hr hlk dX11_connection_23 hP hS
  · refine lv_iload_n hx hb dX11_connection_0 rfl (lv_at hl 1 rfl) ?_
    refine lv_if_lt (tgt := 22) hx hb dX11_connection_1 rfl (fun h => absurd h (Int32.not_lt.mpr (Int32.le_trans (by decide) hk))) (fun _ => ?_)
    refine lv_iload_n hx hb dX11_connection_4 rfl (lv_at hl 1 rfl) ?_
    refine lv_aload_n hx hb dX11_connection_5 rfl (lv_at hl 0 rfl) ?_
    refine r_get hF ci_X11 fl_X11_18 dX11_connection_6 hP he0 hv ?_
    refine r_alen (v := 6) hF dX11_connection_9 hP he1 (t0 := 5) rfl rfl ?_
    refine lv_icmp_ge (tgt := 22) hx hb dX11_connection_10 rfl (fun _ => ?_) (fun h => absurd hk h)
    refine lv_null hx hb dX11_connection_22 ?_
    exact r_retQ (v := none) hF hr hlk dX11_connection_23 hP hS
  · refine lv_iload_n hx hb dX11_connection_0 rfl (lv_at hl 1 rfl) ?_
    refine lv_if_lt (tgt := 22) hx hb dX11_connection_1 rfl (fun h => absurd h (by rw [hkj]; exact nI_pos (by omega))) (fun _ => ?_)
    refine lv_iload_n hx hb dX11_connection_4 rfl (lv_at hl 1 rfl) ?_
    refine lv_aload_n hx hb dX11_connection_5 rfl (lv_at hl 0 rfl) ?_
    refine r_get hF ci_X11 fl_X11_18 dX11_connection_6 hP he0 hv ?_
    refine r_alen (v := 6) hF dX11_connection_9 hP he1 (t0 := 5) rfl rfl ?_
    refine lv_icmp_ge (tgt := 22) hx hb dX11_connection_10 rfl (fun h => absurd h (by rw [hkj]; exact nI_ge (b := 6) hj (by decide))) (fun _ => ?_)
    refine lv_aload_n hx hb dX11_connection_13 rfl (lv_at hl 0 rfl) ?_
    refine r_get hF ci_X11 fl_X11_18 dX11_connection_14 hP he0 hv ?_
    refine lv_iload_n hx hb dX11_connection_17 rfl (lv_at hl 1 rfl) ?_
    refine r_aldq (v := va_rf v) (t0 := 5) hF dX11_connection_18 hP he1 rfl (by rw [hkj]; exact vp_in_nI hj (by decide)) (by rw [hkj, nI_clamp (by omega), hfj]) ?_
    refine lv_goto (tgt := 23) hx hb dX11_connection_19 rfl ?_
    exact r_retQ hF hr hlk dX11_connection_23 hP hS
set_option maxRecDepth 100000 in
set_option maxHeartbeats 4000000 in
theorem c_X11_tapeIsShareName (l : Launch) (D : va_G) (t : Nat → ClassId) (ws : va_W) (h0 tp tb q0 q1 : Nat) (fs : List Value) (he0 : ws[q0]? = some (h0, .inr (1, fs))) (hv : fs[0]? = some (.ref tp)) (he1 : ws[q1]? = some (tp, .inr (2, [.ref tb, .int 0]))) (sz : Nat) : KI l D t yX11_tapeIsShareName cX11_tapeIsShareName 4 (some .boolean) ({ frames := 0, cells := 0, slots := 0, locals := 0 }) ws sz [.ref h0] 0 := by
  refine go (by decide) (Nat.le_of_ble_eq_true rfl) ?_
  intro p e s m below meth c ls A hF hr hlk hin hsz hAe hP hD hS hA hl
  rw [hAe]
  clear hAe hsz
  have hF : FX p m c cX11_tapeIsShareName 4 s _ RX11 D t := hF
  have hx := hF.1.1
  have hb := hF.1.2.1
  have hls := hl.1
  have hl : lv_has ls 4 [(0, .ref h0)] := hl
  refine lv_aload_n hx hb dX11_tapeIsShareName_0 rfl (lv_at hl 0 rfl) ?_
  refine r_get hF ci_X11 fl_X11_10 dX11_tapeIsShareName_1 hP he0 hv ?_
  refine r_get hF ci_X6 fl_X11_85 dX11_tapeIsShareName_4 hP he1 rfl ?_
  refine lv_iconst (v := 1) hx hb dX11_tapeIsShareName_7 (by decide) ?_
  refine lv_icmp_lt (tgt := 23) hx hb dX11_tapeIsShareName_8 rfl (fun _ => ?_) (fun h => absurd (by decide) h)
  refine lv_iconst (v := 0) hx hb dX11_tapeIsShareName_23 (by decide) ?_
  exact r_retK hF hr hlk rfl dX11_tapeIsShareName_24 hP hS rfl
set_option maxRecDepth 100000 in
set_option maxHeartbeats 4000000 in
theorem c_X11_comeToDisk (l : Launch) (D : va_G) (t : Nat → ClassId) (ws : va_W) (h0 q0 : Nat) (fs : List Value) (he0 : ws[q0]? = some (h0, .inr (1, fs))) (hv : fs[6]? = some (.int 0)) (sz : Nat) : KV l D t yX11_comeToDisk cX11_comeToDisk 2 ({ frames := 0, cells := 0, slots := 0, locals := 0 }) ws sz [.ref h0] := by
  refine go (by decide) (Nat.le_of_ble_eq_true rfl) ?_
  intro p e s m below meth c ls A hF hr hlk hin hsz hAe hP hD hS hA hl
  rw [hAe]
  clear hAe hsz
  have hF : FX p m c cX11_comeToDisk 2 s _ RX11 D t := hF
  have hx := hF.1.1
  have hb := hF.1.2.1
  have hls := hl.1
  have hl : lv_has ls 2 [(0, .ref h0)] := hl
  refine lv_iconst (v := 0) hx hb dX11_comeToDisk_0 (by decide) ?_
  refine lv_istore_n (lv' := [(1, .int 0), (0, .ref h0)]) hx hb dX11_comeToDisk_1 rfl hl (by decide) rfl (fun ls hl => ?_)
  refine lv_iload_n hx hb dX11_comeToDisk_2 rfl (lv_at hl 0 rfl) ?_
  refine lv_aload_n hx hb dX11_comeToDisk_3 rfl (lv_at hl 1 rfl) ?_
  refine r_get hF ci_X11 fl_X11_182 dX11_comeToDisk_4 hP he0 hv ?_
  refine lv_icmp_ge (tgt := 38) hx hb dX11_comeToDisk_7 rfl (fun _ => ?_) (fun h => absurd (by decide) h)
  refine lv_aload_n hx hb dX11_comeToDisk_38 rfl (lv_at hl 1 rfl) ?_
  refine lv_iconst (v := 0) hx hb dX11_comeToDisk_39 (by decide) ?_
  refine r_put0 hF ci_X11 fl_X11_182 dX11_comeToDisk_40 hP hD hS he0 hv rfl rfl rfl (fun H locs hP hS => ?_)
  exact r_retV hF hr hlk dX11_comeToDisk_43 hP hS
set_option maxRecDepth 100000 in
set_option maxHeartbeats 4000000 in
theorem c_X2_vanish (l : Launch) (D : va_G) (t : Nat → ClassId) (ws : va_W) (h0 kc kcb ks ksb kf q0 q1 q2 : Nat) (he0 : ws[q0]? = some (h0, eConn kc ks kf)) (he1 : ws[q1]? = some (kc, eRow kcb)) (he2 : ws[q2]? = some (ks, eRow ksb)) (sz : Nat) : KV l D t yX2_vanish cX2_vanish 1 ({ frames := 0, cells := 0, slots := 0, locals := 0 }) ws sz [.ref h0] := by
  refine go (by decide) (Nat.le_of_ble_eq_true rfl) ?_
  intro p e s m below meth c ls A hF hr hlk hin hsz hAe hP hD hS hA hl
  rw [hAe]
  clear hAe hsz
  have hF : FX p m c cX2_vanish 1 s _ RX2 D t := hF
  have hx := hF.1.1
  have hb := hF.1.2.1
  have hls := hl.1
  have hl : lv_has ls 1 [(0, .ref h0)] := hl
  refine lv_aload_n hx hb dX2_vanish_0 rfl (lv_at hl 0 rfl) ?_
  refine lv_iconst (v := 0) hx hb dX2_vanish_1 (by decide) ?_
  refine r_put0 hF ci_X2 fl_X2_25 dX2_vanish_2 hP hD hS he0 rfl rfl rfl rfl (fun H locs hP hS => ?_)
  refine lv_aload_n hx hb dX2_vanish_5 rfl (lv_at hl 0 rfl) ?_
  refine r_get hF ci_X2 fl_X2_12 dX2_vanish_6 hP he0 rfl ?_
  refine lv_iconst (v := 0) hx hb dX2_vanish_9 (by decide) ?_
  refine r_put0 hF ci_X6 fl_X2_32 dX2_vanish_10 hP hD hS he1 rfl rfl rfl rfl (fun H locs hP hS => ?_)
  refine lv_aload_n hx hb dX2_vanish_13 rfl (lv_at hl 0 rfl) ?_
  refine r_get hF ci_X2 fl_X2_18 dX2_vanish_14 hP he0 rfl ?_
  refine lv_iconst (v := 0) hx hb dX2_vanish_17 (by decide) ?_
  refine r_put0 hF ci_X6 fl_X2_32 dX2_vanish_18 hP hD hS he2 rfl rfl rfl rfl (fun H locs hP hS => ?_)
  exact r_retV hF hr hlk dX2_vanish_21 hP hS
set_option maxRecDepth 100000 in
set_option maxHeartbeats 4000000 in
theorem c_X2_begin (l : Launch) (D : va_G) (t : Nat → ClassId) (ws : va_W) (h0 kc kcb ks ksb kf q0 q1 q2 : Nat) (he0 : ws[q0]? = some (h0, eConn kc ks kf)) (he1 : ws[q1]? = some (kc, eRow kcb)) (he2 : ws[q2]? = some (ks, eRow ksb)) (q3 : Nat) (he3 : ws[q3]? = some (kf, .inl (t 2, 16, .inr (.inl (fun _ => 0))))) (sz : Nat) : AV l D t yX2_begin cX2_begin 1 ({ frames := 0, cells := 0, slots := 0, locals := 0 }) ws sz [.ref h0] := by
  refine go (by decide) (Nat.le_of_ble_eq_true rfl) ?_
  intro p e s m below meth c ls A hF hr hlk hin hsz hAe hP hD hS hA hl
  rw [hAe]
  clear hAe hsz
  have hF : FX p m c cX2_begin 1 s _ RX2 D t := hF
  have hx := hF.1.1
  have hb := hF.1.2.1
  have hls := hl.1
  have hl : lv_has ls 1 [(0, .ref h0)] := hl
  have hq := (List.getElem?_eq_some_iff.mp he0).1
  have n1 := ne_kind he0 he1 (by decide)
  have n2 := ne_kind he0 he2 (by decide)
  have n3 := ne_arr he0 he3
  refine lv_aload_n hx hb dX2_begin_0 rfl (lv_at hl 0 rfl) ?_
  refine lv_iconst (v := 1) hx hb dX2_begin_1 (by decide) ?_
  refine r_put hF ci_X2 fl_X2_25 dX2_begin_2 hP hD hS he0 rfl rfl rfl (Nat.le_of_ble_eq_true rfl) (fun H locs hP hD hS => ?_)
  have he0 := List.getElem?_set_self (a := (h0, (.inr (3, [.int 1, .int 0, .ref kc, .long 0, .ref ks, .ref kf, .int 0, .long 0, .int 0, .int 0, .long 0, .long 0, .int 0, .long 0, .long 0]) : va_E))) hq
  have he1 := (set_ne' (x := (h0, (.inr (3, [.int 1, .int 0, .ref kc, .long 0, .ref ks, .ref kf, .int 0, .long 0, .int 0, .int 0, .long 0, .long 0, .int 0, .long 0, .long 0]) : va_E))) n1).trans he1
  have he2 := (set_ne' (x := (h0, (.inr (3, [.int 1, .int 0, .ref kc, .long 0, .ref ks, .ref kf, .int 0, .long 0, .int 0, .int 0, .long 0, .long 0, .int 0, .long 0, .long 0]) : va_E))) n2).trans he2
  have he3 := (set_ne' (x := (h0, (.inr (3, [.int 1, .int 0, .ref kc, .long 0, .ref ks, .ref kf, .int 0, .long 0, .int 0, .int 0, .long 0, .long 0, .int 0, .long 0, .long 0]) : va_E))) n3).trans he3
  refine lv_aload_n hx hb dX2_begin_5 rfl (lv_at hl 0 rfl) ?_
  refine lv_iconst (v := 0) hx hb dX2_begin_6 (by decide) ?_
  refine r_put0 hF ci_X2 fl_X2_29 dX2_begin_7 hP hD hS he0 rfl rfl rfl rfl (fun H locs hP hS => ?_)
  refine lv_aload_n hx hb dX2_begin_10 rfl (lv_at hl 0 rfl) ?_
  refine r_get hF ci_X2 fl_X2_12 dX2_begin_11 hP he0 rfl ?_
  refine lv_iconst (v := 0) hx hb dX2_begin_14 (by decide) ?_
  refine r_put0 hF ci_X6 fl_X2_32 dX2_begin_15 hP hD hS he1 rfl rfl rfl rfl (fun H locs hP hS => ?_)
  refine lv_aload_n hx hb dX2_begin_18 rfl (lv_at hl 0 rfl) ?_
  refine r_get hF ci_X2 fl_X2_18 dX2_begin_19 hP he0 rfl ?_
  refine lv_iconst (v := 0) hx hb dX2_begin_22 (by decide) ?_
  refine r_put0 hF ci_X6 fl_X2_32 dX2_begin_23 hP hD hS he2 rfl rfl rfl rfl (fun H locs hP hS => ?_)
  refine lv_aload_n hx hb dX2_begin_26 rfl (lv_at hl 0 rfl) ?_
  refine r_get hF ci_X2 fl_X2_21 dX2_begin_27 hP he0 rfl ?_
  refine lv_iconst (v := 0) hx hb dX2_begin_30 (by decide) ?_
  refine lv_lconst (v := 0) hx hb dX2_begin_31 (by decide) ?_
  refine r_last0 hF dX2_begin_32 hP hD hS he3 (vp_in_nI (n := 0) (by decide) (by decide)) rfl (fun H locs hP hS => ?_)
  refine lv_aload_n hx hb dX2_begin_33 rfl (lv_at hl 0 rfl) ?_
  refine lv_iconst (v := 1) hx hb dX2_begin_34 (by decide) ?_
  refine r_put hF ci_X2 fl_X2_36 dX2_begin_35 hP hD hS he0 rfl rfl rfl (Nat.le_of_ble_eq_true rfl) (fun H locs hP hD hS => ?_)
  have he0 := List.getElem?_set_self (a := (h0, (.inr (3, [.int 1, .int 0, .ref kc, .long 0, .ref ks, .ref kf, .int 1, .long 0, .int 0, .int 0, .long 0, .long 0, .int 0, .long 0, .long 0]) : va_E))) (List.getElem?_eq_some_iff.mp he0).1
  refine lv_aload_n hx hb dX2_begin_38 rfl (lv_at hl 0 rfl) ?_
  refine lv_lconst (v := 0) hx hb dX2_begin_39 (by decide) ?_
  refine r_put0 hF ci_X2 fl_X2_39 dX2_begin_40 hP hD hS he0 rfl rfl rfl rfl (fun H locs hP hS => ?_)
  exact r_retAV hF hr hlk dX2_begin_43 hS
theorem line_cases2 (k : Int32) : ((k < 0 ∨ 6 ≤ k) ∧ ∀ a b, lineA k a b = b) ∨ ∃ j : Nat, j < 6 ∧ k = nI j ∧ ∀ a b, lineA k a b = a := by
  by_cases h : k < 0
  · exact Or.inl ⟨Or.inl h, fun a b => by unfold lineA; rw [if_pos h]⟩
  · by_cases h2 : 6 ≤ k
    · exact Or.inl ⟨Or.inr h2, fun a b => by unfold lineA; rw [if_neg h, if_pos h2]⟩
    · rcases pk_ix k (n := 6) (by decide) with h3 | h3 | ⟨j, hj, e⟩
      · exact absurd h3 h
      · exact absurd h3 h2
      · exact Or.inr ⟨j, hj, e, fun a b => by unfold lineA; rw [if_neg h, if_neg h2]⟩
set_option maxRecDepth 100000 in
set_option maxHeartbeats 4000000 in
theorem c_X11_outs (l : Launch) (D : va_G) (t : Nat → ClassId) (d : Nat) (h0 : Nat) (a : Nat → Nat) (fc fl fd fw : Nat → Option Nat) (fr : Nat → Int32) (T : va_W) (hcn : connsIn t T fc 6) (k : Int32) (sz : Nat) : AI l D t yX11_outs cX11_outs 3 (some .int) ({ frames := 1, cells := 0, slots := 0, locals := 21 }) (hW t d h0 a fc fl fd fw fr T) sz [.ref h0, .int k] (lineA k 0 (-1)) := by
  refine go (by decide) (Nat.le_of_ble_eq_true rfl) ?_
  intro p e s m below meth c ls A hF hr hlk hin hsz hAe hP hD hS hA hl
  rw [hAe]
  clear hAe hsz
  have hF : FX p m c cX11_outs 3 s _ RX11 D t := hF
  have hx := hF.1.1
  have hb := hF.1.2.1
  have hls := hl.1
  have hl : lv_has ls 3 [(0, .ref h0), (1, .int k)] := hl
  rcases line_cases2 k with ⟨hko, hk⟩ | ⟨j, hj, hkj, hk⟩
  · refine lv_aload_n hx hb dX11_outs_0 rfl (lv_at hl 0 rfl) ?_
    refine lv_iload_n hx hb dX11_outs_1 rfl (lv_at hl 1 rfl) ?_
    refine r_cKQ (v := none) (As := [.int k]) (rest := []) hF mv_X11_108 ci_X11 (fun sz => c_X11_connection l D t (hW t d h0 a fc fl fd fw fr T) h0 _ 23 20 _ fc rfl rfl rfl _ _ (Or.inl ⟨hko, rfl⟩) sz) dX11_outs_2 rfl rfl (by decide) rfl hl.1 (Nat.le_of_ble_eq_true rfl) hP hD hS hA (q0 := 23) rfl (by decide) rfl (fun H locs hP hS => ?_)
    refine W.eq (g2 := F0 m 5 ls [.null]) rfl ?_
    refine lv_astore_nN (lv' := [(2, .null), (0, .ref h0), (1, .int k)]) hx hb dX11_outs_5 rfl hl (by decide) rfl (fun ls hl => ?_)
    refine lv_aload_nN hx hb dX11_outs_6 rfl (lv_at hl 0 rfl) ?_
    refine lv_ifnonnullN hx hb dX11_outs_7 ?_
    refine lv_iconst (v := (-1)) hx hb dX11_outs_10 (by decide) ?_
    refine lv_goto (tgt := 21) hx hb dX11_outs_11 rfl ?_
    exact r_retA hF hr hlk rfl dX11_outs_21 hS (hk 0 (-1)).symm
  · obtain ⟨kk, kc, kcb, ks, ksb, kf, hfk, m0, m1, m2, m3⟩ := hcn j hj
    obtain ⟨q0, he0⟩ := List.getElem?_of_mem (l := (hW t d h0 a fc fl fd fw fr T)) (List.mem_append_right _ m0)
    obtain ⟨q1, he1⟩ := List.getElem?_of_mem (l := (hW t d h0 a fc fl fd fw fr T)) (List.mem_append_right _ m1)
    obtain ⟨q2, he2⟩ := List.getElem?_of_mem (l := (hW t d h0 a fc fl fd fw fr T)) (List.mem_append_right _ m2)
    obtain ⟨q3, he3⟩ := List.getElem?_of_mem (l := (hW t d h0 a fc fl fd fw fr T)) (List.mem_append_right _ m3)
    refine lv_aload_n hx hb dX11_outs_0 rfl (lv_at hl 0 rfl) ?_
    refine lv_iload_n hx hb dX11_outs_1 rfl (lv_at hl 1 rfl) ?_
    refine r_cKQ (v := (some kk)) (As := [.int k]) (rest := []) hF mv_X11_108 ci_X11 (fun sz => c_X11_connection l D t (hW t d h0 a fc fl fd fw fr T) h0 _ 23 20 _ fc rfl rfl rfl _ _ (Or.inr ⟨j, hj, hkj, hfk⟩) sz) dX11_outs_2 rfl rfl (by decide) rfl hl.1 (Nat.le_of_ble_eq_true rfl) hP hD hS hA (q0 := 23) rfl (by decide) rfl (fun H locs hP hS => ?_)
    refine W.eq (g2 := F0 m 5 ls [.ref kk]) rfl ?_
    refine lv_astore_n (lv' := [(2, .ref kk), (0, .ref h0), (1, .int k)]) hx hb dX11_outs_5 rfl hl (by decide) rfl (fun ls hl => ?_)
    refine lv_aload_n hx hb dX11_outs_6 rfl (lv_at hl 0 rfl) ?_
    refine lv_ifnonnull (tgt := 14) hx hb dX11_outs_7 rfl ?_
    refine lv_aload_n hx hb dX11_outs_14 rfl (lv_at hl 0 rfl) ?_
    refine r_get hF ci_X2 fl_X11_201 dX11_outs_15 hP he0 rfl ?_
    refine r_get hF ci_X6 fl_X11_85 dX11_outs_18 hP he2 rfl ?_
    exact r_retA hF hr hlk rfl dX11_outs_21 hS (hk 0 (-1)).symm
set_option maxRecDepth 100000 in
set_option maxHeartbeats 4000000 in
theorem c_X11_drop (l : Launch) (D : va_G) (t : Nat → ClassId) (d : Nat) (h0 : Nat) (a : Nat → Nat) (fc fl fd fw : Nat → Option Nat) (fr : Nat → Int32) (T : va_W) (hcn : connsIn t T fc 6) (k : Int32) (sz : Nat) : AI l D t yX11_drop cX11_drop 4 (some .int) ({ frames := 1, cells := 0, slots := 0, locals := 21 }) (hW t d h0 a fc fl fd fw fr T) sz [.ref h0, .int k] (lineA k 0 (-1)) := by
  refine go (by decide) (Nat.le_of_ble_eq_true rfl) ?_
  intro p e s m below meth c ls A hF hr hlk hin hsz hAe hP hD hS hA hl
  rw [hAe]
  clear hAe hsz
  have hF : FX p m c cX11_drop 4 s _ RX11 D t := hF
  have hx := hF.1.1
  have hb := hF.1.2.1
  have hls := hl.1
  have hl : lv_has ls 4 [(0, .ref h0), (1, .int k)] := hl
  rcases line_cases2 k with ⟨hko, hk⟩ | ⟨j, hj, hkj, hk⟩
  · refine lv_aload_n hx hb dX11_drop_0 rfl (lv_at hl 0 rfl) ?_
    refine lv_iload_n hx hb dX11_drop_1 rfl (lv_at hl 1 rfl) ?_
    refine r_cKQ (v := none) (As := [.int k]) (rest := []) hF mv_X11_108 ci_X11 (fun sz => c_X11_connection l D t (hW t d h0 a fc fl fd fw fr T) h0 _ 23 20 _ fc rfl rfl rfl _ _ (Or.inl ⟨hko, rfl⟩) sz) dX11_drop_2 rfl rfl (by decide) rfl hl.1 (Nat.le_of_ble_eq_true rfl) hP hD hS hA (q0 := 23) rfl (by decide) rfl (fun H locs hP hS => ?_)
    refine W.eq (g2 := F0 m 5 ls [.null]) rfl ?_
    refine lv_astore_nN (lv' := [(2, .null), (0, .ref h0), (1, .int k)]) hx hb dX11_drop_5 rfl hl (by decide) rfl (fun ls hl => ?_)
    refine lv_aload_nN hx hb dX11_drop_6 rfl (lv_at hl 0 rfl) ?_
    refine lv_ifnonnullN hx hb dX11_drop_7 ?_
    refine lv_iconst (v := (-1)) hx hb dX11_drop_10 (by decide) ?_
    exact r_retA hF hr hlk rfl dX11_drop_11 hS (hk 0 (-1)).symm
  · obtain ⟨kk, kc, kcb, ks, ksb, kf, hfk, m0, m1, m2, m3⟩ := hcn j hj
    obtain ⟨q0, he0⟩ := List.getElem?_of_mem (l := (hW t d h0 a fc fl fd fw fr T)) (List.mem_append_right _ m0)
    obtain ⟨q1, he1⟩ := List.getElem?_of_mem (l := (hW t d h0 a fc fl fd fw fr T)) (List.mem_append_right _ m1)
    obtain ⟨q2, he2⟩ := List.getElem?_of_mem (l := (hW t d h0 a fc fl fd fw fr T)) (List.mem_append_right _ m2)
    obtain ⟨q3, he3⟩ := List.getElem?_of_mem (l := (hW t d h0 a fc fl fd fw fr T)) (List.mem_append_right _ m3)
    refine lv_aload_n hx hb dX11_drop_0 rfl (lv_at hl 0 rfl) ?_
    refine lv_iload_n hx hb dX11_drop_1 rfl (lv_at hl 1 rfl) ?_
    refine r_cKQ (v := (some kk)) (As := [.int k]) (rest := []) hF mv_X11_108 ci_X11 (fun sz => c_X11_connection l D t (hW t d h0 a fc fl fd fw fr T) h0 _ 23 20 _ fc rfl rfl rfl _ _ (Or.inr ⟨j, hj, hkj, hfk⟩) sz) dX11_drop_2 rfl rfl (by decide) rfl hl.1 (Nat.le_of_ble_eq_true rfl) hP hD hS hA (q0 := 23) rfl (by decide) rfl (fun H locs hP hS => ?_)
    refine W.eq (g2 := F0 m 5 ls [.ref kk]) rfl ?_
    refine lv_astore_n (lv' := [(2, .ref kk), (0, .ref h0), (1, .int k)]) hx hb dX11_drop_5 rfl hl (by decide) rfl (fun ls hl => ?_)
    refine lv_aload_n hx hb dX11_drop_6 rfl (lv_at hl 0 rfl) ?_
    refine lv_ifnonnull (tgt := 12) hx hb dX11_drop_7 rfl ?_
    refine lv_aload_n hx hb dX11_drop_12 rfl (lv_at hl 0 rfl) ?_
    refine r_get hF ci_X2 fl_X11_201 dX11_drop_13 hP he0 rfl ?_
    refine r_get hF ci_X6 fl_X11_85 dX11_drop_16 hP he2 rfl ?_
    refine lv_istore_n (lv' := [(3, .int 0), (2, .ref kk), (0, .ref h0), (1, .int k)]) hx hb dX11_drop_19 rfl hl (by decide) rfl (fun ls hl => ?_)
    refine lv_aload_n hx hb dX11_drop_20 rfl (lv_at hl 1 rfl) ?_
    refine r_get hF ci_X2 fl_X11_201 dX11_drop_21 hP he0 rfl ?_
    refine lv_iconst (v := 0) hx hb dX11_drop_24 (by decide) ?_
    refine r_put0 hF ci_X6 fl_X11_85 dX11_drop_25 hP hD hS he2 rfl rfl rfl rfl (fun H locs hP hS => ?_)
    refine lv_iload_n hx hb dX11_drop_28 rfl (lv_at hl 0 rfl) ?_
    exact r_retA hF hr hlk rfl dX11_drop_29 hS (hk 0 (-1)).symm
set_option maxRecDepth 100000 in
set_option maxHeartbeats 4000000 in
theorem c_X11_out (l : Launch) (D : va_G) (t : Nat → ClassId) (d : Nat) (h0 : Nat) (a : Nat → Nat) (fc fl fd fw : Nat → Option Nat) (fr : Nat → Int32) (T : va_W) (hcn : connsIn t T fc 6) (k : Int32) (k2 : Int32) (sz : Nat) : AI l D t yX11_out cX11_out 4 (some .int) ({ frames := 1, cells := 0, slots := 0, locals := 21 }) (hW t d h0 a fc fl fd fw fr T) sz [.ref h0, .int k, .int k2] (-1) := by
  refine go (by decide) (Nat.le_of_ble_eq_true rfl) ?_
  intro p e s m below meth c ls A hF hr hlk hin hsz hAe hP hD hS hA hl
  rw [hAe]
  clear hAe hsz
  have hF : FX p m c cX11_out 4 s _ RX11 D t := hF
  have hx := hF.1.1
  have hb := hF.1.2.1
  have hls := hl.1
  have hl : lv_has ls 4 [(0, .ref h0), (1, .int k), (2, .int k2)] := hl
  rcases line_cases2 k with ⟨hko, hk⟩ | ⟨j, hj, hkj, hk⟩
  · refine lv_aload_n hx hb dX11_out_0 rfl (lv_at hl 0 rfl) ?_
    refine lv_iload_n hx hb dX11_out_1 rfl (lv_at hl 1 rfl) ?_
    refine r_cKQ (v := none) (As := [.int k]) (rest := []) hF mv_X11_108 ci_X11 (fun sz => c_X11_connection l D t (hW t d h0 a fc fl fd fw fr T) h0 _ 23 20 _ fc rfl rfl rfl _ _ (Or.inl ⟨hko, rfl⟩) sz) dX11_out_2 rfl rfl (by decide) rfl hl.1 (Nat.le_of_ble_eq_true rfl) hP hD hS hA (q0 := 23) rfl (by decide) rfl (fun H locs hP hS => ?_)
    refine W.eq (g2 := F0 m 5 ls [.null]) rfl ?_
    refine lv_astore_nN (lv' := [(3, .null), (0, .ref h0), (1, .int k), (2, .int k2)]) hx hb dX11_out_5 rfl hl (by decide) rfl (fun ls hl => ?_)
    refine lv_aload_nN hx hb dX11_out_6 rfl (lv_at hl 0 rfl) ?_
    refine lv_ifnullN (tgt := 25) hx hb dX11_out_7 rfl ?_
    refine lv_iconst (v := (-1)) hx hb dX11_out_25 (by decide) ?_
    exact r_retA hF hr hlk rfl dX11_out_26 hS rfl
  · obtain ⟨kk, kc, kcb, ks, ksb, kf, hfk, m0, m1, m2, m3⟩ := hcn j hj
    obtain ⟨q0, he0⟩ := List.getElem?_of_mem (l := (hW t d h0 a fc fl fd fw fr T)) (List.mem_append_right _ m0)
    obtain ⟨q1, he1⟩ := List.getElem?_of_mem (l := (hW t d h0 a fc fl fd fw fr T)) (List.mem_append_right _ m1)
    obtain ⟨q2, he2⟩ := List.getElem?_of_mem (l := (hW t d h0 a fc fl fd fw fr T)) (List.mem_append_right _ m2)
    obtain ⟨q3, he3⟩ := List.getElem?_of_mem (l := (hW t d h0 a fc fl fd fw fr T)) (List.mem_append_right _ m3)
    refine lv_aload_n hx hb dX11_out_0 rfl (lv_at hl 0 rfl) ?_
    refine lv_iload_n hx hb dX11_out_1 rfl (lv_at hl 1 rfl) ?_
    refine r_cKQ (v := (some kk)) (As := [.int k]) (rest := []) hF mv_X11_108 ci_X11 (fun sz => c_X11_connection l D t (hW t d h0 a fc fl fd fw fr T) h0 _ 23 20 _ fc rfl rfl rfl _ _ (Or.inr ⟨j, hj, hkj, hfk⟩) sz) dX11_out_2 rfl rfl (by decide) rfl hl.1 (Nat.le_of_ble_eq_true rfl) hP hD hS hA (q0 := 23) rfl (by decide) rfl (fun H locs hP hS => ?_)
    refine W.eq (g2 := F0 m 5 ls [.ref kk]) rfl ?_
    refine lv_astore_n (lv' := [(3, .ref kk), (0, .ref h0), (1, .int k), (2, .int k2)]) hx hb dX11_out_5 rfl hl (by decide) rfl (fun ls hl => ?_)
    refine lv_aload_n hx hb dX11_out_6 rfl (lv_at hl 0 rfl) ?_
    refine lv_ifnull hx hb dX11_out_7 ?_
    refine lv_iload_n hx hb dX11_out_10 rfl (lv_at hl 3 rfl) ?_
    refine lv_if_lt (tgt := 25) hx hb dX11_out_11 rfl (fun h1 => ?_) (fun h1 => ?_)
    · refine lv_iconst (v := (-1)) hx hb dX11_out_25 (by decide) ?_
      exact r_retA hF hr hlk rfl dX11_out_26 hS rfl
    · refine lv_iload_n hx hb dX11_out_14 rfl (lv_at hl 3 rfl) ?_
      refine lv_aload_n hx hb dX11_out_15 rfl (lv_at hl 0 rfl) ?_
      refine r_get hF ci_X2 fl_X11_201 dX11_out_16 hP he0 rfl ?_
      refine r_get hF ci_X6 fl_X11_85 dX11_out_19 hP he2 rfl ?_
      refine lv_icmp_lt (tgt := 27) hx hb dX11_out_22 rfl (fun h => absurd h (fun z => h1 z)) (fun _ => ?_)
      refine lv_iconst (v := (-1)) hx hb dX11_out_25 (by decide) ?_
      exact r_retA hF hr hlk rfl dX11_out_26 hS rfl
set_option maxRecDepth 100000 in
set_option maxHeartbeats 4000000 in
theorem c_X11_hang (l : Launch) (D : va_G) (t : Nat → ClassId) (d : Nat) (h0 : Nat) (a : Nat → Nat) (fc fl fd fw : Nat → Option Nat) (fr : Nat → Int32) (T : va_W) (hcn : connsIn t T fc 6) (k : Int32) (sz : Nat) : AI l D t yX11_hang cX11_hang 3 (some .boolean) ({ frames := 1, cells := 0, slots := 0, locals := 21 }) (hW t d h0 a fc fl fd fw fr T) sz [.ref h0, .int k] 0 := by
  refine go (by decide) (Nat.le_of_ble_eq_true rfl) ?_
  intro p e s m below meth c ls A hF hr hlk hin hsz hAe hP hD hS hA hl
  rw [hAe]
  clear hAe hsz
  have hF : FX p m c cX11_hang 3 s _ RX11 D t := hF
  have hx := hF.1.1
  have hb := hF.1.2.1
  have hls := hl.1
  have hl : lv_has ls 3 [(0, .ref h0), (1, .int k)] := hl
  rcases line_cases2 k with ⟨hko, hk⟩ | ⟨j, hj, hkj, hk⟩
  · refine lv_aload_n hx hb dX11_hang_0 rfl (lv_at hl 0 rfl) ?_
    refine lv_iload_n hx hb dX11_hang_1 rfl (lv_at hl 1 rfl) ?_
    refine r_cKQ (v := none) (As := [.int k]) (rest := []) hF mv_X11_108 ci_X11 (fun sz => c_X11_connection l D t (hW t d h0 a fc fl fd fw fr T) h0 _ 23 20 _ fc rfl rfl rfl _ _ (Or.inl ⟨hko, rfl⟩) sz) dX11_hang_2 rfl rfl (by decide) rfl hl.1 (Nat.le_of_ble_eq_true rfl) hP hD hS hA (q0 := 23) rfl (by decide) rfl (fun H locs hP hS => ?_)
    refine W.eq (g2 := F0 m 5 ls [.null]) rfl ?_
    refine lv_astore_nN (lv' := [(2, .null), (0, .ref h0), (1, .int k)]) hx hb dX11_hang_5 rfl hl (by decide) rfl (fun ls hl => ?_)
    refine lv_aload_nN hx hb dX11_hang_6 rfl (lv_at hl 0 rfl) ?_
    refine lv_ifnullN (tgt := 17) hx hb dX11_hang_7 rfl ?_
    refine lv_iconst (v := 0) hx hb dX11_hang_17 (by decide) ?_
    exact r_retA hF hr hlk rfl dX11_hang_18 hS rfl
  · obtain ⟨kk, kc, kcb, ks, ksb, kf, hfk, m0, m1, m2, m3⟩ := hcn j hj
    obtain ⟨q0, he0⟩ := List.getElem?_of_mem (l := (hW t d h0 a fc fl fd fw fr T)) (List.mem_append_right _ m0)
    obtain ⟨q1, he1⟩ := List.getElem?_of_mem (l := (hW t d h0 a fc fl fd fw fr T)) (List.mem_append_right _ m1)
    obtain ⟨q2, he2⟩ := List.getElem?_of_mem (l := (hW t d h0 a fc fl fd fw fr T)) (List.mem_append_right _ m2)
    obtain ⟨q3, he3⟩ := List.getElem?_of_mem (l := (hW t d h0 a fc fl fd fw fr T)) (List.mem_append_right _ m3)
    refine lv_aload_n hx hb dX11_hang_0 rfl (lv_at hl 0 rfl) ?_
    refine lv_iload_n hx hb dX11_hang_1 rfl (lv_at hl 1 rfl) ?_
    refine r_cKQ (v := (some kk)) (As := [.int k]) (rest := []) hF mv_X11_108 ci_X11 (fun sz => c_X11_connection l D t (hW t d h0 a fc fl fd fw fr T) h0 _ 23 20 _ fc rfl rfl rfl _ _ (Or.inr ⟨j, hj, hkj, hfk⟩) sz) dX11_hang_2 rfl rfl (by decide) rfl hl.1 (Nat.le_of_ble_eq_true rfl) hP hD hS hA (q0 := 23) rfl (by decide) rfl (fun H locs hP hS => ?_)
    refine W.eq (g2 := F0 m 5 ls [.ref kk]) rfl ?_
    refine lv_astore_n (lv' := [(2, .ref kk), (0, .ref h0), (1, .int k)]) hx hb dX11_hang_5 rfl hl (by decide) rfl (fun ls hl => ?_)
    refine lv_aload_n hx hb dX11_hang_6 rfl (lv_at hl 0 rfl) ?_
    refine lv_ifnull hx hb dX11_hang_7 ?_
    refine lv_aload_n hx hb dX11_hang_10 rfl (lv_at hl 0 rfl) ?_
    refine r_get hF ci_X2 fl_X11_112 dX11_hang_11 hP he0 rfl ?_
    refine lv_if_ne (tgt := 19) hx hb dX11_hang_14 rfl (fun h => absurd h (by decide)) (fun _ => ?_)
    refine lv_iconst (v := 0) hx hb dX11_hang_17 (by decide) ?_
    exact r_retA hF hr hlk rfl dX11_hang_18 hS rfl
set_option maxRecDepth 100000 in
set_option maxHeartbeats 4000000 in
theorem c_X11_isOpen (l : Launch) (D : va_G) (t : Nat → ClassId) (d : Nat) (h0 : Nat) (a : Nat → Nat) (fc fl fd fw : Nat → Option Nat) (fr : Nat → Int32) (T : va_W) (hcn : connsIn t T fc 6) (k : Int32) (sz : Nat) : AI l D t yX11_isOpen cX11_isOpen 3 (some .boolean) ({ frames := 1, cells := 0, slots := 0, locals := 21 }) (hW t d h0 a fc fl fd fw fr T) sz [.ref h0, .int k] 0 := by
  refine go (by decide) (Nat.le_of_ble_eq_true rfl) ?_
  intro p e s m below meth c ls A hF hr hlk hin hsz hAe hP hD hS hA hl
  rw [hAe]
  clear hAe hsz
  have hF : FX p m c cX11_isOpen 3 s _ RX11 D t := hF
  have hx := hF.1.1
  have hb := hF.1.2.1
  have hls := hl.1
  have hl : lv_has ls 3 [(0, .ref h0), (1, .int k)] := hl
  rcases line_cases2 k with ⟨hko, hk⟩ | ⟨j, hj, hkj, hk⟩
  · refine lv_aload_n hx hb dX11_isOpen_0 rfl (lv_at hl 0 rfl) ?_
    refine lv_iload_n hx hb dX11_isOpen_1 rfl (lv_at hl 1 rfl) ?_
    refine r_cKQ (v := none) (As := [.int k]) (rest := []) hF mv_X11_108 ci_X11 (fun sz => c_X11_connection l D t (hW t d h0 a fc fl fd fw fr T) h0 _ 23 20 _ fc rfl rfl rfl _ _ (Or.inl ⟨hko, rfl⟩) sz) dX11_isOpen_2 rfl rfl (by decide) rfl hl.1 (Nat.le_of_ble_eq_true rfl) hP hD hS hA (q0 := 23) rfl (by decide) rfl (fun H locs hP hS => ?_)
    refine W.eq (g2 := F0 m 5 ls [.null]) rfl ?_
    refine lv_astore_nN (lv' := [(2, .null), (0, .ref h0), (1, .int k)]) hx hb dX11_isOpen_5 rfl hl (by decide) rfl (fun ls hl => ?_)
    refine lv_aload_nN hx hb dX11_isOpen_6 rfl (lv_at hl 0 rfl) ?_
    refine lv_ifnullN (tgt := 21) hx hb dX11_isOpen_7 rfl ?_
    refine lv_iconst (v := 0) hx hb dX11_isOpen_21 (by decide) ?_
    exact r_retA hF hr hlk rfl dX11_isOpen_22 hS rfl
  · obtain ⟨kk, kc, kcb, ks, ksb, kf, hfk, m0, m1, m2, m3⟩ := hcn j hj
    obtain ⟨q0, he0⟩ := List.getElem?_of_mem (l := (hW t d h0 a fc fl fd fw fr T)) (List.mem_append_right _ m0)
    obtain ⟨q1, he1⟩ := List.getElem?_of_mem (l := (hW t d h0 a fc fl fd fw fr T)) (List.mem_append_right _ m1)
    obtain ⟨q2, he2⟩ := List.getElem?_of_mem (l := (hW t d h0 a fc fl fd fw fr T)) (List.mem_append_right _ m2)
    obtain ⟨q3, he3⟩ := List.getElem?_of_mem (l := (hW t d h0 a fc fl fd fw fr T)) (List.mem_append_right _ m3)
    refine lv_aload_n hx hb dX11_isOpen_0 rfl (lv_at hl 0 rfl) ?_
    refine lv_iload_n hx hb dX11_isOpen_1 rfl (lv_at hl 1 rfl) ?_
    refine r_cKQ (v := (some kk)) (As := [.int k]) (rest := []) hF mv_X11_108 ci_X11 (fun sz => c_X11_connection l D t (hW t d h0 a fc fl fd fw fr T) h0 _ 23 20 _ fc rfl rfl rfl _ _ (Or.inr ⟨j, hj, hkj, hfk⟩) sz) dX11_isOpen_2 rfl rfl (by decide) rfl hl.1 (Nat.le_of_ble_eq_true rfl) hP hD hS hA (q0 := 23) rfl (by decide) rfl (fun H locs hP hS => ?_)
    refine W.eq (g2 := F0 m 5 ls [.ref kk]) rfl ?_
    refine lv_astore_n (lv' := [(2, .ref kk), (0, .ref h0), (1, .int k)]) hx hb dX11_isOpen_5 rfl hl (by decide) rfl (fun ls hl => ?_)
    refine lv_aload_n hx hb dX11_isOpen_6 rfl (lv_at hl 0 rfl) ?_
    refine lv_ifnull hx hb dX11_isOpen_7 ?_
    refine lv_aload_n hx hb dX11_isOpen_10 rfl (lv_at hl 0 rfl) ?_
    refine r_get hF ci_X2 fl_X11_112 dX11_isOpen_11 hP he0 rfl ?_
    refine lv_if_eq (tgt := 21) hx hb dX11_isOpen_14 rfl (fun _ => ?_) (fun h => absurd rfl h)
    refine lv_iconst (v := 0) hx hb dX11_isOpen_21 (by decide) ?_
    exact r_retA hF hr hlk rfl dX11_isOpen_22 hS rfl
set_option maxRecDepth 100000 in
set_option maxHeartbeats 4000000 in
theorem c_X11_connect (l : Launch) (D : va_G) (t : Nat → ClassId) (d : Nat) (h0 : Nat) (a : Nat → Nat) (fc fl fd fw : Nat → Option Nat) (fr : Nat → Int32) (T : va_W) (hcn : connsIn t T fc 6) (k : Int32) (sz : Nat) : AI l D t yX11_connect cX11_connect 3 (some .boolean) ({ frames := 1, cells := 0, slots := 0, locals := 21 }) (hW t d h0 a fc fl fd fw fr T) sz [.ref h0, .int k] (lineA k 1 0) := by
  refine go (by decide) (Nat.le_of_ble_eq_true rfl) ?_
  intro p e s m below meth c ls A hF hr hlk hin hsz hAe hP hD hS hA hl
  rw [hAe]
  clear hAe hsz
  have hF : FX p m c cX11_connect 3 s _ RX11 D t := hF
  have hx := hF.1.1
  have hb := hF.1.2.1
  have hls := hl.1
  have hl : lv_has ls 3 [(0, .ref h0), (1, .int k)] := hl
  rcases line_cases2 k with ⟨hko, hk⟩ | ⟨j, hj, hkj, hk⟩
  · refine lv_aload_n hx hb dX11_connect_0 rfl (lv_at hl 0 rfl) ?_
    refine lv_iload_n hx hb dX11_connect_1 rfl (lv_at hl 1 rfl) ?_
    refine r_cKQ (v := none) (As := [.int k]) (rest := []) hF mv_X11_108 ci_X11 (fun sz => c_X11_connection l D t (hW t d h0 a fc fl fd fw fr T) h0 _ 23 20 _ fc rfl rfl rfl _ _ (Or.inl ⟨hko, rfl⟩) sz) dX11_connect_2 rfl rfl (by decide) rfl hl.1 (Nat.le_of_ble_eq_true rfl) hP hD hS hA (q0 := 23) rfl (by decide) rfl (fun H locs hP hS => ?_)
    refine W.eq (g2 := F0 m 5 ls [.null]) rfl ?_
    refine lv_astore_nN (lv' := [(2, .null), (0, .ref h0), (1, .int k)]) hx hb dX11_connect_5 rfl hl (by decide) rfl (fun ls hl => ?_)
    refine lv_aload_nN hx hb dX11_connect_6 rfl (lv_at hl 0 rfl) ?_
    refine lv_ifnullN (tgt := 17) hx hb dX11_connect_7 rfl ?_
    refine lv_iconst (v := 0) hx hb dX11_connect_17 (by decide) ?_
    exact r_retA hF hr hlk rfl dX11_connect_18 hS (hk 1 0).symm
  · obtain ⟨kk, kc, kcb, ks, ksb, kf, hfk, m0, m1, m2, m3⟩ := hcn j hj
    obtain ⟨q0, he0⟩ := List.getElem?_of_mem (l := (hW t d h0 a fc fl fd fw fr T)) (List.mem_append_right _ m0)
    obtain ⟨q1, he1⟩ := List.getElem?_of_mem (l := (hW t d h0 a fc fl fd fw fr T)) (List.mem_append_right _ m1)
    obtain ⟨q2, he2⟩ := List.getElem?_of_mem (l := (hW t d h0 a fc fl fd fw fr T)) (List.mem_append_right _ m2)
    obtain ⟨q3, he3⟩ := List.getElem?_of_mem (l := (hW t d h0 a fc fl fd fw fr T)) (List.mem_append_right _ m3)
    refine lv_aload_n hx hb dX11_connect_0 rfl (lv_at hl 0 rfl) ?_
    refine lv_iload_n hx hb dX11_connect_1 rfl (lv_at hl 1 rfl) ?_
    refine r_cKQ (v := (some kk)) (As := [.int k]) (rest := []) hF mv_X11_108 ci_X11 (fun sz => c_X11_connection l D t (hW t d h0 a fc fl fd fw fr T) h0 _ 23 20 _ fc rfl rfl rfl _ _ (Or.inr ⟨j, hj, hkj, hfk⟩) sz) dX11_connect_2 rfl rfl (by decide) rfl hl.1 (Nat.le_of_ble_eq_true rfl) hP hD hS hA (q0 := 23) rfl (by decide) rfl (fun H locs hP hS => ?_)
    refine W.eq (g2 := F0 m 5 ls [.ref kk]) rfl ?_
    refine lv_astore_n (lv' := [(2, .ref kk), (0, .ref h0), (1, .int k)]) hx hb dX11_connect_5 rfl hl (by decide) rfl (fun ls hl => ?_)
    refine lv_aload_n hx hb dX11_connect_6 rfl (lv_at hl 0 rfl) ?_
    refine lv_ifnull hx hb dX11_connect_7 ?_
    refine lv_aload_n hx hb dX11_connect_10 rfl (lv_at hl 0 rfl) ?_
    refine r_get hF ci_X2 fl_X11_112 dX11_connect_11 hP he0 rfl ?_
    refine lv_if_eq (tgt := 19) hx hb dX11_connect_14 rfl (fun _ => ?_) (fun h => absurd rfl h)
    refine lv_aload_n hx hb dX11_connect_19 rfl (lv_at hl 0 rfl) ?_
    refine r_cAV (As := []) (rest := []) hF mv_X11_116 ci_X2 (fun sz => c_X2_begin l D t (hW t d h0 a fc fl fd fw fr T) kk kc kcb ks ksb kf q0 q1 q2 he0 he1 he2 q3 he3 sz) dX11_connect_20 rfl rfl (by decide) rfl hl.1 (Nat.le_of_ble_eq_true rfl) hP hD hS hA he0 (by decide) rfl (fun H locs hS => ?_)
    refine lv_iconst (v := 1) hx hb dX11_connect_23 (by decide) ?_
    exact r_retA hF hr hlk rfl dX11_connect_24 hS (hk 1 0).symm
set_option maxRecDepth 100000 in
set_option maxHeartbeats 4000000 in
theorem c_X11_come (l : Launch) (D : va_G) (t : Nat → ClassId) (d : Nat) (h0 : Nat) (a : Nat → Nat) (fc fl fd fw : Nat → Option Nat) (fr : Nat → Int32) (T : va_W) (hcn : connsIn t T fc 6) (k : Int32) (sz : Nat) : AI l D t yX11_come cX11_come 9 (some .int) ({ frames := 1, cells := 0, slots := 0, locals := 21 }) (hW t d h0 a fc fl fd fw fr T) sz [.ref h0, .int k] (-1) := by
  refine go (by decide) (Nat.le_of_ble_eq_true rfl) ?_
  intro p e s m below meth c ls A hF hr hlk hin hsz hAe hP hD hS hA hl
  rw [hAe]
  clear hAe hsz
  have hF : FX p m c cX11_come 9 s _ RX11 D t := hF
  have hx := hF.1.1
  have hb := hF.1.2.1
  have hls := hl.1
  have hl : lv_has ls 9 [(0, .ref h0), (1, .int k)] := hl
  rcases line_cases2 k with ⟨hko, hk⟩ | ⟨j, hj, hkj, hk⟩
  · refine lv_aload_n hx hb dX11_come_0 rfl (lv_at hl 0 rfl) ?_
    refine r_get hF ci_X11 fl_X11_10 dX11_come_1 hP (q0 := 23) rfl rfl ?_
    refine r_get hF ci_X6 fl_X11_85 dX11_come_4 hP (q0 := 22) rfl rfl ?_
    refine lv_aload_n hx hb dX11_come_7 rfl (lv_at hl 0 rfl) ?_
    refine r_get hF ci_X11 fl_X11_10 dX11_come_8 hP (q0 := 23) rfl rfl ?_
    refine r_get hF ci_X6 fl_X11_126 dX11_come_11 hP (q0 := 22) rfl rfl ?_
    refine r_alen (v := 64) hF dX11_come_14 hP (q0 := 21) rfl (t0 := 0) rfl rfl ?_
    refine va_mmin hx hb (hF.1.2.2.1.trans hl.1.symm) hF.1.2.2.2.1 (hF.1.2.2.2.2 _ (wb 239 rfl)) (hF.1.2.2.2.2 _ (wb 176 rfl)) (hF.1.2.2.2.2 _ (wb 81 rfl)) (hF.1.2.2.2.2 _ (wb 175 rfl)) (by decide) (Nat.le_of_ble_eq_true rfl) (by decide) (by decide) dX11_come_15 ?_
    refine W.eq (g2 := F0 m 18 ls [.int 0]) rfl ?_
    refine lv_istore_n (lv' := [(2, .int 0), (0, .ref h0), (1, .int k)]) hx hb dX11_come_18 rfl hl (by decide) rfl (fun ls hl => ?_)
    refine lv_aload_n hx hb dX11_come_19 rfl (lv_at hl 1 rfl) ?_
    refine r_get hF ci_X11 fl_X11_10 dX11_come_20 hP (q0 := 23) rfl rfl ?_
    refine lv_iconst (v := 0) hx hb dX11_come_23 (by decide) ?_
    refine r_put0 hF ci_X6 fl_X11_85 dX11_come_24 hP hD hS (q0 := 22) rfl rfl rfl rfl rfl (fun H locs hP hS => ?_)
    refine lv_aload_n hx hb dX11_come_27 rfl (lv_at hl 1 rfl) ?_
    refine lv_iload_n hx hb dX11_come_28 rfl (lv_at hl 2 rfl) ?_
    refine r_cKQ (v := none) (As := [.int k]) (rest := []) hF mv_X11_108 ci_X11 (fun sz => c_X11_connection l D t (hW t d h0 a fc fl fd fw fr T) h0 _ 23 20 _ fc rfl rfl rfl _ _ (Or.inl ⟨hko, rfl⟩) sz) dX11_come_29 rfl rfl (by decide) rfl hl.1 (Nat.le_of_ble_eq_true rfl) hP hD hS hA (q0 := 23) rfl (by decide) rfl (fun H locs hP hS => ?_)
    refine W.eq (g2 := F0 m 32 ls [.null]) rfl ?_
    refine lv_astore_nN (lv' := [(3, .null), (2, .int 0), (0, .ref h0), (1, .int k)]) hx hb dX11_come_32 rfl hl (by decide) rfl (fun ls hl => ?_)
    refine lv_aload_nN hx hb dX11_come_33 rfl (lv_at hl 0 rfl) ?_
    refine lv_ifnullN (tgt := 44) hx hb dX11_come_34 rfl ?_
    refine lv_iconst (v := (-1)) hx hb dX11_come_44 (by decide) ?_
    exact r_retA hF hr hlk rfl dX11_come_45 hS rfl
  · obtain ⟨kk, kc, kcb, ks, ksb, kf, hfk, m0, m1, m2, m3⟩ := hcn j hj
    obtain ⟨q0, he0⟩ := List.getElem?_of_mem (l := (hW t d h0 a fc fl fd fw fr T)) (List.mem_append_right _ m0)
    obtain ⟨q1, he1⟩ := List.getElem?_of_mem (l := (hW t d h0 a fc fl fd fw fr T)) (List.mem_append_right _ m1)
    obtain ⟨q2, he2⟩ := List.getElem?_of_mem (l := (hW t d h0 a fc fl fd fw fr T)) (List.mem_append_right _ m2)
    obtain ⟨q3, he3⟩ := List.getElem?_of_mem (l := (hW t d h0 a fc fl fd fw fr T)) (List.mem_append_right _ m3)
    refine lv_aload_n hx hb dX11_come_0 rfl (lv_at hl 0 rfl) ?_
    refine r_get hF ci_X11 fl_X11_10 dX11_come_1 hP (q0 := 23) rfl rfl ?_
    refine r_get hF ci_X6 fl_X11_85 dX11_come_4 hP (q0 := 22) rfl rfl ?_
    refine lv_aload_n hx hb dX11_come_7 rfl (lv_at hl 0 rfl) ?_
    refine r_get hF ci_X11 fl_X11_10 dX11_come_8 hP (q0 := 23) rfl rfl ?_
    refine r_get hF ci_X6 fl_X11_126 dX11_come_11 hP (q0 := 22) rfl rfl ?_
    refine r_alen (v := 64) hF dX11_come_14 hP (q0 := 21) rfl (t0 := 0) rfl rfl ?_
    refine va_mmin hx hb (hF.1.2.2.1.trans hl.1.symm) hF.1.2.2.2.1 (hF.1.2.2.2.2 _ (wb 239 rfl)) (hF.1.2.2.2.2 _ (wb 176 rfl)) (hF.1.2.2.2.2 _ (wb 81 rfl)) (hF.1.2.2.2.2 _ (wb 175 rfl)) (by decide) (Nat.le_of_ble_eq_true rfl) (by decide) (by decide) dX11_come_15 ?_
    refine W.eq (g2 := F0 m 18 ls [.int 0]) rfl ?_
    refine lv_istore_n (lv' := [(2, .int 0), (0, .ref h0), (1, .int k)]) hx hb dX11_come_18 rfl hl (by decide) rfl (fun ls hl => ?_)
    refine lv_aload_n hx hb dX11_come_19 rfl (lv_at hl 1 rfl) ?_
    refine r_get hF ci_X11 fl_X11_10 dX11_come_20 hP (q0 := 23) rfl rfl ?_
    refine lv_iconst (v := 0) hx hb dX11_come_23 (by decide) ?_
    refine r_put0 hF ci_X6 fl_X11_85 dX11_come_24 hP hD hS (q0 := 22) rfl rfl rfl rfl rfl (fun H locs hP hS => ?_)
    refine lv_aload_n hx hb dX11_come_27 rfl (lv_at hl 1 rfl) ?_
    refine lv_iload_n hx hb dX11_come_28 rfl (lv_at hl 2 rfl) ?_
    refine r_cKQ (v := (some kk)) (As := [.int k]) (rest := []) hF mv_X11_108 ci_X11 (fun sz => c_X11_connection l D t (hW t d h0 a fc fl fd fw fr T) h0 _ 23 20 _ fc rfl rfl rfl _ _ (Or.inr ⟨j, hj, hkj, hfk⟩) sz) dX11_come_29 rfl rfl (by decide) rfl hl.1 (Nat.le_of_ble_eq_true rfl) hP hD hS hA (q0 := 23) rfl (by decide) rfl (fun H locs hP hS => ?_)
    refine W.eq (g2 := F0 m 32 ls [.ref kk]) rfl ?_
    refine lv_astore_n (lv' := [(3, .ref kk), (2, .int 0), (0, .ref h0), (1, .int k)]) hx hb dX11_come_32 rfl hl (by decide) rfl (fun ls hl => ?_)
    refine lv_aload_n hx hb dX11_come_33 rfl (lv_at hl 0 rfl) ?_
    refine lv_ifnull hx hb dX11_come_34 ?_
    refine lv_aload_n hx hb dX11_come_37 rfl (lv_at hl 0 rfl) ?_
    refine r_get hF ci_X2 fl_X11_112 dX11_come_38 hP he0 rfl ?_
    refine lv_if_ne (tgt := 46) hx hb dX11_come_41 rfl (fun h => absurd h (by decide)) (fun _ => ?_)
    refine lv_iconst (v := (-1)) hx hb dX11_come_44 (by decide) ?_
    exact r_retA hF hr hlk rfl dX11_come_45 hS rfl
set_option maxRecDepth 100000 in
set_option maxHeartbeats 4000000 in
theorem c_X11_cut (l : Launch) (D : va_G) (t : Nat → ClassId) (d : Nat) (h0 : Nat) (a : Nat → Nat) (fc fl fd fw : Nat → Option Nat) (fr : Nat → Int32) (T : va_W) (k : Int32) (sz : Nat) : AI l D t yX11_cut cX11_cut 3 (some .int) ({ frames := 0, cells := 0, slots := 0, locals := 0 }) (hW t d h0 a fc fl fd fw fr T) sz [.ref h0, .int k] (tapeA k) := by
  refine go (by decide) (Nat.le_of_ble_eq_true rfl) ?_
  intro p e s m below meth c ls A hF hr hlk hin hsz hAe hP hD hS hA hl
  rw [hAe]
  clear hAe hsz
  have hF : FX p m c cX11_cut 3 s _ RX11 D t := hF
  have hx := hF.1.1
  have hb := hF.1.2.1
  have hls := hl.1
  have hl : lv_has ls 3 [(0, .ref h0), (1, .int k)] := hl
  refine lv_iload_n hx hb dX11_cut_0 rfl (lv_at hl 1 rfl) ?_
  refine lv_if_lt (tgt := 15) hx hb dX11_cut_1 rfl (fun h1 => ?_) (fun h1 => ?_)
  · refine lv_iconst (v := (-1)) hx hb dX11_cut_15 (by decide) ?_
    exact r_retA hF hr hlk rfl dX11_cut_16 hS (by unfold tapeA; rw [if_neg (fun z => by subst z; exact absurd h1 (by decide))])
  · refine lv_iload_n hx hb dX11_cut_4 rfl (lv_at hl 1 rfl) ?_
    refine lv_aload_n hx hb dX11_cut_5 rfl (lv_at hl 0 rfl) ?_
    refine r_get hF ci_X11 fl_X11_10 dX11_cut_6 hP (q0 := 23) rfl rfl ?_
    refine r_get hF ci_X6 fl_X11_85 dX11_cut_9 hP (q0 := 22) rfl rfl ?_
    refine lv_icmp_le (tgt := 17) hx hb dX11_cut_12 rfl (fun h2 => ?_) (fun h2 => ?_)
    · have hk0 : k = 0 := by rcases pk_ix k (n := 1) (by decide) with h3 | h3 | ⟨j3, hj3, e3⟩; exact absurd h3 h1; exact absurd (Int32.le_trans h3 h2) (by decide); exact (by have z3 : j3 = 0 := (by omega); subst z3; exact e3)
      subst hk0
      refine lv_aload_n hx hb dX11_cut_17 rfl (lv_at hl 0 rfl) ?_
      refine r_get hF ci_X11 fl_X11_10 dX11_cut_18 hP (q0 := 23) rfl rfl ?_
      refine r_get hF ci_X6 fl_X11_85 dX11_cut_21 hP (q0 := 22) rfl rfl ?_
      refine lv_iload_n hx hb dX11_cut_24 rfl (lv_at hl 1 rfl) ?_
      refine lv_isub hx hb dX11_cut_25 ?_
      refine lv_istore_n (lv' := [(2, .int (0 - 0)), (0, .ref h0), (1, .int 0)]) hx hb dX11_cut_26 rfl hl (by decide) rfl (fun ls hl => ?_)
      refine lv_aload_n hx hb dX11_cut_27 rfl (lv_at hl 1 rfl) ?_
      refine r_get hF ci_X11 fl_X11_10 dX11_cut_28 hP (q0 := 23) rfl rfl ?_
      refine lv_iload_n hx hb dX11_cut_31 rfl (lv_at hl 2 rfl) ?_
      refine r_put0 hF ci_X6 fl_X11_85 dX11_cut_32 hP hD hS (q0 := 22) rfl rfl rfl rfl rfl (fun H locs hP hS => ?_)
      refine lv_iload_n hx hb dX11_cut_35 rfl (lv_at hl 0 rfl) ?_
      exact r_retA hF hr hlk rfl dX11_cut_36 hS (by decide)
    · refine lv_iconst (v := (-1)) hx hb dX11_cut_15 (by decide) ?_
      exact r_retA hF hr hlk rfl dX11_cut_16 hS (by unfold tapeA; rw [if_neg (fun z => h2 (by rw [z]; exact Int32.le_refl 0))])
set_option maxRecDepth 100000 in
set_option maxHeartbeats 4000000 in
theorem c_X11_share (l : Launch) (D : va_G) (t : Nat → ClassId) (d : Nat) (h0 : Nat) (a : Nat → Nat) (fc fl fd fw : Nat → Option Nat) (fr : Nat → Int32) (T : va_W) (hfr : ∀ i, i < 4 → fr i = -1) (k : Int32) (sz : Nat) : AI l D t yX11_share cX11_share 3 (some .boolean) ({ frames := 1, cells := 0, slots := 0, locals := 23 }) (hW t d h0 a fc fl fd fw fr T) sz [.ref h0, .int k] 0 := by
  refine go (by decide) (Nat.le_of_ble_eq_true rfl) ?_
  intro p e s m below meth c ls A hF hr hlk hin hsz hAe hP hD hS hA hl
  rw [hAe]
  clear hAe hsz
  have hF : FX p m c cX11_share 3 s _ RX11 D t := hF
  have hx := hF.1.1
  have hb := hF.1.2.1
  have hls := hl.1
  have hl : lv_has ls 3 [(0, .ref h0), (1, .int k)] := hl
  refine lv_iload_n hx hb dX11_share_0 rfl (lv_at hl 1 rfl) ?_
  refine lv_if_lt (tgt := 66) hx hb dX11_share_1 rfl (fun h1 => ?_) (fun h1 => ?_)
  · refine lv_iconst (v := 0) hx hb dX11_share_66 (by decide) ?_
    refine lv_istore_n (lv' := [(2, .int 0), (0, .ref h0), (1, .int k)]) hx hb dX11_share_67 rfl hl (by decide) rfl (fun ls hl => ?_)
    refine lv_iload_n hx hb dX11_share_68 rfl (lv_at hl 0 rfl) ?_
    refine lv_if_eq (tgt := 82) hx hb dX11_share_69 rfl (fun _ => ?_) (fun h => absurd rfl h)
    refine lv_aload_n hx hb dX11_share_82 rfl (lv_at hl 1 rfl) ?_
    refine r_get hF ci_X11 fl_X11_10 dX11_share_83 hP (q0 := 23) rfl rfl ?_
    refine lv_iconst (v := 0) hx hb dX11_share_86 (by decide) ?_
    refine r_put0 hF ci_X6 fl_X11_85 dX11_share_87 hP hD hS (q0 := 22) rfl rfl rfl rfl rfl (fun H locs hP hS => ?_)
    refine lv_iload_n hx hb dX11_share_90 rfl (lv_at hl 0 rfl) ?_
    exact r_retA hF hr hlk rfl dX11_share_91 hS rfl
  · refine lv_iload_n hx hb dX11_share_4 rfl (lv_at hl 1 rfl) ?_
    refine lv_aload_n hx hb dX11_share_5 rfl (lv_at hl 0 rfl) ?_
    refine r_get hF ci_X11 fl_X11_22 dX11_share_6 hP (q0 := 23) rfl rfl ?_
    refine r_alen (v := 4) hF dX11_share_9 hP (q0 := 19) rfl (t0 := 1) rfl rfl ?_
    refine lv_icmp_ge (tgt := 66) hx hb dX11_share_10 rfl (fun h2 => ?_) (fun h2 => ?_)
    · refine lv_iconst (v := 0) hx hb dX11_share_66 (by decide) ?_
      refine lv_istore_n (lv' := [(2, .int 0), (0, .ref h0), (1, .int k)]) hx hb dX11_share_67 rfl hl (by decide) rfl (fun ls hl => ?_)
      refine lv_iload_n hx hb dX11_share_68 rfl (lv_at hl 0 rfl) ?_
      refine lv_if_eq (tgt := 82) hx hb dX11_share_69 rfl (fun _ => ?_) (fun h => absurd rfl h)
      refine lv_aload_n hx hb dX11_share_82 rfl (lv_at hl 1 rfl) ?_
      refine r_get hF ci_X11 fl_X11_10 dX11_share_83 hP (q0 := 23) rfl rfl ?_
      refine lv_iconst (v := 0) hx hb dX11_share_86 (by decide) ?_
      refine r_put0 hF ci_X6 fl_X11_85 dX11_share_87 hP hD hS (q0 := 22) rfl rfl rfl rfl rfl (fun H locs hP hS => ?_)
      refine lv_iload_n hx hb dX11_share_90 rfl (lv_at hl 0 rfl) ?_
      exact r_retA hF hr hlk rfl dX11_share_91 hS rfl
    · obtain ⟨j, hj, hkj⟩ : ∃ j : Nat, j < 4 ∧ k = nI j := by rcases pk_ix k (n := 4) (by decide) with h3 | h3 | h3; exact absurd h3 h1; exact absurd h3 h2; exact h3
      refine lv_aload_n hx hb dX11_share_13 rfl (lv_at hl 0 rfl) ?_
      refine r_get hF ci_X11 fl_X11_22 dX11_share_14 hP (q0 := 23) rfl rfl ?_
      refine lv_iload_n hx hb dX11_share_17 rfl (lv_at hl 1 rfl) ?_
      refine r_iald (v := (-1)) hF dX11_share_18 hP (q0 := 19) rfl (by rw [hkj]; exact vp_in_nI hj (by decide)) (by rw [hkj, nI_clamp (by omega)]; exact hfr j hj) ?_
      refine lv_iconst (v := (-1)) hx hb dX11_share_19 (by decide) ?_
      refine lv_icmp_ne (tgt := 66) hx hb dX11_share_20 rfl (fun h => absurd h (by decide)) (fun _ => ?_)
      refine lv_aload_n hx hb dX11_share_23 rfl (lv_at hl 0 rfl) ?_
      refine r_cKI (v := 0) (As := []) (rest := []) hF mv_X11_93 ci_X11 (fun sz => c_X11_tapeIsShareName l D t (hW t d h0 a fc fl fd fw fr T) h0 _ _ 23 22 _ rfl rfl rfl sz) dX11_share_24 rfl rfl (by decide) rfl hl.1 (Nat.le_of_ble_eq_true rfl) hP hD hS hA (q0 := 23) rfl (by decide) rfl (fun H locs hP hS => ?_)
      refine lv_if_eq (tgt := 66) hx hb dX11_share_27 rfl (fun _ => ?_) (fun h => absurd rfl h)
      refine lv_iconst (v := 0) hx hb dX11_share_66 (by decide) ?_
      refine lv_istore_n (lv' := [(2, .int 0), (0, .ref h0), (1, .int k)]) hx hb dX11_share_67 rfl hl (by decide) rfl (fun ls hl => ?_)
      refine lv_iload_n hx hb dX11_share_68 rfl (lv_at hl 0 rfl) ?_
      refine lv_if_eq (tgt := 82) hx hb dX11_share_69 rfl (fun _ => ?_) (fun h => absurd rfl h)
      refine lv_aload_n hx hb dX11_share_82 rfl (lv_at hl 1 rfl) ?_
      refine r_get hF ci_X11 fl_X11_10 dX11_share_83 hP (q0 := 23) rfl rfl ?_
      refine lv_iconst (v := 0) hx hb dX11_share_86 (by decide) ?_
      refine r_put0 hF ci_X6 fl_X11_85 dX11_share_87 hP hD hS (q0 := 22) rfl rfl rfl rfl rfl (fun H locs hP hS => ?_)
      refine lv_iload_n hx hb dX11_share_90 rfl (lv_at hl 0 rfl) ?_
      exact r_retA hF hr hlk rfl dX11_share_91 hS rfl
set_option maxRecDepth 100000 in
set_option maxHeartbeats 4000000 in
theorem c_X11_tick (l : Launch) (D : va_G) (t : Nat → ClassId) (d : Nat) (h0 : Nat) (a : Nat → Nat) (fc fl fd fw : Nat → Option Nat) (fr : Nat → Int32) (T : va_W) (k : Int32) (sz : Nat) : AI l D t yX11_tick cX11_tick 4 (some .boolean) ({ frames := 1, cells := 0, slots := 0, locals := 20 }) (hW t d h0 a fc fl fd fw fr T) sz [.ref h0, .int k] (tickA k) := by
  refine go (by decide) (Nat.le_of_ble_eq_true rfl) ?_
  intro p e s m below meth c ls A hF hr hlk hin hsz hAe hP hD hS hA hl
  rw [hAe]
  clear hAe hsz
  have hF : FX p m c cX11_tick 4 s _ RX11 D t := hF
  have hx := hF.1.1
  have hb := hF.1.2.1
  have hls := hl.1
  have hl : lv_has ls 4 [(0, .ref h0), (1, .int k)] := hl
  have hP : va_P D cl1 [(h0, .inr (1, [.ref (a 0), .ref (a 2), .ref (a 3), .ref (a 4), .ref (a 6), .ref (a 8), .int 0, .long 0, .ref (a 9), .ref (a 10), .ref (a 11), .ref (a 12), .ref (a 13), .ref (a 14), .ref (a 15), .ref (a 17), .ref (a 19), .ref (a 21)])), ((a 11), .inr (7, [.int 0, .ref d, .int 0]))] s.heap := hP.sub [23, 11] rfl
  have hD : va_D A [(h0, .inr (1, [.ref (a 0), .ref (a 2), .ref (a 3), .ref (a 4), .ref (a 6), .ref (a 8), .int 0, .long 0, .ref (a 9), .ref (a 10), .ref (a 11), .ref (a 12), .ref (a 13), .ref (a 14), .ref (a 15), .ref (a 17), .ref (a 19), .ref (a 21)])), ((a 11), .inr (7, [.int 0, .ref d, .int 0]))] := hD.sub [23, 11] (by decide) rfl
  refine lv_iload_n hx hb dX11_tick_0 rfl (lv_at hl 1 rfl) ?_
  refine lv_if_lt (tgt := 10) hx hb dX11_tick_1 rfl (fun h1 => ?_) (fun h1 => ?_)
  · refine lv_iconst (v := 0) hx hb dX11_tick_10 (by decide) ?_
    exact r_retA hF hr hlk rfl dX11_tick_11 hS (by unfold tickA; rw [if_pos h1])
  · refine lv_iload_n hx hb dX11_tick_4 rfl (lv_at hl 1 rfl) ?_
    refine lv_ldc (v := 1000000) hx hb hF.1.2.2.2.1 (hF.1.2.2.2.2 _ (wb 240 rfl)) dX11_tick_5 ?_
    refine lv_icmp_le (tgt := 12) hx hb dX11_tick_7 rfl (fun h2 => ?_) (fun h2 => ?_)
    · refine lv_aload_n hx hb dX11_tick_12 rfl (lv_at hl 0 rfl) ?_
      refine lv_dup hx hb dX11_tick_13 rfl ?_
      refine r_get hF ci_X11 fl_X11_157 dX11_tick_14 hP (q0 := 0) rfl rfl ?_
      refine lv_iload_n hx hb dX11_tick_17 rfl (lv_at hl 1 rfl) ?_
      refine lv_i2l (v := k.toInt64) hx hb dX11_tick_18 rfl ?_
      refine lv_ladd hx hb dX11_tick_19 ?_
      refine r_put hF ci_X11 fl_X11_157 dX11_tick_20 hP hD hS (q0 := 0) rfl rfl rfl rfl (Nat.le_of_ble_eq_true rfl) (fun H locs hP hD hS => ?_)
      replace hP : va_P D cl1 ([(h0, .inr (1, [.ref (a 0), .ref (a 2), .ref (a 3), .ref (a 4), .ref (a 6), .ref (a 8), .int 0, .long (0 + k.toInt64), .ref (a 9), .ref (a 10), .ref (a 11), .ref (a 12), .ref (a 13), .ref (a 14), .ref (a 15), .ref (a 17), .ref (a 19), .ref (a 21)])), ((a 11), .inr (7, [.int 0, .ref d, .int 0]))]) H := hP
      replace hD : va_D A ([(h0, .inr (1, [.ref (a 0), .ref (a 2), .ref (a 3), .ref (a 4), .ref (a 6), .ref (a 8), .int 0, .long (0 + k.toInt64), .ref (a 9), .ref (a 10), .ref (a 11), .ref (a 12), .ref (a 13), .ref (a 14), .ref (a 15), .ref (a 17), .ref (a 19), .ref (a 21)])), ((a 11), .inr (7, [.int 0, .ref d, .int 0]))]) := hD
      refine lv_iconst (v := 0) hx hb dX11_tick_23 (by decide) ?_
      refine lv_istore_n (lv' := [(2, .int 0), (0, .ref h0), (1, .int k)]) hx hb dX11_tick_24 rfl hl (by decide) rfl (fun ls hl => ?_)
      refine lv_iload_n hx hb dX11_tick_25 rfl (lv_at hl 0 rfl) ?_
      refine lv_aload_n hx hb dX11_tick_26 rfl (lv_at hl 1 rfl) ?_
      refine r_get hF ci_X11 fl_X11_52 dX11_tick_27 hP (q0 := 0) rfl rfl ?_
      refine r_cKI (v := 0) (As := []) (rest := [.int 0]) hF mv_X11_161 ci_Jx4a65c (fun sz => c_Jx4a65c_size_8abf5 l D t _ _ 1 _ _ rfl sz) dX11_tick_30 rfl rfl (by decide) rfl hl.1 (Nat.le_of_ble_eq_true rfl) hP hD hS hA (q0 := 1) rfl (by decide) rfl (fun H locs hP hS => ?_)
      refine lv_icmp_ge (tgt := 87) hx hb dX11_tick_33 rfl (fun _ => ?_) (fun h => absurd (by decide) h)
      refine lv_iconst (v := 1) hx hb dX11_tick_87 (by decide) ?_
      exact r_retA hF hr hlk rfl dX11_tick_88 hS (by unfold tickA; rw [if_neg h1, if_neg (Int32.not_lt.mpr h2)])
    · refine lv_iconst (v := 0) hx hb dX11_tick_10 (by decide) ?_
      exact r_retA hF hr hlk rfl dX11_tick_11 hS (by unfold tickA; rw [if_neg h1, if_pos (Int32.not_le.mp h2)])
set_option maxRecDepth 100000 in
set_option maxHeartbeats 4000000 in
theorem c_X11_told (l : Launch) (D : va_G) (t : Nat → ClassId) (d : Nat) (h0 : Nat) (a : Nat → Nat) (fc fl fd fw : Nat → Option Nat) (fr : Nat → Int32) (T : va_W) (k : Int32) (sz : Nat) : AI l D t yX11_told cX11_told 2 (some .int) ({ frames := 1, cells := 0, slots := 0, locals := 20 }) (hW t d h0 a fc fl fd fw fr T) sz [.ref h0, .int k] (toldA k) := by
  refine go (by decide) (Nat.le_of_ble_eq_true rfl) ?_
  intro p e s m below meth c ls A hF hr hlk hin hsz hAe hP hD hS hA hl
  rw [hAe]
  clear hAe hsz
  have hF : FX p m c cX11_told 2 s _ RX11 D t := hF
  have hx := hF.1.1
  have hb := hF.1.2.1
  have hls := hl.1
  have hl : lv_has ls 2 [(0, .ref h0), (1, .int k)] := hl
  rcases pk_ix k (n := 9) (by decide) with h1 | h1 | ⟨j, hj, hkj⟩
  · have hk : toldA k = -1 := by unfold toldA; rw [if_pos h1]
    refine lv_iload_n hx hb dX11_told_0 rfl (lv_at hl 1 rfl) ?_
    refine lv_tableOut (tgt := 119) hx hb dX11_told_1 (Or.inl (Int32.lt_iff_toInt_lt.mp h1)) rfl ?_
    refine lv_iconst (v := (-1)) hx hb dX11_told_119 (by decide) ?_
    exact r_retA hF hr hlk rfl dX11_told_120 hS hk.symm
  · have h8 : (8 : Int32) < k := Int32.lt_of_lt_of_le (by decide) h1
    have hk : toldA k = -1 := by unfold toldA; rw [if_pos h8]; exact ite_self _
    refine lv_iload_n hx hb dX11_told_0 rfl (lv_at hl 1 rfl) ?_
    refine lv_tableOut (tgt := 119) hx hb dX11_told_1 (Or.inr (Int32.lt_iff_toInt_lt.mp h8)) rfl ?_
    refine lv_iconst (v := (-1)) hx hb dX11_told_119 (by decide) ?_
    exact r_retA hF hr hlk rfl dX11_told_120 hS hk.symm
  · rcases (show j = 0 ∨ j = 1 ∨ j = 2 ∨ j = 3 ∨ j = 4 ∨ j = 5 ∨ j = 6 ∨ j = 7 ∨ j = 8 by omega) with z | z | z | z | z | z | z | z | z
    · subst z
      subst hkj
      refine lv_iload_n hx hb dX11_told_0 rfl (lv_at hl 1 rfl) ?_
      refine lv_tableIn (off := 51) (tgt := 52) hx hb dX11_told_1 (by decide) (by decide) rfl rfl ?_
      refine lv_aload_n hx hb dX11_told_52 rfl (lv_at hl 0 rfl) ?_
      refine r_get hF ci_X11 fl_X11_157 dX11_told_53 hP (q0 := 23) rfl rfl ?_
      refine lv_l2i (v := 0) hx hb dX11_told_56 (by decide) ?_
      exact r_retA hF hr hlk rfl dX11_told_57 hS (by decide)
    · subst z
      subst hkj
      refine lv_iload_n hx hb dX11_told_0 rfl (lv_at hl 1 rfl) ?_
      refine lv_tableIn (off := 57) (tgt := 58) hx hb dX11_told_1 (by decide) (by decide) rfl rfl ?_
      refine lv_aload_n hx hb dX11_told_58 rfl (lv_at hl 0 rfl) ?_
      refine r_get hF ci_X11 fl_X11_182 dX11_told_59 hP (q0 := 23) rfl rfl ?_
      exact r_retA hF hr hlk rfl dX11_told_62 hS (by decide)
    · subst z
      subst hkj
      refine lv_iload_n hx hb dX11_told_0 rfl (lv_at hl 1 rfl) ?_
      refine lv_tableIn (off := 62) (tgt := 63) hx hb dX11_told_1 (by decide) (by decide) rfl rfl ?_
      refine lv_aload_n hx hb dX11_told_63 rfl (lv_at hl 0 rfl) ?_
      refine r_get hF ci_X11 fl_X11_29 dX11_told_64 hP (q0 := 23) rfl rfl ?_
      refine r_get hF ci_X9 fl_X11_101 dX11_told_67 hP (q0 := 18) rfl rfl ?_
      exact r_retA hF hr hlk rfl dX11_told_70 hS (by decide)
    · subst z
      subst hkj
      refine lv_iload_n hx hb dX11_told_0 rfl (lv_at hl 1 rfl) ?_
      refine lv_tableIn (off := 70) (tgt := 71) hx hb dX11_told_1 (by decide) (by decide) rfl rfl ?_
      refine lv_aload_n hx hb dX11_told_71 rfl (lv_at hl 0 rfl) ?_
      refine r_get hF ci_X11 fl_X11_52 dX11_told_72 hP (q0 := 23) rfl rfl ?_
      refine r_cKI (v := 0) (As := []) (rest := []) hF mv_X11_161 ci_Jx4a65c (fun sz => c_Jx4a65c_size_8abf5 l D t (hW t d h0 a fc fl fd fw fr T) _ 11 _ _ rfl sz) dX11_told_75 rfl rfl (by decide) rfl hl.1 (Nat.le_of_ble_eq_true rfl) hP hD hS hA (q0 := 11) rfl (by decide) rfl (fun H locs hP hS => ?_)
      exact r_retA hF hr hlk rfl dX11_told_78 hS (by decide)
    · subst z
      subst hkj
      refine lv_iload_n hx hb dX11_told_0 rfl (lv_at hl 1 rfl) ?_
      refine lv_tableIn (off := 78) (tgt := 79) hx hb dX11_told_1 (by decide) (by decide) rfl rfl ?_
      refine lv_aload_n hx hb dX11_told_79 rfl (lv_at hl 0 rfl) ?_
      refine r_get hF ci_X11 fl_X11_55 dX11_told_80 hP (q0 := 23) rfl rfl ?_
      refine r_cKI (v := 0) (As := []) (rest := []) hF mv_X11_161 ci_Jx4a65c (fun sz => c_Jx4a65c_size_8abf5 l D t (hW t d h0 a fc fl fd fw fr T) _ 10 _ _ rfl sz) dX11_told_83 rfl rfl (by decide) rfl hl.1 (Nat.le_of_ble_eq_true rfl) hP hD hS hA (q0 := 10) rfl (by decide) rfl (fun H locs hP hS => ?_)
      exact r_retA hF hr hlk rfl dX11_told_86 hS (by decide)
    · subst z
      subst hkj
      refine lv_iload_n hx hb dX11_told_0 rfl (lv_at hl 1 rfl) ?_
      refine lv_tableIn (off := 86) (tgt := 87) hx hb dX11_told_1 (by decide) (by decide) rfl rfl ?_
      refine lv_aload_n hx hb dX11_told_87 rfl (lv_at hl 0 rfl) ?_
      refine r_get hF ci_X11 fl_X11_58 dX11_told_88 hP (q0 := 23) rfl rfl ?_
      refine r_cKI (v := 0) (As := []) (rest := []) hF mv_X11_161 ci_Jx4a65c (fun sz => c_Jx4a65c_size_8abf5 l D t (hW t d h0 a fc fl fd fw fr T) _ 9 _ _ rfl sz) dX11_told_91 rfl rfl (by decide) rfl hl.1 (Nat.le_of_ble_eq_true rfl) hP hD hS hA (q0 := 9) rfl (by decide) rfl (fun H locs hP hS => ?_)
      exact r_retA hF hr hlk rfl dX11_told_94 hS (by decide)
    · subst z
      subst hkj
      refine lv_iload_n hx hb dX11_told_0 rfl (lv_at hl 1 rfl) ?_
      refine lv_tableIn (off := 94) (tgt := 95) hx hb dX11_told_1 (by decide) (by decide) rfl rfl ?_
      refine lv_aload_n hx hb dX11_told_95 rfl (lv_at hl 0 rfl) ?_
      refine r_get hF ci_X11 fl_X11_45 dX11_told_96 hP (q0 := 23) rfl rfl ?_
      refine r_cKI (v := 0) (As := []) (rest := []) hF mv_X11_161 ci_Jx4a65c (fun sz => c_Jx4a65c_size_8abf5 l D t (hW t d h0 a fc fl fd fw fr T) _ 13 _ _ rfl sz) dX11_told_99 rfl rfl (by decide) rfl hl.1 (Nat.le_of_ble_eq_true rfl) hP hD hS hA (q0 := 13) rfl (by decide) rfl (fun H locs hP hS => ?_)
      exact r_retA hF hr hlk rfl dX11_told_102 hS (by decide)
    · subst z
      subst hkj
      refine lv_iload_n hx hb dX11_told_0 rfl (lv_at hl 1 rfl) ?_
      refine lv_tableIn (off := 102) (tgt := 103) hx hb dX11_told_1 (by decide) (by decide) rfl rfl ?_
      refine lv_aload_n hx hb dX11_told_103 rfl (lv_at hl 0 rfl) ?_
      refine r_get hF ci_X11 fl_X11_49 dX11_told_104 hP (q0 := 23) rfl rfl ?_
      refine r_cKI (v := 0) (As := []) (rest := []) hF mv_X11_161 ci_Jx4a65c (fun sz => c_Jx4a65c_size_8abf5 l D t (hW t d h0 a fc fl fd fw fr T) _ 12 _ _ rfl sz) dX11_told_107 rfl rfl (by decide) rfl hl.1 (Nat.le_of_ble_eq_true rfl) hP hD hS hA (q0 := 12) rfl (by decide) rfl (fun H locs hP hS => ?_)
      exact r_retA hF hr hlk rfl dX11_told_110 hS (by decide)
    · subst z
      subst hkj
      refine lv_iload_n hx hb dX11_told_0 rfl (lv_at hl 1 rfl) ?_
      refine lv_tableIn (off := 110) (tgt := 111) hx hb dX11_told_1 (by decide) (by decide) rfl rfl ?_
      refine lv_aload_n hx hb dX11_told_111 rfl (lv_at hl 0 rfl) ?_
      refine r_get hF ci_X11 fl_X11_33 dX11_told_112 hP (q0 := 23) rfl rfl ?_
      refine r_get hF ci_X9 fl_X11_101 dX11_told_115 hP (q0 := 16) rfl rfl ?_
      exact r_retA hF hr hlk rfl dX11_told_118 hS (by decide)

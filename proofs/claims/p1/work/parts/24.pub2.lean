abbrev rW (t : Nat → ClassId) (z : Nat × va_E) (r b n : Nat) (f : Nat → Int32) : va_W := [z, (r, .inr (2, [.ref b, .int (nI n)])), (b, .inl (t 0, 64, .inl f))]
def rI (t : Nat → ClassId) (z : Nat × va_E) (r b n : Nat) (w1 : va_W) : Prop := ∃ f : Nat → Int32, w1 = rW t z r b n f
set_option maxRecDepth 100000 in
set_option maxHeartbeats 4000000 in
theorem c_X6_add (l : Launch) (D : va_G) (t : Nat → ClassId) (z : Nat × va_E) (r b n : Nat) (f : Nat → Int32) (hn : n < 64) (v : Int32) (sz : Nat) : WV l D t yX6_add cX6_add 2 ({ frames := 0, cells := 0, slots := 0, locals := 0 }) (rW t z r b n f) sz [.ref r, .int v] 0 0 (fun _ => True) (rI t z r b (n + 1)) := by
  refine goE (by decide) (Nat.le_of_ble_eq_true rfl) ?_
  intro p e s m below meth c ls A hF hr hlk hin hsz hAe hP hD hS hA hl hE
  rw [hAe]
  have hF : FX p m c cX6_add 2 s _ RX6 D t := hF
  have hx := hF.1.1
  have hb := hF.1.2.1
  have hl : lv_has ls 2 [(0, .ref r), (1, .int v)] := hl
  refine lv_aload_n hx hb dX6_add_0 rfl (lv_at hl 0 rfl) ?_
  refine r_get hF ci_X6 fl_X6_25 dX6_add_1 hP (q0 := 1) rfl rfl ?_
  refine lv_aload_n hx hb dX6_add_4 rfl (lv_at hl 0 rfl) ?_
  refine r_get hF ci_X6 fl_X6_7 dX6_add_5 hP (q0 := 1) rfl rfl ?_
  refine r_alen (v := 64) hF dX6_add_8 hP (q0 := 2) rfl (t0 := 0) rfl rfl ?_
  refine lv_icmp_lt (tgt := 32) hx hb dX6_add_9 rfl (fun _ => ?_) (fun h => absurd (nI_lt (b := 64) hn (by decide)) h)
  refine lv_aload_n hx hb dX6_add_32 rfl (lv_at hl 0 rfl) ?_
  refine r_get hF ci_X6 fl_X6_7 dX6_add_33 hP (q0 := 1) rfl rfl ?_
  refine lv_aload_n hx hb dX6_add_36 rfl (lv_at hl 0 rfl) ?_
  refine r_get hF ci_X6 fl_X6_25 dX6_add_37 hP (q0 := 1) rfl rfl ?_
  refine lv_iload_n hx hb dX6_add_40 rfl (lv_at hl 1 rfl) ?_
  refine lv_i2b hx hb dX6_add_41 rfl ?_
  refine r_bast hF dX6_add_42 hP hD hS (q0 := 2) rfl (vp_in_nI hn (by decide)) (fun H locs hP hD hS => ?_)
  refine lv_aload_n hx hb dX6_add_43 rfl (lv_at hl 0 rfl) ?_
  refine lv_dup hx hb dX6_add_44 rfl ?_
  refine r_get hF ci_X6 fl_X6_25 dX6_add_45 hP (q0 := 1) rfl rfl ?_
  refine lv_iconst (v := 1) hx hb dX6_add_48 (by decide) ?_
  refine lv_iadd hx hb dX6_add_49 ?_
  rw [show nI n + 1 = nI (n + 1) from nI_1 n]
  refine r_put hF ci_X6 fl_X6_25 dX6_add_50 hP hD hS (q0 := 1) rfl rfl rfl rfl (Nat.le_of_ble_eq_true rfl) (fun H locs hP hD hS => ?_)
  exact r_retW hF hr hlk dX6_add_53 hP hD hS ⟨_, rfl⟩
set_option maxRecDepth 100000 in
set_option maxHeartbeats 4000000 in
theorem c_X6_addH (l : Launch) (D : va_G) (t : Nat → ClassId) (z : Nat × va_E) (r b n : Nat) (f : Nat → Int32) (hn : n + 4 ≤ 64) (v : Int32) (sz : Nat) : WV l D t yX6_addHighestFirst cX6_addHighestFirst 2 ({ frames := 1, cells := 0, slots := 0, locals := 21 }) (rW t z r b n f) sz [.ref r, .int v] 0 0 (fun _ => True) (rI t z r b (n + 4)) := by
  refine goE (by decide) (Nat.le_of_ble_eq_true rfl) ?_
  intro p e s m below meth c ls A hF hr hlk hin hsz hAe hP hD hS hA hl hE
  rw [hAe]
  have hF : FX p m c cX6_addHighestFirst 2 s _ RX6 D t := hF
  have hx := hF.1.1
  have hb := hF.1.2.1
  have hl : lv_has ls 2 [(0, .ref r), (1, .int v)] := hl
  refine lv_aload_n hx hb dX6_addHighestFirst_0 rfl (lv_at hl 0 rfl) ?_
  refine lv_iload_n hx hb dX6_addHighestFirst_1 rfl (lv_at hl 1 rfl) ?_
  refine lv_bipush (v := 24) hx hb dX6_addHighestFirst_2 (by decide) ?_
  refine lv_ishr hx hb dX6_addHighestFirst_4 ?_
  refine r_cWV (As := [.int (v >>> (24 &&& 31))]) (rest := []) hF mv_X6_33 ci_X6 (c_X6_add l D t z r b n f (by omega) (v >>> (24 &&& 31)) _) dX6_addHighestFirst_5 rfl rfl (by decide) rfl hl.1 (Nat.le_of_ble_eq_true rfl) hP hD hS hA (q0 := 1) rfl (by decide) rfl (fun w1 H locs hI hP hD hS => ?_)
  obtain ⟨f, rfl⟩ := hI
  refine lv_aload_n hx hb dX6_addHighestFirst_8 rfl (lv_at hl 0 rfl) ?_
  refine lv_iload_n hx hb dX6_addHighestFirst_9 rfl (lv_at hl 1 rfl) ?_
  refine lv_bipush (v := 16) hx hb dX6_addHighestFirst_10 (by decide) ?_
  refine lv_ishr hx hb dX6_addHighestFirst_12 ?_
  refine r_cWV (As := [.int (v >>> (16 &&& 31))]) (rest := []) hF mv_X6_33 ci_X6 (c_X6_add l D t z r b (n + 1) f (by omega) (v >>> (16 &&& 31)) _) dX6_addHighestFirst_13 rfl rfl (by decide) rfl hl.1 (Nat.le_of_ble_eq_true rfl) hP hD hS hA (q0 := 1) rfl (by decide) rfl (fun w1 H locs hI hP hD hS => ?_)
  obtain ⟨f, rfl⟩ := hI
  refine lv_aload_n hx hb dX6_addHighestFirst_16 rfl (lv_at hl 0 rfl) ?_
  refine lv_iload_n hx hb dX6_addHighestFirst_17 rfl (lv_at hl 1 rfl) ?_
  refine lv_bipush (v := 8) hx hb dX6_addHighestFirst_18 (by decide) ?_
  refine lv_ishr hx hb dX6_addHighestFirst_20 ?_
  refine r_cWV (As := [.int (v >>> (8 &&& 31))]) (rest := []) hF mv_X6_33 ci_X6 (c_X6_add l D t z r b (n + 2) f (by omega) (v >>> (8 &&& 31)) _) dX6_addHighestFirst_21 rfl rfl (by decide) rfl hl.1 (Nat.le_of_ble_eq_true rfl) hP hD hS hA (q0 := 1) rfl (by decide) rfl (fun w1 H locs hI hP hD hS => ?_)
  obtain ⟨f, rfl⟩ := hI
  refine lv_aload_n hx hb dX6_addHighestFirst_24 rfl (lv_at hl 0 rfl) ?_
  refine lv_iload_n hx hb dX6_addHighestFirst_25 rfl (lv_at hl 1 rfl) ?_
  refine r_cWV (As := [.int v]) (rest := []) hF mv_X6_33 ci_X6 (c_X6_add l D t z r b (n + 3) f (by omega) v _) dX6_addHighestFirst_26 rfl rfl (by decide) rfl hl.1 (Nat.le_of_ble_eq_true rfl) hP hD hS hA (q0 := 1) rfl (by decide) rfl (fun w1 H locs hI hP hD hS => ?_)
  obtain ⟨f, rfl⟩ := hI
  exact r_retW hF hr hlk dX6_addHighestFirst_29 hP hD hS ⟨f, rfl⟩
set_option maxRecDepth 100000 in
set_option maxHeartbeats 4000000 in
theorem c_X11_feed (l : Launch) (D : va_G) (t : Nat → ClassId) (d : Nat) (h0 : Nat) (a : Nat → Nat) (fc fl fd fw : Nat → Option Nat) (fr : Nat → Int32) (T : va_W) (k1 k2 k3 k4 k5 : Int32) (sz : Nat) : AI l D t yX11_feed cX11_feed 6 (some .int) ({ frames := 2, cells := 0, slots := 0, locals := 42 }) (hW t d h0 a fc fl fd fw fr T) sz [.ref h0, .int k1, .int k2, .int k3, .int k4, .int k5] 20 := by
  refine go (by decide) (Nat.le_of_ble_eq_true rfl) ?_
  intro p e s m below meth c ls A hF hr hlk hin hsz hAe hP hD hS hA hl
  rw [hAe]
  clear hAe hsz
  have hF : FX p m c cX11_feed 6 s _ RX11 D t := hF
  have hx := hF.1.1
  have hb := hF.1.2.1
  have hls := hl.1
  have hl : lv_has ls 6 [(0, .ref h0), (1, .int k1), (2, .int k2), (3, .int k3), (4, .int k4), (5, .int k5)] := hl
  have hP : va_P D cl1 [(h0, .inr (1, [.ref (a 0), .ref (a 2), .ref (a 3), .ref (a 4), .ref (a 6), .ref (a 8), .int 0, .long 0, .ref (a 9), .ref (a 10), .ref (a 11), .ref (a 12), .ref (a 13), .ref (a 14), .ref (a 15), .ref (a 17), .ref (a 19), .ref (a 21)])), ((a 0), .inr (2, [.ref (a 1), .int 0])), ((a 1), .inl (t 0, 64, .inl (fun _ => 0)))] s.heap := hP.sub [23, 22, 21] rfl
  have hD : va_D A [(h0, .inr (1, [.ref (a 0), .ref (a 2), .ref (a 3), .ref (a 4), .ref (a 6), .ref (a 8), .int 0, .long 0, .ref (a 9), .ref (a 10), .ref (a 11), .ref (a 12), .ref (a 13), .ref (a 14), .ref (a 15), .ref (a 17), .ref (a 19), .ref (a 21)])), ((a 0), .inr (2, [.ref (a 1), .int 0])), ((a 1), .inl (t 0, 64, .inl (fun _ => 0)))] := hD.sub [23, 22, 21] (by decide) rfl
  refine lv_aload_n hx hb dX11_feed_0 rfl (lv_at hl 0 rfl) ?_
  refine r_get hF ci_X11 fl_X11_10 dX11_feed_1 hP (q0 := 0) rfl rfl ?_
  refine r_get hF ci_X6 fl_X11_85 dX11_feed_4 hP (q0 := 1) rfl rfl ?_
  refine lv_bipush (v := 20) hx hb dX11_feed_7 (by decide) ?_
  refine lv_iadd hx hb dX11_feed_9 ?_
  refine lv_sipush (v := 8000) hx hb dX11_feed_10 (by decide) ?_
  refine lv_icmp_le (tgt := 18) hx hb dX11_feed_13 rfl (fun _ => ?_) (fun h => absurd (by decide) h)
  generalize hz : ((h0, .inr (1, [.ref (a 0), .ref (a 2), .ref (a 3), .ref (a 4), .ref (a 6), .ref (a 8), .int 0, .long 0, .ref (a 9), .ref (a 10), .ref (a 11), .ref (a 12), .ref (a 13), .ref (a 14), .ref (a 15), .ref (a 17), .ref (a 19), .ref (a 21)])) : Nat × va_E) = z at hP hD
  have hP : va_P D cl1 (rW t z (a 0) (a 1) 0 (fun _ => 0)) _ := hP
  have hD : va_D A (rW t z (a 0) (a 1) 0 (fun _ => 0)) := hD
  generalize (fun _ => 0 : Nat → Int32) = f at hP hD
  refine lv_aload_n hx hb dX11_feed_18 rfl (lv_at hl 0 rfl) ?_
  refine r_get hF ci_X11 fl_X11_10 dX11_feed_19 hP (q0 := 0) (congrArg some hz.symm) rfl ?_
  refine lv_iload_n hx hb dX11_feed_22 rfl (lv_at hl 1 rfl) ?_
  refine r_cWV (As := [.int k1]) (rest := []) hF mv_X11_89 ci_X6 (c_X6_addH l D t z (a 0) (a 1) 0 f (by decide) k1 _) dX11_feed_23 rfl rfl (by decide) rfl hl.1 (Nat.le_of_ble_eq_true rfl) hP hD hS hA (q0 := 1) rfl (by decide) rfl (fun w1 H locs hI hP hD hS => ?_)
  obtain ⟨f, rfl⟩ := hI
  refine lv_aload_n hx hb dX11_feed_26 rfl (lv_at hl 0 rfl) ?_
  refine r_get hF ci_X11 fl_X11_10 dX11_feed_27 hP (q0 := 0) (congrArg some hz.symm) rfl ?_
  refine lv_iload_n hx hb dX11_feed_30 rfl (lv_at hl 2 rfl) ?_
  refine r_cWV (As := [.int k2]) (rest := []) hF mv_X11_89 ci_X6 (c_X6_addH l D t z (a 0) (a 1) 4 f (by decide) k2 _) dX11_feed_31 rfl rfl (by decide) rfl hl.1 (Nat.le_of_ble_eq_true rfl) hP hD hS hA (q0 := 1) rfl (by decide) rfl (fun w1 H locs hI hP hD hS => ?_)
  obtain ⟨f, rfl⟩ := hI
  refine lv_aload_n hx hb dX11_feed_34 rfl (lv_at hl 0 rfl) ?_
  refine r_get hF ci_X11 fl_X11_10 dX11_feed_35 hP (q0 := 0) (congrArg some hz.symm) rfl ?_
  refine lv_iload_n hx hb dX11_feed_38 rfl (lv_at hl 3 rfl) ?_
  refine r_cWV (As := [.int k3]) (rest := []) hF mv_X11_89 ci_X6 (c_X6_addH l D t z (a 0) (a 1) 8 f (by decide) k3 _) dX11_feed_39 rfl rfl (by decide) rfl hl.1 (Nat.le_of_ble_eq_true rfl) hP hD hS hA (q0 := 1) rfl (by decide) rfl (fun w1 H locs hI hP hD hS => ?_)
  obtain ⟨f, rfl⟩ := hI
  refine lv_aload_n hx hb dX11_feed_42 rfl (lv_at hl 0 rfl) ?_
  refine r_get hF ci_X11 fl_X11_10 dX11_feed_43 hP (q0 := 0) (congrArg some hz.symm) rfl ?_
  refine lv_iload hx hb dX11_feed_46 (lv_at hl 4 rfl) ?_
  refine r_cWV (As := [.int k4]) (rest := []) hF mv_X11_89 ci_X6 (c_X6_addH l D t z (a 0) (a 1) 12 f (by decide) k4 _) dX11_feed_48 rfl rfl (by decide) rfl hl.1 (Nat.le_of_ble_eq_true rfl) hP hD hS hA (q0 := 1) rfl (by decide) rfl (fun w1 H locs hI hP hD hS => ?_)
  obtain ⟨f, rfl⟩ := hI
  refine lv_aload_n hx hb dX11_feed_51 rfl (lv_at hl 0 rfl) ?_
  refine r_get hF ci_X11 fl_X11_10 dX11_feed_52 hP (q0 := 0) (congrArg some hz.symm) rfl ?_
  refine lv_iload hx hb dX11_feed_55 (lv_at hl 5 rfl) ?_
  refine r_cWV (As := [.int k5]) (rest := []) hF mv_X11_89 ci_X6 (c_X6_addH l D t z (a 0) (a 1) 16 f (by decide) k5 _) dX11_feed_57 rfl rfl (by decide) rfl hl.1 (Nat.le_of_ble_eq_true rfl) hP hD hS hA (q0 := 1) rfl (by decide) rfl (fun w1 H locs hI hP hD hS => ?_)
  obtain ⟨f, rfl⟩ := hI
  refine lv_aload_n hx hb dX11_feed_60 rfl (lv_at hl 0 rfl) ?_
  refine r_get hF ci_X11 fl_X11_10 dX11_feed_61 hP (q0 := 0) (congrArg some hz.symm) rfl ?_
  refine r_get hF ci_X6 fl_X11_85 dX11_feed_64 hP (q0 := 1) rfl rfl ?_
  exact r_retA hF hr hlk rfl dX11_feed_67 hS rfl
set_option maxRecDepth 100000 in
set_option maxHeartbeats 4000000 in
theorem c_X4_copyFrom (l : Launch) (D : va_G) (t : Nat → ClassId) (ws : va_W) (h0 h1 q0 q1 q2 q3 q4 q5 : Nat) (i i1 : Int32) (nm dt nm1 dt1 : Nat) (he0 : ws[q0]? = some (h0, eNode i nm dt)) (he1 : ws[q1]? = some (h1, eNode i1 nm1 dt1)) (he2 : ws[q2]? = some (nm, .inl (t 0, 12, .inl (fun _ => 0)))) (he3 : ws[q3]? = some (dt, .inl (t 0, 0, .inl (fun _ => 0)))) (he4 : ws[q4]? = some (nm1, .inl (t 0, 12, .inl (fun _ => 0)))) (he5 : ws[q5]? = some (dt1, .inl (t 0, 0, .inl (fun _ => 0)))) (sz : Nat) : KV l D t yX4_copyFrom cX4_copyFrom 2 ({ frames := 1, cells := 0, slots := 0, locals := 60 }) ws sz [.ref h0, .ref h1] := by
  refine go (by decide) (Nat.le_of_ble_eq_true rfl) ?_
  intro p e s m below meth c ls A hF hr hlk hin hsz hAe hP hD hS hA hl
  rw [hAe]
  clear hAe hsz
  have hF : FX p m c cX4_copyFrom 2 s _ RX4 D t := hF
  have hx := hF.1.1
  have hb := hF.1.2.1
  have hls := hl.1
  have hl : lv_has ls 2 [(0, .ref h0), (1, .ref h1)] := hl
  refine lv_aload_n hx hb dX4_copyFrom_0 rfl (lv_at hl 0 rfl) ?_
  refine lv_aload_n hx hb dX4_copyFrom_1 rfl (lv_at hl 1 rfl) ?_
  refine r_get hF ci_X4 fl_X4_77 dX4_copyFrom_2 hP he1 rfl ?_
  refine r_put0 hF ci_X4 fl_X4_77 dX4_copyFrom_5 hP hD hS he0 rfl rfl rfl rfl (fun H locs hP hS => ?_)
  refine lv_aload_n hx hb dX4_copyFrom_8 rfl (lv_at hl 0 rfl) ?_
  refine lv_aload_n hx hb dX4_copyFrom_9 rfl (lv_at hl 1 rfl) ?_
  refine r_get hF ci_X4 fl_X4_28 dX4_copyFrom_10 hP he1 rfl ?_
  refine r_put0 hF ci_X4 fl_X4_28 dX4_copyFrom_13 hP hD hS he0 rfl rfl rfl rfl (fun H locs hP hS => ?_)
  refine lv_aload_n hx hb dX4_copyFrom_16 rfl (lv_at hl 0 rfl) ?_
  refine lv_iconst (v := 0) hx hb dX4_copyFrom_17 (by decide) ?_
  refine r_put0 hF ci_X4 fl_X4_61 dX4_copyFrom_18 hP hD hS he0 rfl rfl rfl rfl (fun H locs hP hS => ?_)
  refine lv_aload_n hx hb dX4_copyFrom_21 rfl (lv_at hl 0 rfl) ?_
  refine lv_aload_n hx hb dX4_copyFrom_22 rfl (lv_at hl 1 rfl) ?_
  refine r_get hF ci_X4 fl_X4_9 dX4_copyFrom_23 hP he1 rfl ?_
  refine r_put0 hF ci_X4 fl_X4_9 dX4_copyFrom_26 hP hD hS he0 rfl rfl rfl rfl (fun H locs hP hS => ?_)
  refine lv_aload_n hx hb dX4_copyFrom_29 rfl (lv_at hl 0 rfl) ?_
  refine lv_aload_n hx hb dX4_copyFrom_30 rfl (lv_at hl 1 rfl) ?_
  refine r_get hF ci_X4 fl_X4_64 dX4_copyFrom_31 hP he1 rfl ?_
  refine r_put0 hF ci_X4 fl_X4_64 dX4_copyFrom_34 hP hD hS he0 rfl rfl rfl rfl (fun H locs hP hS => ?_)
  refine lv_aload_n hx hb dX4_copyFrom_37 rfl (lv_at hl 1 rfl) ?_
  refine r_get hF ci_X4 fl_X4_15 dX4_copyFrom_38 hP he1 rfl ?_
  refine lv_iconst (v := 0) hx hb dX4_copyFrom_41 (by decide) ?_
  refine lv_aload_n hx hb dX4_copyFrom_42 rfl (lv_at hl 0 rfl) ?_
  refine r_get hF ci_X4 fl_X4_15 dX4_copyFrom_43 hP he0 rfl ?_
  refine lv_iconst (v := 0) hx hb dX4_copyFrom_46 (by decide) ?_
  refine lv_aload_n hx hb dX4_copyFrom_47 rfl (lv_at hl 0 rfl) ?_
  refine r_get hF ci_X4 fl_X4_15 dX4_copyFrom_48 hP he0 rfl ?_
  refine r_alen (v := 12) hF dX4_copyFrom_51 hP he2 (t0 := 0) rfl rfl ?_
  refine r_copy0 hF hl.1 (wb 276 rfl) (wb 182 rfl) (wb 183 rfl) (wb 88 rfl) dX4_copyFrom_52 hP hD hS he4 he2 (by decide) (by decide) (by decide) (by decide) (by decide) (fun _ _ => rfl) (fun _ _ => rfl) (by decide) (Nat.le_of_ble_eq_true rfl) (fun H locs hP hS => ?_)
  refine lv_aload_n hx hb dX4_copyFrom_55 rfl (lv_at hl 0 rfl) ?_
  refine lv_aload_n hx hb dX4_copyFrom_56 rfl (lv_at hl 1 rfl) ?_
  refine r_get hF ci_X4 fl_X4_25 dX4_copyFrom_57 hP he1 rfl ?_
  refine r_put0 hF ci_X4 fl_X4_25 dX4_copyFrom_60 hP hD hS he0 rfl rfl rfl rfl (fun H locs hP hS => ?_)
  refine lv_aload_n hx hb dX4_copyFrom_63 rfl (lv_at hl 0 rfl) ?_
  refine lv_aload_n hx hb dX4_copyFrom_64 rfl (lv_at hl 1 rfl) ?_
  refine r_get hF ci_X4 fl_X4_35 dX4_copyFrom_65 hP he1 rfl ?_
  refine r_put0 hF ci_X4 fl_X4_35 dX4_copyFrom_68 hP hD hS he0 rfl rfl rfl rfl (fun H locs hP hS => ?_)
  refine lv_aload_n hx hb dX4_copyFrom_71 rfl (lv_at hl 0 rfl) ?_
  refine lv_aload_n hx hb dX4_copyFrom_72 rfl (lv_at hl 1 rfl) ?_
  refine r_get hF ci_X4 fl_X4_45 dX4_copyFrom_73 hP he1 rfl ?_
  refine r_put0 hF ci_X4 fl_X4_45 dX4_copyFrom_76 hP hD hS he0 rfl rfl rfl rfl (fun H locs hP hS => ?_)
  refine lv_aload_n hx hb dX4_copyFrom_79 rfl (lv_at hl 0 rfl) ?_
  refine lv_aload_n hx hb dX4_copyFrom_80 rfl (lv_at hl 1 rfl) ?_
  refine r_get hF ci_X4 fl_X4_48 dX4_copyFrom_81 hP he1 rfl ?_
  refine r_put0 hF ci_X4 fl_X4_48 dX4_copyFrom_84 hP hD hS he0 rfl rfl rfl rfl (fun H locs hP hS => ?_)
  refine lv_aload_n hx hb dX4_copyFrom_87 rfl (lv_at hl 0 rfl) ?_
  refine lv_aload_n hx hb dX4_copyFrom_88 rfl (lv_at hl 1 rfl) ?_
  refine r_get hF ci_X4 fl_X4_51 dX4_copyFrom_89 hP he1 rfl ?_
  refine r_put0 hF ci_X4 fl_X4_51 dX4_copyFrom_92 hP hD hS he0 rfl rfl rfl rfl (fun H locs hP hS => ?_)
  refine lv_aload_n hx hb dX4_copyFrom_95 rfl (lv_at hl 0 rfl) ?_
  refine lv_aload_n hx hb dX4_copyFrom_96 rfl (lv_at hl 1 rfl) ?_
  refine r_get hF ci_X4 fl_X4_32 dX4_copyFrom_97 hP he1 rfl ?_
  refine r_put0 hF ci_X4 fl_X4_32 dX4_copyFrom_100 hP hD hS he0 rfl rfl rfl rfl (fun H locs hP hS => ?_)
  refine lv_aload_n hx hb dX4_copyFrom_103 rfl (lv_at hl 0 rfl) ?_
  refine r_get hF ci_X4 fl_X4_19 dX4_copyFrom_104 hP he0 rfl ?_
  refine r_alen (v := 0) hF dX4_copyFrom_107 hP he3 (t0 := 0) rfl rfl ?_
  refine lv_aload_n hx hb dX4_copyFrom_108 rfl (lv_at hl 0 rfl) ?_
  refine r_get hF ci_X4 fl_X4_32 dX4_copyFrom_109 hP he0 rfl ?_
  refine lv_icmp_ge (tgt := 126) hx hb dX4_copyFrom_112 rfl (fun _ => ?_) (fun h => absurd (by decide) h)
  refine lv_aload_n hx hb dX4_copyFrom_126 rfl (lv_at hl 1 rfl) ?_
  refine r_get hF ci_X4 fl_X4_19 dX4_copyFrom_127 hP he1 rfl ?_
  refine lv_iconst (v := 0) hx hb dX4_copyFrom_130 (by decide) ?_
  refine lv_aload_n hx hb dX4_copyFrom_131 rfl (lv_at hl 0 rfl) ?_
  refine r_get hF ci_X4 fl_X4_19 dX4_copyFrom_132 hP he0 rfl ?_
  refine lv_iconst (v := 0) hx hb dX4_copyFrom_135 (by decide) ?_
  refine lv_aload_n hx hb dX4_copyFrom_136 rfl (lv_at hl 0 rfl) ?_
  refine r_get hF ci_X4 fl_X4_32 dX4_copyFrom_137 hP he0 rfl ?_
  refine r_copy0 hF hl.1 (wb 276 rfl) (wb 182 rfl) (wb 183 rfl) (wb 88 rfl) dX4_copyFrom_140 hP hD hS he5 he3 (by decide) (by decide) (by decide) (by decide) (by decide) (fun _ _ => rfl) (fun _ _ => rfl) (by decide) (Nat.le_of_ble_eq_true rfl) (fun H locs hP hS => ?_)
  exact r_retV hF hr hlk dX4_copyFrom_143 hP hS
set_option maxRecDepth 100000 in
set_option maxHeartbeats 4000000 in
theorem c_X9_copyFrom (l : Launch) (D : va_G) (t : Nat → ClassId) (ws : va_W) (T : va_W) (hT : ∀ q ∈ T, q ∈ ws) (h0 h1 an an1 q0 q1 q2 q3 : Nat) (f f1 : Nat → Option Nat) (he0 : ws[q0]? = some (h0, .inr (6, [.ref an, .int 0]))) (he1 : ws[q1]? = some (h1, .inr (6, [.ref an1, .int 0]))) (he2 : ws[q2]? = some (an, .inl (t 6, 80, .inr (.inr (.inr (.inr f)))))) (he3 : ws[q3]? = some (an1, .inl (t 6, 80, .inr (.inr (.inr (.inr f1)))))) (hN : nodesIn t T f 80) (hN1 : nodesIn t T f1 80) (sz : Nat) : KV l D t yX9_copyFrom cX9_copyFrom 3 ({ frames := 2, cells := 0, slots := 0, locals := 81 }) ws sz [.ref h0, .ref h1] := by
  refine go (by decide) (Nat.le_of_ble_eq_true rfl) ?_
  intro p e s m below meth c ls A hF hr hlk hin hsz hAe hP hD hS hA hl
  rw [hAe]
  clear hAe hsz
  have hF : FX p m c cX9_copyFrom 3 s _ RX9 D t := hF
  have hx := hF.1.1
  have hb := hF.1.2.1
  have hls := hl.1
  have hl : lv_has ls 3 [(0, .ref h0), (1, .ref h1)] := hl
  refine lv_iconst (v := 0) hx hb dX9_copyFrom_0 (by decide) ?_
  refine lv_istore_n (lv' := [(2, .int 0), (0, .ref h0), (1, .ref h1)]) hx hb dX9_copyFrom_1 rfl hl (by decide) rfl (fun ls hl => ?_)
  have hl : lv_has ls 3 [(2, .int 0), (1, .ref h1), (0, .ref h0)] := lv_sub hl [0, 2, 1] rfl
  refine r_loop (L0 := fun i => [(2, .int (nI i)), (1, .ref h1), (0, .ref h0)]) 80 hl hP hS (fun i hi ls H locs hl hP hS ih => ?_) (fun ls H locs hl hP hS => ?_)
  · have hl : lv_has ls 3 [(2, .int (nI i)), (1, .ref h1), (0, .ref h0)] := hl
    refine lv_iload_n hx hb dX9_copyFrom_2 rfl (lv_at hl 0 rfl) ?_
    refine lv_aload_n hx hb dX9_copyFrom_3 rfl (lv_at hl 2 rfl) ?_
    refine r_get hF ci_X9 fl_X9_11 dX9_copyFrom_4 hP he0 rfl ?_
    refine r_alen (v := 80) hF dX9_copyFrom_7 hP he2 (t0 := 6) rfl rfl ?_
    refine lv_icmp_ge (tgt := 32) hx hb dX9_copyFrom_8 rfl (fun h => absurd h (nI_ge hi (by decide))) (fun _ => ?_)
    obtain ⟨x, nm, dt, hfx, m0, m1, m2⟩ := hN i hi
    obtain ⟨x1, nm1, dt1, hfx1, m3, m4, m5⟩ := hN1 i hi
    obtain ⟨p0, hp0⟩ := List.getElem?_of_mem (hT _ m0)
    obtain ⟨p1, hp1⟩ := List.getElem?_of_mem (hT _ m1)
    obtain ⟨p2, hp2⟩ := List.getElem?_of_mem (hT _ m2)
    obtain ⟨p3, hp3⟩ := List.getElem?_of_mem (hT _ m3)
    obtain ⟨p4, hp4⟩ := List.getElem?_of_mem (hT _ m4)
    obtain ⟨p5, hp5⟩ := List.getElem?_of_mem (hT _ m5)
    refine lv_aload_n hx hb dX9_copyFrom_11 rfl (lv_at hl 2 rfl) ?_
    refine r_get hF ci_X9 fl_X9_11 dX9_copyFrom_12 hP he0 rfl ?_
    refine lv_iload_n hx hb dX9_copyFrom_15 rfl (lv_at hl 0 rfl) ?_
    refine r_aldq (v := .ref x) (t0 := 6) hF dX9_copyFrom_16 hP he2 rfl (vp_in_nI hi (by decide)) (by rw [nI_clamp (by omega), hfx]; rfl) ?_
    refine lv_aload_n hx hb dX9_copyFrom_17 rfl (lv_at hl 1 rfl) ?_
    refine r_get hF ci_X9 fl_X9_11 dX9_copyFrom_18 hP he1 rfl ?_
    refine lv_iload_n hx hb dX9_copyFrom_21 rfl (lv_at hl 0 rfl) ?_
    refine r_aldq (v := .ref x1) (t0 := 6) hF dX9_copyFrom_22 hP he3 rfl (vp_in_nI hi (by decide)) (by rw [nI_clamp (by omega), hfx1]; rfl) ?_
    refine r_cKV (As := [.ref x1]) (rest := []) hF mv_X9_130 ci_X4 (fun sz => c_X4_copyFrom l D t ws x x1 p0 p3 p1 p2 p4 p5 _ _ nm dt nm1 dt1 hp0 hp3 hp1 hp2 hp4 hp5 sz) dX9_copyFrom_23 rfl rfl (by decide) rfl hl.1 (Nat.le_of_ble_eq_true rfl) hP hD hS hA hp0 (by decide) rfl (fun H locs hP hS => ?_)
    refine lv_iinc (lv' := [(2, .int (nI (i + 1))), (1, .ref h1), (0, .ref h0)]) (k := 0) (v := (nI (i + 1))) hx hb dX9_copyFrom_26 hl rfl (nI_1 i) (by decide) rfl (fun ls hl => ?_)
    refine lv_goto (tgt := 2) hx hb dX9_copyFrom_29 rfl ?_
    exact ih ls H locs hl hP hS
  · have hl : lv_has ls 3 [(2, .int (nI 80)), (1, .ref h1), (0, .ref h0)] := hl
    refine lv_iload_n hx hb dX9_copyFrom_2 rfl (lv_at hl 0 rfl) ?_
    refine lv_aload_n hx hb dX9_copyFrom_3 rfl (lv_at hl 2 rfl) ?_
    refine r_get hF ci_X9 fl_X9_11 dX9_copyFrom_4 hP he0 rfl ?_
    refine r_alen (v := 80) hF dX9_copyFrom_7 hP he2 (t0 := 6) rfl rfl ?_
    refine lv_icmp_ge (tgt := 32) hx hb dX9_copyFrom_8 rfl (fun _ => ?_) (fun h => absurd (nI_le (Nat.le_refl 80) (by decide)) h)
    refine lv_aload_n hx hb dX9_copyFrom_32 rfl (lv_at hl 2 rfl) ?_
    refine lv_aload_n hx hb dX9_copyFrom_33 rfl (lv_at hl 1 rfl) ?_
    refine r_get hF ci_X9 fl_X9_52 dX9_copyFrom_34 hP he1 rfl ?_
    refine r_put0 hF ci_X9 fl_X9_52 dX9_copyFrom_37 hP hD hS he0 rfl rfl rfl rfl (fun H locs hP hS => ?_)
    exact r_retV hF hr hlk dX9_copyFrom_40 hP hS
def clI (ws : va_W) (q h0 d : Nat) (w1 : va_W) : Prop := ∃ v : Int32, w1 = ws.set q (h0, .inr (7, [.int v, .ref d, .int 0]))
set_option maxRecDepth 100000 in
set_option maxHeartbeats 4000000 in
theorem c_clear (l : Launch) (D : va_G) (t : Nat → ClassId) (ws : va_W) (h0 q d : Nat) (mc : Int32) (he : ws[q]? = some (h0, .inr (7, [.int mc, .ref d, .int 0]))) (sz : Nat) : WV l D t yJx4a65c_clear_da8c8 cJx4a65c_clear_da8c8 4 ({ frames := 0, cells := 0, slots := 0, locals := 0 }) ws sz [.ref h0] 0 0 (fun _ => True) (clI ws q h0 d) := by
  refine goE (by decide) (Nat.le_of_ble_eq_true rfl) ?_
  intro p e s m below meth c ls A hF hr hlk hin hsz hAe hP hD hS hA hl hE
  rw [hAe]
  have hF : FX p m c cJx4a65c_clear_da8c8 4 s _ RJx4a65c D t := hF
  have hx := hF.1.1
  have hb := hF.1.2.1
  have hl : lv_has ls 4 [(0, .ref h0)] := hl
  refine lv_aload_n hx hb dJx4a65c_clear_da8c8_0 rfl (lv_at hl 0 rfl) ?_
  refine lv_dup hx hb dJx4a65c_clear_da8c8_1 rfl ?_
  refine va_get (ref := "java/util/ArrayList") (v := .int mc) hx hb hF.1.2.2.2.2 ci_Jx4a65c.2.1 hF.1.2.2.2.1 hF.2 hP q he ci_Jx4a65c.1 0 (by decide) (hF.1.2.2.2.2 _ (wb 95 rfl)) (fun x h => u_same (hF.1.2.2.2.2 _ (wb 104 rfl)) x h) rfl dJx4a65c_clear_da8c8_2 ?_
  refine lv_iconst (v := 1) hx hb dJx4a65c_clear_da8c8_5 (by decide) ?_
  refine lv_iadd hx hb dJx4a65c_clear_da8c8_6 ?_
  refine va_put (ref := "java/util/ArrayList") (v := .int (mc + 1)) (ty := .int) hx hb hF.1.2.2.2.2 ci_Jx4a65c.2.1 tyJx4a65c ci_Jx4a65c.2.2.1 ci_Jx4a65c.2.2.2 hF.1.2.2.2.1 hF.2 hP hD hS q he ci_Jx4a65c.1 0 (by decide) (hF.1.2.2.2.2 _ (wb 95 rfl)) (fun x h => u_same (hF.1.2.2.2.2 _ (wb 104 rfl)) x h) rfl (by decide +kernel) rfl rfl (Nat.le_of_ble_eq_true rfl) dJx4a65c_clear_da8c8_7 (fun H locs hP hD hS => ?_)
  have he := List.getElem?_set_self (a := (h0, (.inr (7, [.int (mc + 1), .ref d, .int 0]) : va_E))) (List.getElem?_eq_some_iff.mp he).1
  refine lv_aload_n hx hb dJx4a65c_clear_da8c8_10 rfl (lv_at hl 0 rfl) ?_
  refine r_get hF ci_Jx4a65c fl_Jx4a65c_9 dJx4a65c_clear_da8c8_11 hP he rfl ?_
  refine lv_astore_n (lv' := [(1, .ref d), (0, .ref h0)]) hx hb dJx4a65c_clear_da8c8_14 rfl hl (by decide) rfl (fun ls hl => ?_)
  refine lv_aload_n hx hb dJx4a65c_clear_da8c8_15 rfl (lv_at hl 1 rfl) ?_
  refine r_get hF ci_Jx4a65c fl_Jx4a65c_48 dJx4a65c_clear_da8c8_16 hP he rfl ?_
  refine lv_istore_n (lv' := [(2, .int 0), (1, .ref d), (0, .ref h0)]) hx hb dJx4a65c_clear_da8c8_19 rfl hl (by decide) rfl (fun ls hl => ?_)
  refine lv_aload_n hx hb dJx4a65c_clear_da8c8_20 rfl (lv_at hl 2 rfl) ?_
  refine lv_iconst (v := 0) hx hb dJx4a65c_clear_da8c8_21 (by decide) ?_
  refine lv_dup_x1 hx hb dJx4a65c_clear_da8c8_22 rfl rfl ?_
  refine r_put0 hF ci_Jx4a65c fl_Jx4a65c_48 dJx4a65c_clear_da8c8_23 hP hD hS he rfl rfl rfl rfl (fun H locs hP hS => ?_)
  refine lv_istore_n (lv' := [(3, .int 0), (2, .int 0), (1, .ref d), (0, .ref h0)]) hx hb dJx4a65c_clear_da8c8_26 rfl hl (by decide) rfl (fun ls hl => ?_)
  refine lv_iload_n hx hb dJx4a65c_clear_da8c8_27 rfl (lv_at hl 0 rfl) ?_
  refine lv_iload_n hx hb dJx4a65c_clear_da8c8_28 rfl (lv_at hl 1 rfl) ?_
  refine lv_icmp_ge (tgt := 42) hx hb dJx4a65c_clear_da8c8_29 rfl (fun _ => ?_) (fun h => absurd (by decide) h)
  exact r_retW hF hr hlk dJx4a65c_clear_da8c8_42 hP hD hS ⟨_, rfl⟩
set_option maxRecDepth 100000 in
set_option maxHeartbeats 4000000 in
theorem c_J7_fill_d0a16 (l : Launch) (D : va_G) (t : Nat → ClassId) (ws : va_W) (a n q : Nat) (he : ws[q]? = some (a, .inl (t 2, n, .inr (.inl (fun _ => 0))))) (hn : n < 1000) (sz : Nat) : KV l D t yJ7_fill_d0a16 cJ7_fill_d0a16 5 ({ frames := 0, cells := 0, slots := 0, locals := 0 }) ws sz [.ref a, .long 0] := by
  refine go (by decide) (Nat.le_of_ble_eq_true rfl) ?_
  intro p e s m below meth c ls A hF hr hlk hin hsz hAe hP hD hS hA hl
  rw [hAe]
  clear hAe hsz
  have hF : FX p m c cJ7_fill_d0a16 5 s _ RJ7 D t := hF
  have hx := hF.1.1
  have hb := hF.1.2.1
  have hls := hl.1
  have hl : lv_has ls 5 [(0, .ref a), (1, .long 0)] := hl
  refine lv_iconst (v := 0) hx hb dJ7_fill_d0a16_0 (by decide) ?_
  refine lv_istore_n (lv' := [(3, .int 0), (0, .ref a), (1, .long 0)]) hx hb dJ7_fill_d0a16_1 rfl hl (by decide) rfl (fun ls hl => ?_)
  refine lv_aload_n hx hb dJ7_fill_d0a16_2 rfl (lv_at hl 1 rfl) ?_
  refine r_alen (v := nI n) hF dJ7_fill_d0a16_3 hP he (t0 := 2) rfl rfl ?_
  refine lv_istore (lv' := [(4, .int (nI n)), (3, .int 0), (0, .ref a), (1, .long 0)]) hx hb dJ7_fill_d0a16_4 hl (by decide) rfl (fun ls hl => ?_)
  have hl : lv_has ls 5 [(3, .int 0), (4, .int (nI n)), (1, .long 0), (0, .ref a)] := lv_sub hl [1, 0, 3, 2] rfl
  refine r_loop (L0 := fun i => [(3, .int (nI i)), (4, .int (nI n)), (1, .long 0), (0, .ref a)]) n hl hP hS (fun i hi ls H locs hl hP hS ih => ?_) (fun ls H locs hl hP hS => ?_)
  · have hl : lv_has ls 5 [(3, .int (nI i)), (4, .int (nI n)), (1, .long 0), (0, .ref a)] := hl
    refine lv_iload_n hx hb dJ7_fill_d0a16_6 rfl (lv_at hl 0 rfl) ?_
    refine lv_iload hx hb dJ7_fill_d0a16_7 (lv_at hl 1 rfl) ?_
    refine lv_icmp_ge (tgt := 22) hx hb dJ7_fill_d0a16_9 rfl (fun h => absurd h (nI_ge hi (by omega))) (fun _ => ?_)
    refine lv_aload_n hx hb dJ7_fill_d0a16_12 rfl (lv_at hl 3 rfl) ?_
    refine lv_iload_n hx hb dJ7_fill_d0a16_13 rfl (lv_at hl 0 rfl) ?_
    refine lv_lload_n hx hb dJ7_fill_d0a16_14 rfl (lv_at hl 2 rfl) ?_
    refine r_last0 hF dJ7_fill_d0a16_15 hP hD hS he (vp_in_nI hi (by omega)) rfl (fun H locs hP hS => ?_)
    refine lv_iinc (lv' := [(3, .int (nI (i + 1))), (4, .int (nI n)), (1, .long 0), (0, .ref a)]) (k := 0) (v := (nI (i + 1))) hx hb dJ7_fill_d0a16_16 hl rfl (nI_1 i) (by decide) rfl (fun ls hl => ?_)
    refine lv_goto (tgt := 6) hx hb dJ7_fill_d0a16_19 rfl ?_
    exact ih ls H locs hl hP hS
  · have hl : lv_has ls 5 [(3, .int (nI n)), (4, .int (nI n)), (1, .long 0), (0, .ref a)] := hl
    refine lv_iload_n hx hb dJ7_fill_d0a16_6 rfl (lv_at hl 0 rfl) ?_
    refine lv_iload hx hb dJ7_fill_d0a16_7 (lv_at hl 1 rfl) ?_
    refine lv_icmp_ge (tgt := 22) hx hb dJ7_fill_d0a16_9 rfl (fun _ => ?_) (fun h => absurd (nI_le (Nat.le_refl _) (by omega)) h)
    exact r_retV hF hr hlk dJ7_fill_d0a16_22 hP hS
set_option maxRecDepth 100000 in
set_option maxHeartbeats 4000000 in
theorem c_X11_crash (l : Launch) (D : va_G) (t : Nat → ClassId) (d : Nat) (h0 : Nat) (a : Nat → Nat) (fc fl fd fw : Nat → Option Nat) (fr : Nat → Int32) (T : va_W) (hcn : connsIn t T fc 6) (hnl : nodesIn t T fl 80) (hnd : nodesIn t T fd 80) (k : Int32) (sz : Nat) : AI l D t yX11_crash cX11_crash 4 (some .int) ({ frames := 3, cells := 0, slots := 0, locals := 103 }) (hW t d h0 a fc fl fd fw fr T) sz [.ref h0, .int k] (tapeA k) := by
  refine go (by decide) (Nat.le_of_ble_eq_true rfl) ?_
  intro p e s m below meth c ls A hF hr hlk hin hsz hAe hP hD hS hA hl
  rw [hAe]
  clear hAe hsz
  have hF : FX p m c cX11_crash 4 s _ RX11 D t := hF
  have hx := hF.1.1
  have hb := hF.1.2.1
  have hls := hl.1
  have hl : lv_has ls 4 [(0, .ref h0), (1, .int k)] := hl
  refine lv_iload_n hx hb dX11_crash_0 rfl (lv_at hl 1 rfl) ?_
  refine lv_if_lt (tgt := 12) hx hb dX11_crash_1 rfl (fun h1 => ?_) (fun h1 => ?_)
  · refine lv_iconst (v := (-1)) hx hb dX11_crash_12 (by decide) ?_
    exact r_retA hF hr hlk rfl dX11_crash_13 hS (by unfold tapeA; rw [if_neg (fun z => by subst z; exact absurd h1 (by decide))])
  · refine lv_iload_n hx hb dX11_crash_4 rfl (lv_at hl 1 rfl) ?_
    refine lv_aload_n hx hb dX11_crash_5 rfl (lv_at hl 0 rfl) ?_
    refine r_get hF ci_X11 fl_X11_182 dX11_crash_6 hP (q0 := 23) rfl rfl ?_
    refine lv_icmp_le (tgt := 14) hx hb dX11_crash_9 rfl (fun h2 => ?_) (fun h2 => ?_)
    · have hk0 : k = 0 := by rcases pk_ix k (n := 1) (by decide) with h3 | h3 | ⟨j3, hj3, e3⟩; exact absurd h3 h1; exact absurd (Int32.le_trans h3 h2) (by decide); exact (by have z3 : j3 = 0 := (by omega); subst z3; exact e3)
      subst hk0
      refine lv_aload_n hx hb dX11_crash_14 rfl (lv_at hl 0 rfl) ?_
      refine r_get hF ci_X11 fl_X11_182 dX11_crash_15 hP (q0 := 23) rfl rfl ?_
      refine lv_istore_n (lv' := [(2, .int 0), (0, .ref h0), (1, .int 0)]) hx hb dX11_crash_18 rfl hl (by decide) rfl (fun ls hl => ?_)
      refine lv_aload_n hx hb dX11_crash_19 rfl (lv_at hl 1 rfl) ?_
      refine lv_iload_n hx hb dX11_crash_20 rfl (lv_at hl 2 rfl) ?_
      refine r_put0 hF ci_X11 fl_X11_182 dX11_crash_21 hP hD hS (q0 := 23) rfl rfl rfl rfl rfl (fun H locs hP hS => ?_)
      refine lv_aload_n hx hb dX11_crash_24 rfl (lv_at hl 1 rfl) ?_
      refine r_cKV (As := []) (rest := []) hF mv_X11_185 ci_X11 (fun sz => c_X11_comeToDisk l D t (hW t d h0 a fc fl fd fw fr T) h0 23 _ rfl rfl sz) dX11_crash_25 rfl rfl (by decide) rfl hl.1 (Nat.le_of_ble_eq_true rfl) hP hD hS hA (q0 := 23) rfl (by decide) rfl (fun H locs hP hS => ?_)
      refine lv_aload_n hx hb dX11_crash_28 rfl (lv_at hl 1 rfl) ?_
      refine r_get hF ci_X11 fl_X11_29 dX11_crash_29 hP (q0 := 23) rfl rfl ?_
      refine lv_aload_n hx hb dX11_crash_32 rfl (lv_at hl 1 rfl) ?_
      refine r_get hF ci_X11 fl_X11_33 dX11_crash_33 hP (q0 := 23) rfl rfl ?_
      refine r_cKV (As := [.ref (a 6)]) (rest := []) hF mv_X11_188 ci_X9 (fun sz => c_X9_copyFrom l D t (hW t d h0 a fc fl fd fw fr T) T (fun q h => List.mem_append_right _ h) _ _ _ _ 18 16 17 15 fl fd rfl rfl rfl rfl hnl hnd sz) dX11_crash_36 rfl rfl (by decide) rfl hl.1 (Nat.le_of_ble_eq_true rfl) hP hD hS hA (q0 := 18) rfl (by decide) rfl (fun H locs hP hS => ?_)
      refine lv_iconst (v := 0) hx hb dX11_crash_39 (by decide) ?_
      refine lv_istore_n (lv' := [(3, .int 0), (2, .int 0), (0, .ref h0), (1, .int 0)]) hx hb dX11_crash_40 rfl hl (by decide) rfl (fun ls hl => ?_)
      have hl : lv_has ls 4 [(3, .int 0), (2, .int 0), (1, .int 0), (0, .ref h0)] := lv_sub hl [0, 1, 3, 2] rfl
      refine r_loop (L0 := fun i => [(3, .int (nI i)), (2, .int 0), (1, .int 0), (0, .ref h0)]) 6 hl hP hS (fun i hi ls H locs hl hP hS ih => ?_) (fun ls H locs hl hP hS => ?_)
      · have hl : lv_has ls 4 [(3, .int (nI i)), (2, .int 0), (1, .int 0), (0, .ref h0)] := hl
        refine lv_iload_n hx hb dX11_crash_41 rfl (lv_at hl 0 rfl) ?_
        refine lv_aload_n hx hb dX11_crash_42 rfl (lv_at hl 3 rfl) ?_
        refine r_get hF ci_X11 fl_X11_18 dX11_crash_43 hP (q0 := 23) rfl rfl ?_
        refine r_alen (v := 6) hF dX11_crash_46 hP (q0 := 20) rfl (t0 := 5) rfl rfl ?_
        refine lv_icmp_ge (tgt := 65) hx hb dX11_crash_47 rfl (fun h => absurd h (nI_ge hi (by decide))) (fun _ => ?_)
        have hj := hi
        obtain ⟨kk, kc, kcb, ks, ksb, kf, hfk, m0, m1, m2, m3⟩ := hcn i hi
        obtain ⟨q0, he0⟩ := List.getElem?_of_mem (l := (hW t d h0 a fc fl fd fw fr T)) (List.mem_append_right _ m0)
        obtain ⟨q1, he1⟩ := List.getElem?_of_mem (l := (hW t d h0 a fc fl fd fw fr T)) (List.mem_append_right _ m1)
        obtain ⟨q2, he2⟩ := List.getElem?_of_mem (l := (hW t d h0 a fc fl fd fw fr T)) (List.mem_append_right _ m2)
        obtain ⟨q3, he3⟩ := List.getElem?_of_mem (l := (hW t d h0 a fc fl fd fw fr T)) (List.mem_append_right _ m3)
        refine lv_aload_n hx hb dX11_crash_50 rfl (lv_at hl 3 rfl) ?_
        refine r_get hF ci_X11 fl_X11_18 dX11_crash_51 hP (q0 := 23) rfl rfl ?_
        refine lv_iload_n hx hb dX11_crash_54 rfl (lv_at hl 0 rfl) ?_
        refine r_aldq (v := .ref kk) (t0 := 5) hF dX11_crash_55 hP (q0 := 20) rfl rfl (vp_in_nI hi (by decide)) (by rw [nI_clamp (by omega), hfk]; rfl) ?_
        refine r_cKV (As := []) (rest := []) hF mv_X11_192 ci_X2 (fun sz => c_X2_vanish l D t (hW t d h0 a fc fl fd fw fr T) kk kc kcb ks ksb kf q0 q1 q2 he0 he1 he2 sz) dX11_crash_56 rfl rfl (by decide) rfl hl.1 (Nat.le_of_ble_eq_true rfl) hP hD hS hA he0 (by decide) rfl (fun H locs hP hS => ?_)
        refine lv_iinc (lv' := [(3, .int (nI (i + 1))), (2, .int 0), (1, .int 0), (0, .ref h0)]) (k := 0) (v := (nI (i + 1))) hx hb dX11_crash_59 hl rfl (nI_1 i) (by decide) rfl (fun ls hl => ?_)
        refine lv_goto (tgt := 41) hx hb dX11_crash_62 rfl ?_
        exact ih ls H locs hl hP hS
      · have hl : lv_has ls 4 [(3, .int (nI 6)), (2, .int 0), (1, .int 0), (0, .ref h0)] := hl
        refine lv_iload_n hx hb dX11_crash_41 rfl (lv_at hl 0 rfl) ?_
        refine lv_aload_n hx hb dX11_crash_42 rfl (lv_at hl 3 rfl) ?_
        refine r_get hF ci_X11 fl_X11_18 dX11_crash_43 hP (q0 := 23) rfl rfl ?_
        refine r_alen (v := 6) hF dX11_crash_46 hP (q0 := 20) rfl (t0 := 5) rfl rfl ?_
        refine lv_icmp_ge (tgt := 65) hx hb dX11_crash_47 rfl (fun _ => ?_) (fun h => absurd (nI_le (Nat.le_refl 6) (by decide)) h)
        have hP : va_P D cl1 [(h0, .inr (1, [.ref (a 0), .ref (a 2), .ref (a 3), .ref (a 4), .ref (a 6), .ref (a 8), .int 0, .long 0, .ref (a 9), .ref (a 10), .ref (a 11), .ref (a 12), .ref (a 13), .ref (a 14), .ref (a 15), .ref (a 17), .ref (a 19), .ref (a 21)])), ((a 9), .inr (7, [.int 0, .ref d, .int 0])), ((a 10), .inr (7, [.int 0, .ref d, .int 0])), ((a 11), .inr (7, [.int 0, .ref d, .int 0])), ((a 12), .inr (7, [.int 0, .ref d, .int 0])), ((a 13), .inr (7, [.int 0, .ref d, .int 0])), ((a 14), .inl (t 2, 4, .inr (.inl (fun _ => 0))))] H := hP.sub [23, 13, 12, 11, 10, 9, 8] rfl
        have hD : va_D A [(h0, .inr (1, [.ref (a 0), .ref (a 2), .ref (a 3), .ref (a 4), .ref (a 6), .ref (a 8), .int 0, .long 0, .ref (a 9), .ref (a 10), .ref (a 11), .ref (a 12), .ref (a 13), .ref (a 14), .ref (a 15), .ref (a 17), .ref (a 19), .ref (a 21)])), ((a 9), .inr (7, [.int 0, .ref d, .int 0])), ((a 10), .inr (7, [.int 0, .ref d, .int 0])), ((a 11), .inr (7, [.int 0, .ref d, .int 0])), ((a 12), .inr (7, [.int 0, .ref d, .int 0])), ((a 13), .inr (7, [.int 0, .ref d, .int 0])), ((a 14), .inl (t 2, 4, .inr (.inl (fun _ => 0))))] := hD.sub [23, 13, 12, 11, 10, 9, 8] (by decide) rfl
        refine lv_aload_n hx hb dX11_crash_65 rfl (lv_at hl 3 rfl) ?_
        refine r_get hF ci_X11 fl_X11_45 dX11_crash_66 hP (q0 := 0) rfl rfl ?_
        refine r_cWV (As := []) (rest := []) hF mv_X11_195 ci_Jx4a65c (c_clear l D t _ (a 9) 1 d _ rfl _) dX11_crash_69 rfl rfl (by decide) rfl hl.1 (Nat.le_of_ble_eq_true rfl) hP hD hS hA (q0 := 1) rfl (by decide) rfl (fun w1 H locs hI hP hD hS => ?_)
        obtain ⟨v0, rfl⟩ := hI
        replace hP : va_P D cl1 ([(h0, .inr (1, [.ref (a 0), .ref (a 2), .ref (a 3), .ref (a 4), .ref (a 6), .ref (a 8), .int 0, .long 0, .ref (a 9), .ref (a 10), .ref (a 11), .ref (a 12), .ref (a 13), .ref (a 14), .ref (a 15), .ref (a 17), .ref (a 19), .ref (a 21)])), ((a 9), .inr (7, [.int v0, .ref d, .int 0])), ((a 10), .inr (7, [.int 0, .ref d, .int 0])), ((a 11), .inr (7, [.int 0, .ref d, .int 0])), ((a 12), .inr (7, [.int 0, .ref d, .int 0])), ((a 13), .inr (7, [.int 0, .ref d, .int 0])), ((a 14), .inl (t 2, 4, .inr (.inl (fun _ => 0))))]) H := hP
        replace hD : va_D A ([(h0, .inr (1, [.ref (a 0), .ref (a 2), .ref (a 3), .ref (a 4), .ref (a 6), .ref (a 8), .int 0, .long 0, .ref (a 9), .ref (a 10), .ref (a 11), .ref (a 12), .ref (a 13), .ref (a 14), .ref (a 15), .ref (a 17), .ref (a 19), .ref (a 21)])), ((a 9), .inr (7, [.int v0, .ref d, .int 0])), ((a 10), .inr (7, [.int 0, .ref d, .int 0])), ((a 11), .inr (7, [.int 0, .ref d, .int 0])), ((a 12), .inr (7, [.int 0, .ref d, .int 0])), ((a 13), .inr (7, [.int 0, .ref d, .int 0])), ((a 14), .inl (t 2, 4, .inr (.inl (fun _ => 0))))]) := hD
        refine lv_aload_n hx hb dX11_crash_72 rfl (lv_at hl 3 rfl) ?_
        refine r_get hF ci_X11 fl_X11_49 dX11_crash_73 hP (q0 := 0) rfl rfl ?_
        refine r_cWV (As := []) (rest := []) hF mv_X11_195 ci_Jx4a65c (c_clear l D t _ (a 10) 2 d _ rfl _) dX11_crash_76 rfl rfl (by decide) rfl hl.1 (Nat.le_of_ble_eq_true rfl) hP hD hS hA (q0 := 2) rfl (by decide) rfl (fun w1 H locs hI hP hD hS => ?_)
        obtain ⟨v1, rfl⟩ := hI
        replace hP : va_P D cl1 ([(h0, .inr (1, [.ref (a 0), .ref (a 2), .ref (a 3), .ref (a 4), .ref (a 6), .ref (a 8), .int 0, .long 0, .ref (a 9), .ref (a 10), .ref (a 11), .ref (a 12), .ref (a 13), .ref (a 14), .ref (a 15), .ref (a 17), .ref (a 19), .ref (a 21)])), ((a 9), .inr (7, [.int v0, .ref d, .int 0])), ((a 10), .inr (7, [.int v1, .ref d, .int 0])), ((a 11), .inr (7, [.int 0, .ref d, .int 0])), ((a 12), .inr (7, [.int 0, .ref d, .int 0])), ((a 13), .inr (7, [.int 0, .ref d, .int 0])), ((a 14), .inl (t 2, 4, .inr (.inl (fun _ => 0))))]) H := hP
        replace hD : va_D A ([(h0, .inr (1, [.ref (a 0), .ref (a 2), .ref (a 3), .ref (a 4), .ref (a 6), .ref (a 8), .int 0, .long 0, .ref (a 9), .ref (a 10), .ref (a 11), .ref (a 12), .ref (a 13), .ref (a 14), .ref (a 15), .ref (a 17), .ref (a 19), .ref (a 21)])), ((a 9), .inr (7, [.int v0, .ref d, .int 0])), ((a 10), .inr (7, [.int v1, .ref d, .int 0])), ((a 11), .inr (7, [.int 0, .ref d, .int 0])), ((a 12), .inr (7, [.int 0, .ref d, .int 0])), ((a 13), .inr (7, [.int 0, .ref d, .int 0])), ((a 14), .inl (t 2, 4, .inr (.inl (fun _ => 0))))]) := hD
        refine lv_aload_n hx hb dX11_crash_79 rfl (lv_at hl 3 rfl) ?_
        refine r_get hF ci_X11 fl_X11_52 dX11_crash_80 hP (q0 := 0) rfl rfl ?_
        refine r_cWV (As := []) (rest := []) hF mv_X11_195 ci_Jx4a65c (c_clear l D t _ (a 11) 3 d _ rfl _) dX11_crash_83 rfl rfl (by decide) rfl hl.1 (Nat.le_of_ble_eq_true rfl) hP hD hS hA (q0 := 3) rfl (by decide) rfl (fun w1 H locs hI hP hD hS => ?_)
        obtain ⟨v2, rfl⟩ := hI
        replace hP : va_P D cl1 ([(h0, .inr (1, [.ref (a 0), .ref (a 2), .ref (a 3), .ref (a 4), .ref (a 6), .ref (a 8), .int 0, .long 0, .ref (a 9), .ref (a 10), .ref (a 11), .ref (a 12), .ref (a 13), .ref (a 14), .ref (a 15), .ref (a 17), .ref (a 19), .ref (a 21)])), ((a 9), .inr (7, [.int v0, .ref d, .int 0])), ((a 10), .inr (7, [.int v1, .ref d, .int 0])), ((a 11), .inr (7, [.int v2, .ref d, .int 0])), ((a 12), .inr (7, [.int 0, .ref d, .int 0])), ((a 13), .inr (7, [.int 0, .ref d, .int 0])), ((a 14), .inl (t 2, 4, .inr (.inl (fun _ => 0))))]) H := hP
        replace hD : va_D A ([(h0, .inr (1, [.ref (a 0), .ref (a 2), .ref (a 3), .ref (a 4), .ref (a 6), .ref (a 8), .int 0, .long 0, .ref (a 9), .ref (a 10), .ref (a 11), .ref (a 12), .ref (a 13), .ref (a 14), .ref (a 15), .ref (a 17), .ref (a 19), .ref (a 21)])), ((a 9), .inr (7, [.int v0, .ref d, .int 0])), ((a 10), .inr (7, [.int v1, .ref d, .int 0])), ((a 11), .inr (7, [.int v2, .ref d, .int 0])), ((a 12), .inr (7, [.int 0, .ref d, .int 0])), ((a 13), .inr (7, [.int 0, .ref d, .int 0])), ((a 14), .inl (t 2, 4, .inr (.inl (fun _ => 0))))]) := hD
        refine lv_aload_n hx hb dX11_crash_86 rfl (lv_at hl 3 rfl) ?_
        refine r_get hF ci_X11 fl_X11_55 dX11_crash_87 hP (q0 := 0) rfl rfl ?_
        refine r_cWV (As := []) (rest := []) hF mv_X11_195 ci_Jx4a65c (c_clear l D t _ (a 12) 4 d _ rfl _) dX11_crash_90 rfl rfl (by decide) rfl hl.1 (Nat.le_of_ble_eq_true rfl) hP hD hS hA (q0 := 4) rfl (by decide) rfl (fun w1 H locs hI hP hD hS => ?_)
        obtain ⟨v3, rfl⟩ := hI
        replace hP : va_P D cl1 ([(h0, .inr (1, [.ref (a 0), .ref (a 2), .ref (a 3), .ref (a 4), .ref (a 6), .ref (a 8), .int 0, .long 0, .ref (a 9), .ref (a 10), .ref (a 11), .ref (a 12), .ref (a 13), .ref (a 14), .ref (a 15), .ref (a 17), .ref (a 19), .ref (a 21)])), ((a 9), .inr (7, [.int v0, .ref d, .int 0])), ((a 10), .inr (7, [.int v1, .ref d, .int 0])), ((a 11), .inr (7, [.int v2, .ref d, .int 0])), ((a 12), .inr (7, [.int v3, .ref d, .int 0])), ((a 13), .inr (7, [.int 0, .ref d, .int 0])), ((a 14), .inl (t 2, 4, .inr (.inl (fun _ => 0))))]) H := hP
        replace hD : va_D A ([(h0, .inr (1, [.ref (a 0), .ref (a 2), .ref (a 3), .ref (a 4), .ref (a 6), .ref (a 8), .int 0, .long 0, .ref (a 9), .ref (a 10), .ref (a 11), .ref (a 12), .ref (a 13), .ref (a 14), .ref (a 15), .ref (a 17), .ref (a 19), .ref (a 21)])), ((a 9), .inr (7, [.int v0, .ref d, .int 0])), ((a 10), .inr (7, [.int v1, .ref d, .int 0])), ((a 11), .inr (7, [.int v2, .ref d, .int 0])), ((a 12), .inr (7, [.int v3, .ref d, .int 0])), ((a 13), .inr (7, [.int 0, .ref d, .int 0])), ((a 14), .inl (t 2, 4, .inr (.inl (fun _ => 0))))]) := hD
        refine lv_aload_n hx hb dX11_crash_93 rfl (lv_at hl 3 rfl) ?_
        refine r_get hF ci_X11 fl_X11_58 dX11_crash_94 hP (q0 := 0) rfl rfl ?_
        refine r_cWV (As := []) (rest := []) hF mv_X11_195 ci_Jx4a65c (c_clear l D t _ (a 13) 5 d _ rfl _) dX11_crash_97 rfl rfl (by decide) rfl hl.1 (Nat.le_of_ble_eq_true rfl) hP hD hS hA (q0 := 5) rfl (by decide) rfl (fun w1 H locs hI hP hD hS => ?_)
        obtain ⟨v4, rfl⟩ := hI
        replace hP : va_P D cl1 ([(h0, .inr (1, [.ref (a 0), .ref (a 2), .ref (a 3), .ref (a 4), .ref (a 6), .ref (a 8), .int 0, .long 0, .ref (a 9), .ref (a 10), .ref (a 11), .ref (a 12), .ref (a 13), .ref (a 14), .ref (a 15), .ref (a 17), .ref (a 19), .ref (a 21)])), ((a 9), .inr (7, [.int v0, .ref d, .int 0])), ((a 10), .inr (7, [.int v1, .ref d, .int 0])), ((a 11), .inr (7, [.int v2, .ref d, .int 0])), ((a 12), .inr (7, [.int v3, .ref d, .int 0])), ((a 13), .inr (7, [.int v4, .ref d, .int 0])), ((a 14), .inl (t 2, 4, .inr (.inl (fun _ => 0))))]) H := hP
        replace hD : va_D A ([(h0, .inr (1, [.ref (a 0), .ref (a 2), .ref (a 3), .ref (a 4), .ref (a 6), .ref (a 8), .int 0, .long 0, .ref (a 9), .ref (a 10), .ref (a 11), .ref (a 12), .ref (a 13), .ref (a 14), .ref (a 15), .ref (a 17), .ref (a 19), .ref (a 21)])), ((a 9), .inr (7, [.int v0, .ref d, .int 0])), ((a 10), .inr (7, [.int v1, .ref d, .int 0])), ((a 11), .inr (7, [.int v2, .ref d, .int 0])), ((a 12), .inr (7, [.int v3, .ref d, .int 0])), ((a 13), .inr (7, [.int v4, .ref d, .int 0])), ((a 14), .inl (t 2, 4, .inr (.inl (fun _ => 0))))]) := hD
        refine lv_aload_n hx hb dX11_crash_100 rfl (lv_at hl 3 rfl) ?_
        refine r_get hF ci_X11 fl_X11_61 dX11_crash_101 hP (q0 := 0) rfl rfl ?_
        refine lv_lconst (v := 0) hx hb dX11_crash_104 (by decide) ?_
        refine va_callv (r_runS (As := [.ref (a 14), .long 0]) (rest := []) hF ms_X11_198 (c_J7_fill_d0a16 l D t _ (a 14) 4 6 rfl (by decide) _) dX11_crash_105 rfl rfl (by decide) rfl hl.1 (Nat.le_of_ble_eq_true rfl) hP hD (by decide) rfl) hS (fun q _ h => a_in hD hS hA q h) (a_in hD hS hA) (fun _ _ H locs _ _ _ _ _ _ hS => ?_)
        refine lv_iload_n hx hb dX11_crash_108 rfl (lv_at hl 1 rfl) ?_
        exact r_retA hF hr hlk rfl dX11_crash_109 hS (by decide)
    · refine lv_iconst (v := (-1)) hx hb dX11_crash_12 (by decide) ?_
      exact r_retA hF hr hlk rfl dX11_crash_13 hS (by unfold tapeA; rw [if_neg (fun z => h2 (by rw [z]; exact Int32.le_refl 0))])

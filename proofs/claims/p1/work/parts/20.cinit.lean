theorem def_X6 : ∀ j, j < 2 → defaultValue (tyX6 j) = vp_V [.null, .int 0] j := by
  intro j hj
  have h : ∀ j : Fin 2, defaultValue (tyX6 j.val) = vp_V [.null, .int 0] j.val := by decide +kernel
  exact h ⟨j, hj⟩
theorem def_X2 : ∀ j, j < 15 → defaultValue (tyX2 j) = vp_V [.int 0, .int 0, .null, .long 0, .null, .null, .int 0, .long 0, .int 0, .int 0, .long 0, .long 0, .int 0, .long 0, .long 0] j := by
  intro j hj
  have h : ∀ j : Fin 15, defaultValue (tyX2 j.val) = vp_V [.int 0, .int 0, .null, .long 0, .null, .null, .int 0, .long 0, .int 0, .int 0, .long 0, .long 0, .int 0, .long 0, .long 0] j.val := by decide +kernel
  exact h ⟨j, hj⟩
theorem def_X1 : ∀ j, j < 15 → defaultValue (tyX1 j) = vp_V [.int 0, .int 0, .int 0, .int 0, .null, .int 0, .int 0, .long 0, .long 0, .long 0, .long 0, .int 0, .int 0, .int 0, .null] j := by
  intro j hj
  have h : ∀ j : Fin 15, defaultValue (tyX1 j.val) = vp_V [.int 0, .int 0, .int 0, .int 0, .null, .int 0, .int 0, .long 0, .long 0, .long 0, .long 0, .int 0, .int 0, .int 0, .null] j.val := by decide +kernel
  exact h ⟨j, hj⟩
theorem def_X4 : ∀ j, j < 14 → defaultValue (tyX4 j) = vp_V [.int 0, .int 0, .int 0, .int 0, .int 0, .null, .int 0, .int 0, .long 0, .long 0, .long 0, .long 0, .int 0, .null] j := by
  intro j hj
  have h : ∀ j : Fin 14, defaultValue (tyX4 j.val) = vp_V [.int 0, .int 0, .int 0, .int 0, .int 0, .null, .int 0, .int 0, .long 0, .long 0, .long 0, .long 0, .int 0, .null] j.val := by decide +kernel
  exact h ⟨j, hj⟩
theorem def_X9 : ∀ j, j < 2 → defaultValue (tyX9 j) = vp_V [.null, .int 0] j := by
  intro j hj
  have h : ∀ j : Fin 2, defaultValue (tyX9 j.val) = vp_V [.null, .int 0] j.val := by decide +kernel
  exact h ⟨j, hj⟩
theorem def_X11 : ∀ j, j < 18 → defaultValue (tyX11 j) = vp_V [.null, .null, .null, .null, .null, .null, .int 0, .long 0, .null, .null, .null, .null, .null, .null, .null, .null, .null, .null] j := by
  intro j hj
  have h : ∀ j : Fin 18, defaultValue (tyX11 j.val) = vp_V [.null, .null, .null, .null, .null, .null, .int 0, .long 0, .null, .null, .null, .null, .null, .null, .null, .null, .null, .null] j.val := by decide +kernel
  exact h ⟨j, hj⟩
theorem def_Jx4a65c : ∀ j, j < 3 → defaultValue (tyJx4a65c j) = vp_V [.int 0, .null, .int 0] j := by
  intro j hj
  have h : ∀ j : Fin 3, defaultValue (tyJx4a65c j.val) = vp_V [.int 0, .null, .int 0] j.val := by decide +kernel
  exact h ⟨j, hj⟩
theorem nw_call {w : Cond} (hw : w.onTables = true) {U : State} {g : JFrame} {mk : MethodId} {a : Array Value} (h : va_Nw w U) : va_Nw w (U.calling g mk a) := va_tabs (A := #[]) (A' := #[]) (u := U) (U := U.calling g mk a) hw rfl h
def rowI (t : Nat → ClassId) (h0 : Nat) (w1 : va_W) : Prop := ∃ b : Nat, w1 = [(b, .inl (t 0, 64, .inl (fun _ => 0))), (h0, .inr (2, [.ref b, .int 0]))]
set_option maxRecDepth 100000 in
set_option maxHeartbeats 4000000 in
theorem c_X6_init (l : Launch) (D : va_G) (t : Nat → ClassId) (h0 : Nat) (sz : Nat) : WV l D t yX6_init cX6_init 1 ({ frames := 1, cells := 1, slots := 64, locals := 12 }) [(h0, .inr (2, [.null, .int 0]))] sz [.ref h0] 1 64 (fun _ => True) (rowI t h0) := by
  refine goE (by decide) (Nat.le_of_ble_eq_true rfl) ?_
  intro p e s m below meth c ls A hF hr hlk hin hsz hAe hP hD hS hA hl hE
  rw [hAe]
  have hF : FX p m c cX6_init 1 s _ RX6 D t := hF
  have hx := hF.1.1
  have hb := hF.1.2.1
  have hl : lv_has ls 1 [(0, .ref h0)] := hl
  refine lv_aload_n hx hb dX6_init_0 rfl (lv_at hl 0 rfl) ?_
  refine W.objInit hx hb hF.1.2.2.2.1 (hF.1.2.2.2.2 _ (wb 9 rfl)) (hF.1.2.2.2.2 _ (wb 10 rfl)) (hF.1.2.2.2.2 _ (wb 11 rfl)) rfl (hl.1.trans hF.1.2.2.1.symm) rfl dX6_init_1 (Nat.le_of_ble_eq_true rfl) (Nat.le_of_ble_eq_true rfl) ?_
  refine W.eq (g2 := F0 m 4 ls []) rfl ?_
  refine lv_aload_n hx hb dX6_init_4 rfl (lv_at hl 0 rfl) ?_
  refine lv_bipush (v := 64) hx hb dX6_init_5 (by decide) ?_
  refine r_newF (t0 := 0) (N' := 64) (a0 := (64, .inl (fun _ => 0))) hF dX6_init_7 (wb 12 rfl) rfl rfl id hP hD hS hA (fun _ => rfl) (by decide) (by decide) (by decide) (by decide) (by decide) (fun q1 H hP hD hS => ?_)
  refine r_put hF ci_X6 fl_X6_7 dX6_init_9 hP hD hS (q0 := 1) rfl rfl rfl rfl (Nat.le_of_ble_eq_true rfl) (fun H locs hP hD hS => ?_)
  replace hP : va_P D cl1 ([(q1, .inl (t 0, 64, .inl (fun _ => 0))), (h0, .inr (2, [.ref q1, .int 0]))]) H := hP
  replace hD : va_D A ([(q1, .inl (t 0, 64, .inl (fun _ => 0))), (h0, .inr (2, [.ref q1, .int 0]))]) := hD
  exact r_retW hF hr hlk dX6_init_12 hP hD hS ⟨q1, rfl⟩
def connI (t : Nat → ClassId) (h0 : Nat) (w1 : va_W) : Prop := ∃ kc kcb ks ksb kf : Nat, w1 = [(kf, .inl (t 2, 16, .inr (.inl (fun _ => 0)))), (ksb, .inl (t 0, 64, .inl (fun _ => 0))), (ks, .inr (2, [.ref ksb, .int 0])), (kcb, .inl (t 0, 64, .inl (fun _ => 0))), (kc, .inr (2, [.ref kcb, .int 0])), (h0, .inr (3, [.int 0, .int 0, .ref kc, .long 0, .ref ks, .ref kf, .int 0, .long 0, .int 0, .int 0, .long 0, .long 0, .int 0, .long 0, .long 0]))]
set_option maxRecDepth 100000 in
set_option maxHeartbeats 4000000 in
theorem c_X2_init (l : Launch) (D : va_G) (t : Nat → ClassId) (h0 : Nat) (sz : Nat) : WV l D t yX2_init cX2_init 1 ({ frames := 2, cells := 5, slots := 148, locals := 32 }) [(h0, .inr (3, [.int 0, .int 0, .null, .long 0, .null, .null, .int 0, .long 0, .int 0, .int 0, .long 0, .long 0, .int 0, .long 0, .long 0]))] sz [.ref h0] 5 148 (fun U => va_Nw (.methodLinkNest RX2 11 yX6_init "ShareHouse") U) (connI t h0) := by
  refine goE (by decide) (Nat.le_of_ble_eq_true rfl) ?_
  intro p e s m below meth c ls A hF hr hlk hin hsz hAe hP hD hS hA hl hE
  rw [hAe]
  have hF : FX p m c cX2_init 1 s _ RX2 D t := hF
  have hx := hF.1.1
  have hb := hF.1.2.1
  have hl : lv_has ls 1 [(0, .ref h0)] := hl
  refine lv_aload_n hx hb dX2_init_0 rfl (lv_at hl 0 rfl) ?_
  refine W.objInit hx hb hF.1.2.2.2.1 (hF.1.2.2.2.2 _ (wb 14 rfl)) (hF.1.2.2.2.2 _ (wb 10 rfl)) (hF.1.2.2.2.2 _ (wb 11 rfl)) rfl (hl.1.trans hF.1.2.2.1.symm) rfl dX2_init_1 (Nat.le_of_ble_eq_true rfl) (Nat.le_of_ble_eq_true rfl) ?_
  refine W.eq (g2 := F0 m 4 ls []) rfl ?_
  refine lv_aload_n hx hb dX2_init_4 rfl (lv_at hl 0 rfl) ?_
  refine r_new (fs := [.null, .int 0]) hF ci_X6 dX2_init_5 (wb 15 rfl) (wb 17 rfl) (wb 16 rfl) hP hD hS hA def_X6 (by decide) (by decide) (fun kc H hP hD hS => ?_)
  refine lv_dup hx hb dX2_init_8 rfl ?_
  refine r_cWN (wc := [(kc, .inr (2, [.null, .int 0]))]) (X := [(h0, .inr (3, [.int 0, .int 0, .null, .long 0, .null, .null, .int 0, .long 0, .int 0, .int 0, .long 0, .long 0, .int 0, .long 0, .long 0]))]) (As := []) (rest := [.ref kc, .ref h0]) hF hE mn_X2_11 (c_X6_init l D t kc _) (fun _ _ _ _ h => h) (fun _ _ _ => trivial) dX2_init_9 rfl rfl (by decide) rfl hl.1 (Nat.le_of_ble_eq_true rfl) hP hD hS hA (by decide) rfl (fun w1 H locs hI hP hD hS => ?_)
  obtain ⟨kcb, rfl⟩ := hI
  replace hP : va_P D cl1 ([(kcb, .inl (t 0, 64, .inl (fun _ => 0))), (kc, .inr (2, [.ref kcb, .int 0])), (h0, .inr (3, [.int 0, .int 0, .null, .long 0, .null, .null, .int 0, .long 0, .int 0, .int 0, .long 0, .long 0, .int 0, .long 0, .long 0]))]) H := hP
  replace hD : va_D A ([(kcb, .inl (t 0, 64, .inl (fun _ => 0))), (kc, .inr (2, [.ref kcb, .int 0])), (h0, .inr (3, [.int 0, .int 0, .null, .long 0, .null, .null, .int 0, .long 0, .int 0, .int 0, .long 0, .long 0, .int 0, .long 0, .long 0]))]) := hD
  refine r_putF hF ci_X2 fl_X2_12 dX2_init_12 hP hD hS (q0 := 2) rfl hin rfl rfl rfl rfl (Nat.le_of_ble_eq_true rfl) (fun H locs hP hD hS => ?_)
  replace hP : va_P D cl1 ([(kcb, .inl (t 0, 64, .inl (fun _ => 0))), (kc, .inr (2, [.ref kcb, .int 0])), (h0, .inr (3, [.int 0, .int 0, .ref kc, .long 0, .null, .null, .int 0, .long 0, .int 0, .int 0, .long 0, .long 0, .int 0, .long 0, .long 0]))]) H := hP
  replace hD : va_D A ([(kcb, .inl (t 0, 64, .inl (fun _ => 0))), (kc, .inr (2, [.ref kcb, .int 0])), (h0, .inr (3, [.int 0, .int 0, .ref kc, .long 0, .null, .null, .int 0, .long 0, .int 0, .int 0, .long 0, .long 0, .int 0, .long 0, .long 0]))]) := hD
  refine lv_aload_n hx hb dX2_init_15 rfl (lv_at hl 0 rfl) ?_
  refine r_new (fs := [.null, .int 0]) hF ci_X6 dX2_init_16 (wb 15 rfl) (wb 17 rfl) (wb 16 rfl) hP hD hS hA def_X6 (by decide) (by decide) (fun ks H hP hD hS => ?_)
  refine lv_dup hx hb dX2_init_19 rfl ?_
  refine r_cWN (wc := [(ks, .inr (2, [.null, .int 0]))]) (X := [(kcb, .inl (t 0, 64, .inl (fun _ => 0))), (kc, .inr (2, [.ref kcb, .int 0])), (h0, .inr (3, [.int 0, .int 0, .ref kc, .long 0, .null, .null, .int 0, .long 0, .int 0, .int 0, .long 0, .long 0, .int 0, .long 0, .long 0]))]) (As := []) (rest := [.ref ks, .ref h0]) hF hE mn_X2_11 (c_X6_init l D t ks _) (fun _ _ _ _ h => h) (fun _ _ _ => trivial) dX2_init_20 rfl rfl (by decide) rfl hl.1 (Nat.le_of_ble_eq_true rfl) hP hD hS hA (by decide) rfl (fun w1 H locs hI hP hD hS => ?_)
  obtain ⟨ksb, rfl⟩ := hI
  replace hP : va_P D cl1 ([(ksb, .inl (t 0, 64, .inl (fun _ => 0))), (ks, .inr (2, [.ref ksb, .int 0])), (kcb, .inl (t 0, 64, .inl (fun _ => 0))), (kc, .inr (2, [.ref kcb, .int 0])), (h0, .inr (3, [.int 0, .int 0, .ref kc, .long 0, .null, .null, .int 0, .long 0, .int 0, .int 0, .long 0, .long 0, .int 0, .long 0, .long 0]))]) H := hP
  replace hD : va_D A ([(ksb, .inl (t 0, 64, .inl (fun _ => 0))), (ks, .inr (2, [.ref ksb, .int 0])), (kcb, .inl (t 0, 64, .inl (fun _ => 0))), (kc, .inr (2, [.ref kcb, .int 0])), (h0, .inr (3, [.int 0, .int 0, .ref kc, .long 0, .null, .null, .int 0, .long 0, .int 0, .int 0, .long 0, .long 0, .int 0, .long 0, .long 0]))]) := hD
  refine r_putF hF ci_X2 fl_X2_18 dX2_init_23 hP hD hS (q0 := 4) rfl hin rfl rfl rfl rfl (Nat.le_of_ble_eq_true rfl) (fun H locs hP hD hS => ?_)
  replace hP : va_P D cl1 ([(ksb, .inl (t 0, 64, .inl (fun _ => 0))), (ks, .inr (2, [.ref ksb, .int 0])), (kcb, .inl (t 0, 64, .inl (fun _ => 0))), (kc, .inr (2, [.ref kcb, .int 0])), (h0, .inr (3, [.int 0, .int 0, .ref kc, .long 0, .ref ks, .null, .int 0, .long 0, .int 0, .int 0, .long 0, .long 0, .int 0, .long 0, .long 0]))]) H := hP
  replace hD : va_D A ([(ksb, .inl (t 0, 64, .inl (fun _ => 0))), (ks, .inr (2, [.ref ksb, .int 0])), (kcb, .inl (t 0, 64, .inl (fun _ => 0))), (kc, .inr (2, [.ref kcb, .int 0])), (h0, .inr (3, [.int 0, .int 0, .ref kc, .long 0, .ref ks, .null, .int 0, .long 0, .int 0, .int 0, .long 0, .long 0, .int 0, .long 0, .long 0]))]) := hD
  refine lv_aload_n hx hb dX2_init_26 rfl (lv_at hl 0 rfl) ?_
  refine lv_bipush (v := 16) hx hb dX2_init_27 (by decide) ?_
  refine r_newF (t0 := 2) (N' := 16) (a0 := (16, .inr (.inl (fun _ => 0)))) hF dX2_init_29 (wb 138 rfl) rfl rfl id hP hD hS hA (fun _ => rfl) (by decide) (by decide) (by decide) (by decide) (by decide) (fun kf H hP hD hS => ?_)
  refine r_putF hF ci_X2 fl_X2_21 dX2_init_31 hP hD hS (q0 := 5) rfl hin rfl rfl rfl rfl (Nat.le_of_ble_eq_true rfl) (fun H locs hP hD hS => ?_)
  replace hP : va_P D cl1 ([(kf, .inl (t 2, 16, .inr (.inl (fun _ => 0)))), (ksb, .inl (t 0, 64, .inl (fun _ => 0))), (ks, .inr (2, [.ref ksb, .int 0])), (kcb, .inl (t 0, 64, .inl (fun _ => 0))), (kc, .inr (2, [.ref kcb, .int 0])), (h0, .inr (3, [.int 0, .int 0, .ref kc, .long 0, .ref ks, .ref kf, .int 0, .long 0, .int 0, .int 0, .long 0, .long 0, .int 0, .long 0, .long 0]))]) H := hP
  replace hD : va_D A ([(kf, .inl (t 2, 16, .inr (.inl (fun _ => 0)))), (ksb, .inl (t 0, 64, .inl (fun _ => 0))), (ks, .inr (2, [.ref ksb, .int 0])), (kcb, .inl (t 0, 64, .inl (fun _ => 0))), (kc, .inr (2, [.ref kcb, .int 0])), (h0, .inr (3, [.int 0, .int 0, .ref kc, .long 0, .ref ks, .ref kf, .int 0, .long 0, .int 0, .int 0, .long 0, .long 0, .int 0, .long 0, .long 0]))]) := hD
  exact r_retW hF hr hlk dX2_init_34 hP hD hS ⟨kc, kcb, ks, ksb, kf, rfl⟩
def changeI (t : Nat → ClassId) (h0 : Nat) (w1 : va_W) : Prop := ∃ nm bt : Nat, w1 = [(bt, .inl (t 0, 0, .inl (fun _ => 0))), (nm, .inl (t 0, 12, .inl (fun _ => 0))), (h0, .inr (4, [.int 0, .int 0, .int 0, .int 0, .ref nm, .int 0, .int 0, .long 0, .long 0, .long 0, .long 0, .int 0, .int 0, .int 0, .ref bt]))]
set_option maxRecDepth 100000 in
set_option maxHeartbeats 4000000 in
theorem c_X1_init (l : Launch) (D : va_G) (t : Nat → ClassId) (h0 : Nat) (sz : Nat) : WV l D t yX1_init cX1_init 1 ({ frames := 1, cells := 2, slots := 12, locals := 12 }) [(h0, .inr (4, [.int 0, .int 0, .int 0, .int 0, .null, .int 0, .int 0, .long 0, .long 0, .long 0, .long 0, .int 0, .int 0, .int 0, .null]))] sz [.ref h0] 2 12 (fun _ => True) (changeI t h0) := by
  refine goE (by decide) (Nat.le_of_ble_eq_true rfl) ?_
  intro p e s m below meth c ls A hF hr hlk hin hsz hAe hP hD hS hA hl hE
  rw [hAe]
  have hF : FX p m c cX1_init 1 s _ RX1 D t := hF
  have hx := hF.1.1
  have hb := hF.1.2.1
  have hl : lv_has ls 1 [(0, .ref h0)] := hl
  refine lv_aload_n hx hb dX1_init_0 rfl (lv_at hl 0 rfl) ?_
  refine W.objInit hx hb hF.1.2.2.2.1 (hF.1.2.2.2.2 _ (wb 139 rfl)) (hF.1.2.2.2.2 _ (wb 10 rfl)) (hF.1.2.2.2.2 _ (wb 11 rfl)) rfl (hl.1.trans hF.1.2.2.1.symm) rfl dX1_init_1 (Nat.le_of_ble_eq_true rfl) (Nat.le_of_ble_eq_true rfl) ?_
  refine W.eq (g2 := F0 m 4 ls []) rfl ?_
  refine lv_aload_n hx hb dX1_init_4 rfl (lv_at hl 0 rfl) ?_
  refine lv_bipush (v := 12) hx hb dX1_init_5 (by decide) ?_
  refine r_newF (t0 := 0) (N' := 12) (a0 := (12, .inl (fun _ => 0))) hF dX1_init_7 (wb 12 rfl) rfl rfl id hP hD hS hA (fun _ => rfl) (by decide) (by decide) (by decide) (by decide) (by decide) (fun nm H hP hD hS => ?_)
  refine r_putF hF ci_X1 fl_X1_9 dX1_init_9 hP hD hS (q0 := 1) rfl hin rfl rfl rfl rfl (Nat.le_of_ble_eq_true rfl) (fun H locs hP hD hS => ?_)
  replace hP : va_P D cl1 ([(nm, .inl (t 0, 12, .inl (fun _ => 0))), (h0, .inr (4, [.int 0, .int 0, .int 0, .int 0, .ref nm, .int 0, .int 0, .long 0, .long 0, .long 0, .long 0, .int 0, .int 0, .int 0, .null]))]) H := hP
  replace hD : va_D A ([(nm, .inl (t 0, 12, .inl (fun _ => 0))), (h0, .inr (4, [.int 0, .int 0, .int 0, .int 0, .ref nm, .int 0, .int 0, .long 0, .long 0, .long 0, .long 0, .int 0, .int 0, .int 0, .null]))]) := hD
  refine lv_aload_n hx hb dX1_init_12 rfl (lv_at hl 0 rfl) ?_
  refine lv_iconst (v := 0) hx hb dX1_init_13 (by decide) ?_
  refine r_newF (t0 := 0) (N' := 0) (a0 := (0, .inl (fun _ => 0))) hF dX1_init_14 (wb 12 rfl) rfl rfl id hP hD hS hA (fun _ => rfl) (by decide) (by decide) (by decide) (by decide) (by decide) (fun bt H hP hD hS => ?_)
  refine r_put hF ci_X1 fl_X1_15 dX1_init_16 hP hD hS (q0 := 2) rfl rfl rfl rfl (Nat.le_of_ble_eq_true rfl) (fun H locs hP hD hS => ?_)
  replace hP : va_P D cl1 ([(bt, .inl (t 0, 0, .inl (fun _ => 0))), (nm, .inl (t 0, 12, .inl (fun _ => 0))), (h0, .inr (4, [.int 0, .int 0, .int 0, .int 0, .ref nm, .int 0, .int 0, .long 0, .long 0, .long 0, .long 0, .int 0, .int 0, .int 0, .ref bt]))]) H := hP
  replace hD : va_D A ([(bt, .inl (t 0, 0, .inl (fun _ => 0))), (nm, .inl (t 0, 12, .inl (fun _ => 0))), (h0, .inr (4, [.int 0, .int 0, .int 0, .int 0, .ref nm, .int 0, .int 0, .long 0, .long 0, .long 0, .long 0, .int 0, .int 0, .int 0, .ref bt]))]) := hD
  exact r_retW hF hr hlk dX1_init_19 hP hD hS ⟨nm, bt, rfl⟩
abbrev eNode (i : Int32) (nm dt : Nat) : va_E := .inr (5, [.int i, .int 0, .int 0, .int 0, .int (-1), .ref nm, .int 0, .int 0, .long 0, .long 0, .long 0, .long 0, .int 0, .ref dt])
def nodeI (t : Nat → ClassId) (h0 : Nat) (i : Int32) (w1 : va_W) : Prop := ∃ nm dt : Nat, w1 = [(dt, .inl (t 0, 0, .inl (fun _ => 0))), (nm, .inl (t 0, 12, .inl (fun _ => 0))), (h0, eNode i nm dt)]
set_option maxRecDepth 100000 in
set_option maxHeartbeats 4000000 in
theorem c_X4_init (l : Launch) (D : va_G) (t : Nat → ClassId) (h0 : Nat) (i : Int32) (sz : Nat) : WV l D t yX4_init cX4_init 2 ({ frames := 1, cells := 2, slots := 12, locals := 12 }) [(h0, .inr (5, [.int 0, .int 0, .int 0, .int 0, .int 0, .null, .int 0, .int 0, .long 0, .long 0, .long 0, .long 0, .int 0, .null]))] sz [.ref h0, .int i] 2 12 (fun _ => True) (nodeI t h0 i) := by
  refine goE (by decide) (Nat.le_of_ble_eq_true rfl) ?_
  intro p e s m below meth c ls A hF hr hlk hin hsz hAe hP hD hS hA hl hE
  rw [hAe]
  have hF : FX p m c cX4_init 2 s _ RX4 D t := hF
  have hx := hF.1.1
  have hb := hF.1.2.1
  have hl : lv_has ls 2 [(0, .ref h0), (1, .int i)] := hl
  refine lv_aload_n hx hb dX4_init_0 rfl (lv_at hl 0 rfl) ?_
  refine W.objInit hx hb hF.1.2.2.2.1 (hF.1.2.2.2.2 _ (wb 23 rfl)) (hF.1.2.2.2.2 _ (wb 10 rfl)) (hF.1.2.2.2.2 _ (wb 11 rfl)) rfl (hl.1.trans hF.1.2.2.1.symm) rfl dX4_init_1 (Nat.le_of_ble_eq_true rfl) (Nat.le_of_ble_eq_true rfl) ?_
  refine W.eq (g2 := F0 m 4 ls []) rfl ?_
  refine lv_aload_n hx hb dX4_init_4 rfl (lv_at hl 0 rfl) ?_
  refine lv_iconst (v := (-1)) hx hb dX4_init_5 (by decide) ?_
  refine r_put hF ci_X4 fl_X4_9 dX4_init_6 hP hD hS (q0 := 0) rfl rfl rfl rfl (Nat.le_of_ble_eq_true rfl) (fun H locs hP hD hS => ?_)
  replace hP : va_P D cl1 ([(h0, .inr (5, [.int 0, .int 0, .int 0, .int 0, .int (-1), .null, .int 0, .int 0, .long 0, .long 0, .long 0, .long 0, .int 0, .null]))]) H := hP
  replace hD : va_D A ([(h0, .inr (5, [.int 0, .int 0, .int 0, .int 0, .int (-1), .null, .int 0, .int 0, .long 0, .long 0, .long 0, .long 0, .int 0, .null]))]) := hD
  refine lv_aload_n hx hb dX4_init_9 rfl (lv_at hl 0 rfl) ?_
  refine lv_bipush (v := 12) hx hb dX4_init_10 (by decide) ?_
  refine r_newF (t0 := 0) (N' := 12) (a0 := (12, .inl (fun _ => 0))) hF dX4_init_12 (wb 12 rfl) rfl rfl id hP hD hS hA (fun _ => rfl) (by decide) (by decide) (by decide) (by decide) (by decide) (fun nm H hP hD hS => ?_)
  refine r_putF hF ci_X4 fl_X4_15 dX4_init_14 hP hD hS (q0 := 1) rfl hin rfl rfl rfl rfl (Nat.le_of_ble_eq_true rfl) (fun H locs hP hD hS => ?_)
  replace hP : va_P D cl1 ([(nm, .inl (t 0, 12, .inl (fun _ => 0))), (h0, .inr (5, [.int 0, .int 0, .int 0, .int 0, .int (-1), .ref nm, .int 0, .int 0, .long 0, .long 0, .long 0, .long 0, .int 0, .null]))]) H := hP
  replace hD : va_D A ([(nm, .inl (t 0, 12, .inl (fun _ => 0))), (h0, .inr (5, [.int 0, .int 0, .int 0, .int 0, .int (-1), .ref nm, .int 0, .int 0, .long 0, .long 0, .long 0, .long 0, .int 0, .null]))]) := hD
  refine lv_aload_n hx hb dX4_init_17 rfl (lv_at hl 0 rfl) ?_
  refine lv_iconst (v := 0) hx hb dX4_init_18 (by decide) ?_
  refine r_newF (t0 := 0) (N' := 0) (a0 := (0, .inl (fun _ => 0))) hF dX4_init_19 (wb 12 rfl) rfl rfl id hP hD hS hA (fun _ => rfl) (by decide) (by decide) (by decide) (by decide) (by decide) (fun dt H hP hD hS => ?_)
  refine r_put hF ci_X4 fl_X4_19 dX4_init_21 hP hD hS (q0 := 2) rfl rfl rfl rfl (Nat.le_of_ble_eq_true rfl) (fun H locs hP hD hS => ?_)
  replace hP : va_P D cl1 ([(dt, .inl (t 0, 0, .inl (fun _ => 0))), (nm, .inl (t 0, 12, .inl (fun _ => 0))), (h0, .inr (5, [.int 0, .int 0, .int 0, .int 0, .int (-1), .ref nm, .int 0, .int 0, .long 0, .long 0, .long 0, .long 0, .int 0, .ref dt]))]) H := hP
  replace hD : va_D A ([(dt, .inl (t 0, 0, .inl (fun _ => 0))), (nm, .inl (t 0, 12, .inl (fun _ => 0))), (h0, .inr (5, [.int 0, .int 0, .int 0, .int 0, .int (-1), .ref nm, .int 0, .int 0, .long 0, .long 0, .long 0, .long 0, .int 0, .ref dt]))]) := hD
  refine lv_aload_n hx hb dX4_init_24 rfl (lv_at hl 0 rfl) ?_
  refine lv_iload_n hx hb dX4_init_25 rfl (lv_at hl 1 rfl) ?_
  refine r_putF hF ci_X4 fl_X4_22 dX4_init_26 hP hD hS (q0 := 2) rfl hin rfl rfl rfl rfl (Nat.le_of_ble_eq_true rfl) (fun H locs hP hD hS => ?_)
  replace hP : va_P D cl1 ([(dt, .inl (t 0, 0, .inl (fun _ => 0))), (nm, .inl (t 0, 12, .inl (fun _ => 0))), (h0, .inr (5, [.int i, .int 0, .int 0, .int 0, .int (-1), .ref nm, .int 0, .int 0, .long 0, .long 0, .long 0, .long 0, .int 0, .ref dt]))]) H := hP
  replace hD : va_D A ([(dt, .inl (t 0, 0, .inl (fun _ => 0))), (nm, .inl (t 0, 12, .inl (fun _ => 0))), (h0, .inr (5, [.int i, .int 0, .int 0, .int 0, .int (-1), .ref nm, .int 0, .int 0, .long 0, .long 0, .long 0, .long 0, .int 0, .ref dt]))]) := hD
  exact r_retW hF hr hlk dX4_init_29 hP hD hS ⟨nm, dt, rfl⟩
def nodesIn (t : Nat → ClassId) (T : va_W) (f : Nat → Option Nat) (i : Nat) : Prop := ∀ j, j < i → ∃ a nm dt : Nat, f j = some a ∧ (a, eNode (nI j) nm dt) ∈ T ∧ (nm, (.inl (t 0, 12, .inl (fun _ => 0)) : va_E)) ∈ T ∧ (dt, (.inl (t 0, 0, .inl (fun _ => 0)) : va_E)) ∈ T
abbrev volW (t : Nat → ClassId) (h0 an : Nat) (f : Nat → Option Nat) (T : va_W) : va_W := [(an, .inl (t 6, 80, .inr (.inr (.inr (.inr f))))), (h0, .inr (6, [.ref an, .int 0]))] ++ T
def volI (t : Nat → ClassId) (h0 : Nat) (w1 : va_W) : Prop := ∃ (an : Nat) (f : Nat → Option Nat) (T : va_W), w1 = volW t h0 an f T ∧ nodesIn t T f 80
theorem nodesIn_0 {t : Nat → ClassId} {T : va_W} {f : Nat → Option Nat} : nodesIn t T f 0 := fun _ h => absurd h (Nat.not_lt_zero _)
theorem nodesIn_s {t : Nat → ClassId} {T : va_W} {f : Nat → Option Nat} {i a nm dt : Nat} (h : nodesIn t T f i) : nodesIn t ([(dt, .inl (t 0, 0, .inl (fun _ => 0))), (nm, .inl (t 0, 12, .inl (fun _ => 0))), (a, eNode (nI i) nm dt)] ++ T) (va_up f i (some a)) (i + 1) := by
  intro j hj
  by_cases hji : j = i
  · subst hji
    exact ⟨a, nm, dt, by simp [va_up], List.mem_append_left _ (by simp), List.mem_append_left _ (by simp), List.mem_append_left _ (by simp)⟩
  · obtain ⟨a', nm', dt', h1, h2, h3, h4⟩ := h j (by omega)
    exact ⟨a', nm', dt', by simp only [va_up, if_neg hji]; exact h1, List.mem_append_right _ h2, List.mem_append_right _ h3, List.mem_append_right _ h4⟩
set_option maxRecDepth 100000 in
set_option maxHeartbeats 4000000 in
theorem c_X9_init (l : Launch) (D : va_G) (t : Nat → ClassId) (h0 : Nat) (sz : Nat) : WV l D t yX9_init cX9_init 2 ({ frames := 2, cells := 241, slots := 2160, locals := 33 }) [(h0, .inr (6, [.null, .int 0]))] sz [.ref h0] 241 2160 (fun U => va_AO "ShareHouse$Node" U) (volI t h0) := by
  refine goE (by decide) (Nat.le_of_ble_eq_true rfl) ?_
  intro p e s m below meth c ls A hF hr hlk hin hsz hAe hP hD hS hA hl hE
  rw [hAe]
  have hF : FX p m c cX9_init 2 s _ RX9 D t := hF
  have hx := hF.1.1
  have hb := hF.1.2.1
  have hl : lv_has ls 2 [(0, .ref h0)] := hl
  refine lv_aload_n hx hb dX9_init_0 rfl (lv_at hl 0 rfl) ?_
  refine W.objInit hx hb hF.1.2.2.2.1 (hF.1.2.2.2.2 _ (wb 28 rfl)) (hF.1.2.2.2.2 _ (wb 10 rfl)) (hF.1.2.2.2.2 _ (wb 11 rfl)) rfl (hl.1.trans hF.1.2.2.1.symm) rfl dX9_init_1 (Nat.le_of_ble_eq_true rfl) (Nat.le_of_ble_eq_true rfl) ?_
  refine W.eq (g2 := F0 m 4 ls []) rfl ?_
  refine lv_aload_n hx hb dX9_init_4 rfl (lv_at hl 0 rfl) ?_
  refine lv_bipush (v := 80) hx hb dX9_init_5 (by decide) ?_
  refine r_newq (t0 := 6) (N' := 80) hF dX9_init_7 (wb 29 rfl) hE rfl hP hD hS hA (by decide) (by decide) (by decide) (by decide) (by decide) (fun an H hP hD hS => ?_)
  refine r_putF hF ci_X9 fl_X9_11 dX9_init_10 hP hD hS (q0 := 1) rfl hin rfl rfl rfl rfl (Nat.le_of_ble_eq_true rfl) (fun H locs hP hD hS => ?_)
  replace hP : va_P D cl1 ([(an, .inl (t 6, 80, .inr (.inr (.inr (.inr (fun _ => none)))))), (h0, .inr (6, [.ref an, .int 0]))]) H := hP
  replace hD : va_D A ([(an, .inl (t 6, 80, .inr (.inr (.inr (.inr (fun _ => none)))))), (h0, .inr (6, [.ref an, .int 0]))]) := hD
  refine lv_iconst (v := 0) hx hb dX9_init_13 (by decide) ?_
  refine lv_istore_n (lv' := [(1, .int 0), (0, .ref h0)]) hx hb dX9_init_14 rfl hl (by decide) rfl (fun ls hl => ?_)
  have hl : lv_has ls 2 [(1, .int 0), (0, .ref h0)] := lv_sub hl [0, 1] rfl
  refine r_loopW (L0 := fun i => [(1, .int (nI i)), (0, .ref h0)]) (J := fun i ws => ∃ (f : Nat → Option Nat) (T : va_W), ws = volW t h0 an f T ∧ nodesIn t T f i) (fun i => 1 + 3 * i) (fun i => 80 + 26 * i) 80 hl ⟨_, [], rfl, nodesIn_0⟩ hP hD hS (fun i hi ws ls H locs hJ hl hP hD hS ih => ?_) (fun ws ls H locs hJ hl hP hD hS => ?_)
  · obtain ⟨f, T, rfl, hT⟩ := hJ
    have hl : lv_has ls 2 [(1, .int (nI i)), (0, .ref h0)] := hl
    replace hP : va_P D cl1 ([(an, .inl (t 6, 80, .inr (.inr (.inr (.inr f))))), (h0, .inr (6, [.ref an, .int 0]))] ++ T) H := hP
    replace hD : va_D A ([(an, .inl (t 6, 80, .inr (.inr (.inr (.inr f))))), (h0, .inr (6, [.ref an, .int 0]))] ++ T) := hD
    refine lv_iload_n hx hb dX9_init_15 rfl (lv_at hl 0 rfl) ?_
    refine lv_aload_n hx hb dX9_init_16 rfl (lv_at hl 1 rfl) ?_
    refine r_get hF ci_X9 fl_X9_11 dX9_init_17 hP (q0 := 1) rfl rfl ?_
    refine r_alen (v := 80) hF dX9_init_20 hP (q0 := 0) rfl (t0 := 6) rfl rfl ?_
    refine lv_icmp_ge (tgt := 44) hx hb dX9_init_21 rfl (fun h => absurd h (nI_ge hi (by decide))) (fun _ => ?_)
    refine lv_aload_n hx hb dX9_init_24 rfl (lv_at hl 1 rfl) ?_
    refine r_get hF ci_X9 fl_X9_11 dX9_init_25 hP (q0 := 1) rfl rfl ?_
    refine lv_iload_n hx hb dX9_init_28 rfl (lv_at hl 0 rfl) ?_
    refine r_new (fs := [.int 0, .int 0, .int 0, .int 0, .int 0, .null, .int 0, .int 0, .long 0, .long 0, .long 0, .long 0, .int 0, .null]) hF ci_X4 dX9_init_29 (wb 29 rfl) (wb 32 rfl) (wb 31 rfl) hP hD hS hA def_X4 (show 1 + 3 * i + 1 ≤ 241 by omega) (show 80 + 26 * i + 14 ≤ 2160 by omega) (fun q H hP hD hS => ?_)
    refine lv_dup hx hb dX9_init_32 rfl ?_
    refine lv_iload_n hx hb dX9_init_33 rfl (lv_at hl 0 rfl) ?_
    refine r_cWI (wc := [(q, .inr (5, [.int 0, .int 0, .int 0, .int 0, .int 0, .null, .int 0, .int 0, .long 0, .long 0, .long 0, .long 0, .int 0, .null]))]) (X := [(an, .inl (t 6, 80, .inr (.inr (.inr (.inr f))))), (h0, .inr (6, [.ref an, .int 0]))] ++ T) (As := [.int (nI i)]) (rest := [.ref q, .int (nI i), .ref an]) hF mi_X9_17 (c_X4_init l D t q (nI i) _) (fun _ _ _ _ h => h) (fun _ _ _ => trivial) dX9_init_34 rfl rfl (by decide) rfl hl.1 (Nat.le_of_ble_eq_true rfl) hP hD hS hA ⟨show 1 + 3 * i + 1 + 2 ≤ 241 by omega, show 80 + 26 * i + 14 + 12 ≤ 2160 by omega⟩ rfl (fun w1 H locs hI hP hD hS => ?_)
    obtain ⟨nm, dt, rfl⟩ := hI
    have hP := P_perm (perm_mv0 _ _ _) hP
    have hD := D_perm (perm_mv0 _ _ _) hD
    refine r_astq (t0 := 6) (q0 := 0) (qk := 4) hF ci_X4 dX9_init_37 hP hD hS rfl rfl rfl (vp_in_nI hi (by decide)) (fun H locs hP hD hS => ?_)
    refine lv_iinc (lv' := [(1, .int (nI (i + 1))), (0, .ref h0)]) (k := 0) (v := (nI (i + 1))) hx hb dX9_init_38 hl rfl (nI_1 i) (by decide) rfl (fun ls hl => ?_)
    refine lv_goto (tgt := 15) hx hb dX9_init_41 rfl ?_
    refine W.widen (k := 1 + 3 * (i + 1)) (n := 80 + 26 * (i + 1)) (by omega) (by omega) ?_
    refine ih _ ls H locs ⟨va_up f i (some q), [(dt, .inl (t 0, 0, .inl (fun _ => 0))), (nm, .inl (t 0, 12, .inl (fun _ => 0))), (q, eNode (nI i) nm dt)] ++ T, ?_, nodesIn_s hT⟩ hl hP hD hS
    rw [nI_clamp (by omega)]
    rfl
  · obtain ⟨f, T, rfl, hT⟩ := hJ
    have hl : lv_has ls 2 [(1, .int (nI 80)), (0, .ref h0)] := hl
    replace hP : va_P D cl1 ([(an, .inl (t 6, 80, .inr (.inr (.inr (.inr f))))), (h0, .inr (6, [.ref an, .int 0]))] ++ T) H := hP
    replace hD : va_D A ([(an, .inl (t 6, 80, .inr (.inr (.inr (.inr f))))), (h0, .inr (6, [.ref an, .int 0]))] ++ T) := hD
    refine lv_iload_n hx hb dX9_init_15 rfl (lv_at hl 0 rfl) ?_
    refine lv_aload_n hx hb dX9_init_16 rfl (lv_at hl 1 rfl) ?_
    refine r_get hF ci_X9 fl_X9_11 dX9_init_17 hP (q0 := 1) rfl rfl ?_
    refine r_alen (v := 80) hF dX9_init_20 hP (q0 := 0) rfl (t0 := 6) rfl rfl ?_
    refine lv_icmp_ge (tgt := 44) hx hb dX9_init_21 rfl (fun _ => ?_) (fun h => absurd (nI_le (Nat.le_refl 80) (by decide)) h)
    exact r_retW hF hr hlk dX9_init_44 hP hD hS ⟨an, f, T, rfl, hT⟩

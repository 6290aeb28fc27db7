/-! the class, lifted: 9 -/
set_option maxRecDepth 100000 in
def F_X11_hang (G : GE) (h : Nat) (a1 : Int32) (post : Int32 → CS → Prop) (κ : CS) : Prop := (h ∈ sL κ.1 ∧ sK κ.1 h = 1) ∧ F_X11_connection G h a1 (fun (z2 : Option Nat) (κ1 : CS) => jc (fun (K5 : Unit → CS → Prop) => ((z2 = none) → K5 () κ1) ∧ ((¬ z2 = none) → ∃ b : Nat, z2 = some b ∧ (b ∈ sL κ1.1 ∧ sK κ1.1 b = 3) ∧ ∀ z8 : Int32, z8 = sI κ1.1 b 0 → ((¬ z8.toInt = 0) → (h ∈ sL κ1.1 ∧ sK κ1.1 h = 1) ∧ F_X11_shutOff G h z2 (fun (κ9 : CS) => (h ∈ sL κ9.1 ∧ sK κ9.1 h = 1) ∧ F_X11_settle G h  (fun (κ11 : CS) => (0 ≤ (1 : Int32).toInt ∧ (1 : Int32).toInt ≤ 1) ∧ post 1 κ11) κ9) κ1) ∧ ((z8.toInt = 0) → K5 () κ1))) (fun (x3 : Unit) (κ4 : CS) => (0 ≤ (0 : Int32).toInt ∧ (0 : Int32).toInt ≤ 1) ∧ post 0 κ4)) κ
theorem dX11_hang_0 : decode cX11_hang 0 = .ok (.aload_n 0, 1) := by decide +kernel
theorem dX11_hang_1 : decode cX11_hang 1 = .ok (.iload_n 1, 1) := by decide +kernel
theorem dX11_hang_2 : decode cX11_hang 2 = .ok (.invokevirtual 108, 3) := by decide +kernel
theorem dX11_hang_5 : decode cX11_hang 5 = .ok (.astore_n 2, 1) := by decide +kernel
theorem dX11_hang_6 : decode cX11_hang 6 = .ok (.aload_n 2, 1) := by decide +kernel
theorem dX11_hang_7 : decode cX11_hang 7 = .ok (.ifnull 10, 3) := by decide +kernel
theorem dX11_hang_10 : decode cX11_hang 10 = .ok (.aload_n 2, 1) := by decide +kernel
theorem dX11_hang_11 : decode cX11_hang 11 = .ok (.getfield 112, 3) := by decide +kernel
theorem dX11_hang_14 : decode cX11_hang 14 = .ok (.ifCond .ne 5, 3) := by decide +kernel
theorem dX11_hang_17 : decode cX11_hang 17 = .ok (.iconst 0, 1) := by decide +kernel
theorem dX11_hang_18 : decode cX11_hang 18 = .ok (.ireturn, 1) := by decide +kernel
theorem dX11_hang_19 : decode cX11_hang 19 = .ok (.aload_n 0, 1) := by decide +kernel
theorem dX11_hang_20 : decode cX11_hang 20 = .ok (.aload_n 2, 1) := by decide +kernel
theorem dX11_hang_21 : decode cX11_hang 21 = .ok (.invokevirtual 119, 3) := by decide +kernel
theorem dX11_hang_24 : decode cX11_hang 24 = .ok (.aload_n 0, 1) := by decide +kernel
theorem dX11_hang_25 : decode cX11_hang 25 = .ok (.invokevirtual 123, 3) := by decide +kernel
theorem dX11_hang_28 : decode cX11_hang 28 = .ok (.iconst 1, 1) := by decide +kernel
theorem dX11_hang_29 : decode cX11_hang 29 = .ok (.ireturn, 1) := by decide +kernel
set_option maxRecDepth 100000 in
set_option maxHeartbeats 4000000 in
theorem c_X11_hang (l : Launch) (D : va_G) (t : Nat → ClassId) (G : GE) (κ : CS) (h : Nat) (a1 : Int32) (post : Int32 → CS → Prop) (hw : F_X11_hang G h a1 post κ) (sz : Nat) : CMi l D t yX11_hang cX11_hang 3 (some .boolean) 11 274 G κ sz [.ref h, .int a1] post := by
  refine c_go (by decide) (Nat.le_of_ble_eq_true rfl) ?_
  intro p e s m below meth c ls A hF hr hlk hin hAe hH hA hE hl
  unfold cB
  rw [hAe]
  clear hAe
  have hF : FX p m c cX11_hang 3 s _ RX11 D t := hF
  have hx := hF.1.1
  have hb := hF.1.2.1
  have hl : lv_has ls 3 [(0, .ref h), (1, .int a1)] := hl
  unfold F_X11_hang at hw
  refine lv_aload_n hx hb dX11_hang_0 rfl (lv_at hl 0 rfl) ?_
  refine lv_iload_n hx hb dX11_hang_1 rfl (lv_at hl 1 rfl) ?_
  refine cw_cVq (b := h) (As := [.int a1]) (rest := []) hF hH hA hE mv_X11_108 ci_X11 (by decide) (fun sz => c_X11_connection l D t G _ h a1 _ hw.2 sz) dX11_hang_2 hw.1 ⟨Nat.le_of_ble_eq_true rfl, Nat.le_of_ble_eq_true rfl⟩ rfl hl.1 (Nat.le_of_ble_eq_true rfl) rfl (fun z2 κ1 H locs cells slots hw hH => ?_)
  refine w_astoreq_n (lv' := [(2, va_rf z2), (0, .ref h), (1, .int a1)]) hF dX11_hang_5 rfl hl (by decide) rfl (fun ls hl => ?_)
  refine w_aloadq_n hF dX11_hang_6 rfl (lv_at hl 0 rfl) ?_
  obtain ⟨K5, hK6, hw⟩ := jc_open hw
  refine cw_join (K := K5) 17 (fun (x3 : Unit) => []) (fun (x3 : Unit) => []) hl hH (fun x3 κ4 ls H locs cells slots hl hw hH => ?_) (fun jn7 => ?_)
  · have hw := hK6 x3 κ4 hw
    have hl : lv_has ls 3 [] := hl
    refine lv_iconst (v := 0) hx hb dX11_hang_17 (by decide) ?_
    exact cw_retz hF hH ⟨rfl, rfl⟩ hr hlk dX11_hang_18 hw
  · skip
    refine cw_ifnull (q := z2) (tgt := 17) hF dX11_hang_7 rfl hw (fun hw => ?_) (fun hw => ?_)
    · have hl : lv_has ls 3 [] := lv_sub hl [] rfl
      exact jn7 () κ1 ls _ _ _ _ hl hw hH
    · refine w_aloadq_n hF dX11_hang_10 rfl (lv_at hl 0 rfl) ?_
      refine cw_getI (q := z2) hF hH fk_X11_112 dX11_hang_11 hw (fun z8 hw => ?_)
      refine w_if_ne (tgt := 19) hF dX11_hang_14 rfl hw (fun hw => ?_) (fun hw => ?_)
      · refine lv_aload_n hx hb dX11_hang_19 rfl (lv_at hl 1 rfl) ?_
        refine w_aloadq_n hF dX11_hang_20 rfl (lv_at hl 0 rfl) ?_
        refine cw_cVv (b := h) (As := [va_rf z2]) (rest := []) hF hH hA hE mv_X11_119 ci_X11 (by decide) (fun sz => c_X11_shutOff l D t G _ h z2 _ hw.2 sz) dX11_hang_21 hw.1 ⟨Nat.le_of_ble_eq_true rfl, Nat.le_of_ble_eq_true rfl⟩ rfl hl.1 (Nat.le_of_ble_eq_true rfl) rfl (fun κ9 H locs cells slots hw hH => ?_)
        refine lv_aload_n hx hb dX11_hang_24 rfl (lv_at hl 1 rfl) ?_
        refine cw_cVv (b := h) (As := []) (rest := []) hF hH hA hE mv_X11_123 ci_X11 (by decide) (fun sz => c_X11_settle l D t G _ h  _ hw.2 sz) dX11_hang_25 hw.1 ⟨Nat.le_of_ble_eq_true rfl, Nat.le_of_ble_eq_true rfl⟩ rfl hl.1 (Nat.le_of_ble_eq_true rfl) rfl (fun κ11 H locs cells slots hw hH => ?_)
        refine lv_iconst (v := 1) hx hb dX11_hang_28 (by decide) ?_
        exact cw_retz hF hH ⟨rfl, rfl⟩ hr hlk dX11_hang_29 hw
      · have hl : lv_has ls 3 [] := lv_sub hl [] rfl
        exact jn7 () κ1 ls _ _ _ _ hl hw hH
set_option maxRecDepth 100000 in
def F_X11_beginMessage (G : GE) (h : Nat) (a1 : Option Nat) (post : CS → Prop) (κ : CS) : Prop := ∃ b : Nat, a1 = some b ∧ (b ∈ sL κ.1 ∧ sK κ.1 b = 3) ∧ ∀ κ1 : CS, κ1 = (h_uI κ.1 b 8 4, κ.2) → ∃ b : Nat, a1 = some b ∧ (b ∈ sL κ1.1 ∧ sK κ1.1 b = 3) ∧ ∀ κ2 : CS, κ2 = (h_uI κ1.1 b 9 0, κ1.2) → (0 ≤ (0 : Int32).toInt ∧ (0 : Int32).toInt ≤ 1) ∧ ∃ b : Nat, a1 = some b ∧ (b ∈ sL κ2.1 ∧ sK κ2.1 b = 3) ∧ ∀ κ3 : CS, κ3 = (h_uI κ2.1 b 12 0, κ2.2) → (h ∈ sL κ3.1 ∧ sK κ3.1 h = 1) ∧ ∀ z4 : Option Nat, z4 = sP κ3.1 h 14 → ∃ b : Nat, z4 = some b ∧ (b ∈ sL κ3.1 ∧ sK κ3.1 b = 2) ∧ F_X6_begin G b 0 (fun (κ5 : CS) => post κ5) κ3
theorem dX11_beginMessage_0 : decode cX11_beginMessage 0 = .ok (.aload_n 1, 1) := by decide +kernel
theorem dX11_beginMessage_1 : decode cX11_beginMessage 1 = .ok (.iconst 4, 1) := by decide +kernel
theorem dX11_beginMessage_2 : decode cX11_beginMessage 2 = .ok (.putfield 253, 3) := by decide +kernel
theorem dX11_beginMessage_5 : decode cX11_beginMessage 5 = .ok (.aload_n 1, 1) := by decide +kernel
theorem dX11_beginMessage_6 : decode cX11_beginMessage 6 = .ok (.iconst 0, 1) := by decide +kernel
theorem dX11_beginMessage_7 : decode cX11_beginMessage 7 = .ok (.putfield 256, 3) := by decide +kernel
theorem dX11_beginMessage_10 : decode cX11_beginMessage 10 = .ok (.aload_n 1, 1) := by decide +kernel
theorem dX11_beginMessage_11 : decode cX11_beginMessage 11 = .ok (.iconst 0, 1) := by decide +kernel
theorem dX11_beginMessage_12 : decode cX11_beginMessage 12 = .ok (.putfield 259, 3) := by decide +kernel
theorem dX11_beginMessage_15 : decode cX11_beginMessage 15 = .ok (.aload_n 0, 1) := by decide +kernel
theorem dX11_beginMessage_16 : decode cX11_beginMessage 16 = .ok (.getfield 65, 3) := by decide +kernel
theorem dX11_beginMessage_19 : decode cX11_beginMessage 19 = .ok (.iconst 0, 1) := by decide +kernel
theorem dX11_beginMessage_20 : decode cX11_beginMessage 20 = .ok (.invokevirtual 262, 3) := by decide +kernel
theorem dX11_beginMessage_23 : decode cX11_beginMessage 23 = .ok (.return_, 1) := by decide +kernel
set_option maxRecDepth 100000 in
set_option maxHeartbeats 4000000 in
theorem c_X11_beginMessage (l : Launch) (D : va_G) (t : Nat → ClassId) (G : GE) (κ : CS) (h : Nat) (a1 : Option Nat) (post : CS → Prop) (hw : F_X11_beginMessage G h a1 post κ) (sz : Nat) : CMv l D t yX11_beginMessage cX11_beginMessage 2 3 82 G κ sz [.ref h, va_rf a1] post := by
  refine c_go (by decide) (by cases a1 <;> exact Nat.le_of_ble_eq_true rfl) ?_
  intro p e s m below meth c ls A hF hr hlk hin hAe hH hA hE hl
  unfold cB
  rw [hAe]
  clear hAe
  have hF : FX p m c cX11_beginMessage 2 s _ RX11 D t := hF
  have hx := hF.1.1
  have hb := hF.1.2.1
  have hl : lv_has ls 2 [(0, .ref h), (1, va_rf a1)] := (by have h2 := hl; clear hw; revert h2; cases a1 <;> exact id)
  unfold F_X11_beginMessage at hw
  refine w_aloadq_n hF dX11_beginMessage_0 rfl (lv_at hl 1 rfl) ?_
  refine lv_iconst (v := 4) hx hb dX11_beginMessage_1 (by decide) ?_
  refine cw_putI (q := a1) (v := 4) hF hH fk_X11_253 dX11_beginMessage_2 rfl rfl rfl hw (fun κ1 H locs cells slots hw hH => ?_)
  refine w_aloadq_n hF dX11_beginMessage_5 rfl (lv_at hl 1 rfl) ?_
  refine lv_iconst (v := 0) hx hb dX11_beginMessage_6 (by decide) ?_
  refine cw_putI (q := a1) (v := 0) hF hH fk_X11_256 dX11_beginMessage_7 rfl rfl rfl hw (fun κ2 H locs cells slots hw hH => ?_)
  refine w_aloadq_n hF dX11_beginMessage_10 rfl (lv_at hl 1 rfl) ?_
  refine lv_iconst (v := 0) hx hb dX11_beginMessage_11 (by decide) ?_
  refine cw_putZ (q := a1) (v := 0) hF hH fk_X11_259 dX11_beginMessage_12 rfl rfl hw (fun κ3 H locs cells slots hw hH => ?_)
  refine lv_aload_n hx hb dX11_beginMessage_15 rfl (lv_at hl 0 rfl) ?_
  refine cw_getPr (a := h) hF hH fk_X11_65 dX11_beginMessage_16 hw (fun z4 hw => ?_)
  refine lv_iconst (v := 0) hx hb dX11_beginMessage_19 (by decide) ?_
  refine cw_cVvq (q := z4) (As := [.int 0]) (rest := []) hF hH hA hE mv_X11_262 ci_X6 (by decide) hw (fun b hw sz => c_X6_begin l D t G _ b 0 _ hw sz) dX11_beginMessage_20 ⟨Nat.le_of_ble_eq_true rfl, Nat.le_of_ble_eq_true rfl⟩ rfl hl.1 (Nat.le_of_ble_eq_true rfl) rfl (fun κ5 H locs cells slots hw hH => ?_)
  exact cw_retv hF hH ⟨rfl, rfl⟩ hr hlk dX11_beginMessage_23 hw
set_option maxRecDepth 100000 in
def F_X11_sessionOf (G : GE) (h : Nat) (a1 : Option Nat) (post : Option Nat → CS → Prop) (κ : CS) : Prop := lc (fun (K3 : Int32 → CS → Prop) (x1 : Int32) (κ2 : CS) => (h ∈ sL κ2.1 ∧ sK κ2.1 h = 1) ∧ ∀ z5 : Option Nat, z5 = sP κ2.1 h 8 → ∃ b : Nat, z5 = some b ∧ (b ∈ sL κ2.1 ∧ sK κ2.1 b = 7) ∧ F_Jx4a65c_size_8abf5 G b  (fun (z7 : Int32) (κ6 : CS) => ((z7.toInt ≤ x1.toInt) → post (none : Option Nat) κ6) ∧ ((x1.toInt < z7.toInt) → (h ∈ sL κ6.1 ∧ sK κ6.1 h = 1) ∧ ∀ z8 : Option Nat, z8 = sP κ6.1 h 8 → ∃ b : Nat, z8 = some b ∧ (b ∈ sL κ6.1 ∧ sK κ6.1 b = 7) ∧ F_Jx4a65c_get_915e3 G b x1 (fun (z10 : Option Nat) (κ9 : CS) => (z10 = none ∨ ∃ b : Nat, z10 = some b ∧ b ∈ sL κ9.1 ∧ sK κ9.1 b = 11) ∧ ∃ b : Nat, z10 = some b ∧ (b ∈ sL κ9.1 ∧ sK κ9.1 b = 11) ∧ ∀ z11 : Int64, z11 = sJ κ9.1 b 0 → ∃ b : Nat, a1 = some b ∧ (b ∈ sL κ9.1 ∧ sK κ9.1 b = 8) ∧ ∀ z12 : Int64, z12 = sJ κ9.1 b 11 → jc (fun (K15 : Unit → CS → Prop) => ((¬ z11.toInt = z12.toInt) → K15 () κ9) ∧ ((z11.toInt = z12.toInt) → ∃ b : Nat, z10 = some b ∧ (b ∈ sL κ9.1 ∧ sK κ9.1 b = 11) ∧ ∀ z19 : Option Nat, z19 = sP κ9.1 b 1 → ∃ b : Nat, a1 = some b ∧ (b ∈ sL κ9.1 ∧ sK κ9.1 b = 8) ∧ ∀ z20 : Option Nat, z20 = sP κ9.1 b 0 → ((¬ z19 = z20) → K15 () κ9) ∧ ((z19 = z20) → post z10 κ9))) (fun (x13 : Unit) (κ14 : CS) => ∀ z18 : Int32, z18 = x1 + 1 → K3 z18 κ14)) κ6)) κ2) 0 κ
theorem dX11_sessionOf_0 : decode cX11_sessionOf 0 = .ok (.iconst 0, 1) := by decide +kernel
theorem dX11_sessionOf_1 : decode cX11_sessionOf 1 = .ok (.istore_n 2, 1) := by decide +kernel
theorem dX11_sessionOf_2 : decode cX11_sessionOf 2 = .ok (.iload_n 2, 1) := by decide +kernel
theorem dX11_sessionOf_3 : decode cX11_sessionOf 3 = .ok (.aload_n 0, 1) := by decide +kernel
theorem dX11_sessionOf_4 : decode cX11_sessionOf 4 = .ok (.getfield 45, 3) := by decide +kernel
theorem dX11_sessionOf_7 : decode cX11_sessionOf 7 = .ok (.invokevirtual 161, 3) := by decide +kernel
theorem dX11_sessionOf_10 : decode cX11_sessionOf 10 = .ok (.if_icmp .ge 46, 3) := by decide +kernel
theorem dX11_sessionOf_13 : decode cX11_sessionOf 13 = .ok (.aload_n 0, 1) := by decide +kernel
theorem dX11_sessionOf_14 : decode cX11_sessionOf 14 = .ok (.getfield 45, 3) := by decide +kernel
theorem dX11_sessionOf_17 : decode cX11_sessionOf 17 = .ok (.iload_n 2, 1) := by decide +kernel
theorem dX11_sessionOf_18 : decode cX11_sessionOf 18 = .ok (.invokevirtual 164, 3) := by decide +kernel
theorem dX11_sessionOf_21 : decode cX11_sessionOf 21 = .ok (.checkcast 403, 3) := by decide +kernel
theorem dX11_sessionOf_24 : decode cX11_sessionOf 24 = .ok (.astore_n 3, 1) := by decide +kernel
theorem dX11_sessionOf_25 : decode cX11_sessionOf 25 = .ok (.aload_n 3, 1) := by decide +kernel
theorem dX11_sessionOf_26 : decode cX11_sessionOf 26 = .ok (.getfield 405, 3) := by decide +kernel
theorem dX11_sessionOf_29 : decode cX11_sessionOf 29 = .ok (.aload_n 1, 1) := by decide +kernel
theorem dX11_sessionOf_30 : decode cX11_sessionOf 30 = .ok (.getfield 335, 3) := by decide +kernel
theorem dX11_sessionOf_33 : decode cX11_sessionOf 33 = .ok (.lcmp, 1) := by decide +kernel
theorem dX11_sessionOf_34 : decode cX11_sessionOf 34 = .ok (.ifCond .ne 16, 3) := by decide +kernel
theorem dX11_sessionOf_37 : decode cX11_sessionOf 37 = .ok (.aload_n 3, 1) := by decide +kernel
theorem dX11_sessionOf_38 : decode cX11_sessionOf 38 = .ok (.getfield 406, 3) := by decide +kernel
theorem dX11_sessionOf_41 : decode cX11_sessionOf 41 = .ok (.aload_n 1, 1) := by decide +kernel
theorem dX11_sessionOf_42 : decode cX11_sessionOf 42 = .ok (.getfield 310, 3) := by decide +kernel
theorem dX11_sessionOf_45 : decode cX11_sessionOf 45 = .ok (.if_acmp .ne 5, 3) := by decide +kernel
theorem dX11_sessionOf_48 : decode cX11_sessionOf 48 = .ok (.aload_n 3, 1) := by decide +kernel
theorem dX11_sessionOf_49 : decode cX11_sessionOf 49 = .ok (.areturn, 1) := by decide +kernel
theorem dX11_sessionOf_50 : decode cX11_sessionOf 50 = .ok (.iinc 2 1, 3) := by decide +kernel
theorem dX11_sessionOf_53 : decode cX11_sessionOf 53 = .ok (.goto (-51), 3) := by decide +kernel
theorem dX11_sessionOf_56 : decode cX11_sessionOf 56 = .ok (.aconst_null, 1) := by decide +kernel
theorem dX11_sessionOf_57 : decode cX11_sessionOf 57 = .ok (.areturn, 1) := by decide +kernel
set_option maxRecDepth 100000 in
set_option maxHeartbeats 4000000 in
theorem c_X11_sessionOf (l : Launch) (D : va_G) (t : Nat → ClassId) (G : GE) (κ : CS) (h : Nat) (a1 : Option Nat) (post : Option Nat → CS → Prop) (hw : F_X11_sessionOf G h a1 post κ) (sz : Nat) : CMq l D t yX11_sessionOf cX11_sessionOf 4 (some (.object "ShareHouse$Session")) 3 78 G κ sz [.ref h, va_rf a1] post := by
  refine c_go (by decide) (by cases a1 <;> exact Nat.le_of_ble_eq_true rfl) ?_
  intro p e s m below meth c ls A hF hr hlk hin hAe hH hA hE hl
  unfold cB
  rw [hAe]
  clear hAe
  have hF : FX p m c cX11_sessionOf 4 s _ RX11 D t := hF
  have hx := hF.1.1
  have hb := hF.1.2.1
  have hl : lv_has ls 4 [(0, .ref h), (1, va_rf a1)] := (by have h2 := hl; clear hw; revert h2; cases a1 <;> exact id)
  unfold F_X11_sessionOf at hw
  refine lv_iconst (v := 0) hx hb dX11_sessionOf_0 (by decide) ?_
  refine lv_istore_n (lv' := [(2, .int 0), (0, .ref h), (1, va_rf a1)]) hx hb dX11_sessionOf_1 rfl hl (by decide) (by generalize a1 = y; cases y <;> rfl) (fun ls hl => ?_)
  have hl : lv_has ls 4 [(2, .int 0), (1, va_rf a1), (0, .ref h)] := lv_sub hl [0, 2, 1] rfl
  refine cw_loop (β := Int32) (fun x1 => [(2, .int x1), (1, va_rf a1), (0, .ref h)]) 0 hl hw hH (fun K3 x1 κ2 ls H locs cells slots hl hw hH ih4 => ?_)
  have hl : lv_has ls 4 [(2, .int x1), (1, va_rf a1), (0, .ref h)] := hl
  refine lv_iload_n hx hb dX11_sessionOf_2 rfl (lv_at hl 0 rfl) ?_
  refine lv_aload_n hx hb dX11_sessionOf_3 rfl (lv_at hl 2 rfl) ?_
  refine cw_getPr (a := h) hF hH fk_X11_45 dX11_sessionOf_4 hw (fun z5 hw => ?_)
  refine cw_cViq (q := z5) (As := []) (rest := [.int x1]) hF hH hA hE mv_X11_161 ci_Jx4a65c (by decide) hw (fun b hw sz => c_Jx4a65c_size_8abf5 l D t G _ b  _ hw sz) dX11_sessionOf_7 ⟨Nat.le_of_ble_eq_true rfl, Nat.le_of_ble_eq_true rfl⟩ rfl hl.1 (Nat.le_of_ble_eq_true rfl) rfl (fun z7 κ6 H locs cells slots hw hH => ?_)
  refine w_icmp_ge (tgt := 56) hF dX11_sessionOf_10 rfl hw (fun hw => ?_) (fun hw => ?_)
  · refine cw_null dX11_sessionOf_56 hF ?_
    exact cw_retq (v := (none : Option Nat)) hF hH ⟨rfl, rfl⟩ hr (by first | exact Or.inl ⟨_, rfl⟩ | exact Or.inr ⟨_, rfl⟩) hlk dX11_sessionOf_57 hw
  · refine lv_aload_n hx hb dX11_sessionOf_13 rfl (lv_at hl 2 rfl) ?_
    refine cw_getPr (a := h) hF hH fk_X11_45 dX11_sessionOf_14 hw (fun z8 hw => ?_)
    refine lv_iload_n hx hb dX11_sessionOf_17 rfl (lv_at hl 0 rfl) ?_
    refine cw_cVqq (q := z8) (As := [.int x1]) (rest := []) hF hH hA hE mv_X11_164 ci_Jx4a65c (by decide) hw (fun b hw sz => c_Jx4a65c_get_915e3 l D t G _ b x1 _ hw sz) dX11_sessionOf_18 ⟨Nat.le_of_ble_eq_true rfl, Nat.le_of_ble_eq_true rfl⟩ rfl hl.1 (Nat.le_of_ble_eq_true rfl) rfl (fun z10 κ9 H locs cells slots hw hH => ?_)
    refine cw_cast (q := z10) hF hH ci_X7 (by decide) (wc_16 25 rfl) (by decide) dX11_sessionOf_21 hw (fun hw => ?_)
    refine w_astoreq_n (lv' := [(3, va_rf z10), (2, .int x1), (1, va_rf a1), (0, .ref h)]) hF dX11_sessionOf_24 rfl hl (by decide) rfl (fun ls hl => ?_)
    refine w_aloadq_n hF dX11_sessionOf_25 rfl (lv_at hl 0 rfl) ?_
    refine cw_getJ (q := z10) hF hH fk_X11_405 dX11_sessionOf_26 hw (fun z11 hw => ?_)
    refine w_aloadq_n hF dX11_sessionOf_29 rfl (lv_at hl 2 rfl) ?_
    refine cw_getJ (q := a1) hF hH fk_X11_335 dX11_sessionOf_30 hw (fun z12 hw => ?_)
    obtain ⟨K15, hK16, hw⟩ := jc_open hw
    refine cw_join (K := K15) 50 (fun (x13 : Unit) => [(2, .int x1), (1, va_rf a1), (0, .ref h)]) (fun (x13 : Unit) => []) hl hH (fun x13 κ14 ls H locs cells slots hl hw hH => ?_) (fun jn17 => ?_)
    · have hw := hK16 x13 κ14 hw
      have hl : lv_has ls 4 [(2, .int x1), (1, va_rf a1), (0, .ref h)] := hl
      obtain ⟨z18, ez18⟩ : ∃ z : Int32, z = x1 + 1 := ⟨_, rfl⟩
      have hw := hw z18 ez18
      refine lv_iinc (lv' := [(2, .int z18), (1, va_rf a1), (0, .ref h)]) (k := 0) (v := z18) hx hb dX11_sessionOf_50 hl rfl ez18.symm (by decide) (by generalize a1 = y; cases y <;> rfl) (fun ls hl => ?_)
      refine lv_goto (tgt := 2) hx hb dX11_sessionOf_53 rfl ?_
      exact ih4 z18 κ14 ls _ _ _ _ hl hw hH
    · skip
      refine w_lif_ne (tgt := 50) hF dX11_sessionOf_33 dX11_sessionOf_34 rfl hw (fun hw => ?_) (fun hw => ?_)
      · have hl : lv_has ls 4 [(2, .int x1), (1, va_rf a1), (0, .ref h)] := lv_sub hl [1, 2, 3] rfl
        exact jn17 () κ9 ls _ _ _ _ hl hw hH
      · refine w_aloadq_n hF dX11_sessionOf_37 rfl (lv_at hl 0 rfl) ?_
        refine cw_getP (q := z10) hF hH fk_X11_406 dX11_sessionOf_38 hw (fun z19 hw => ?_)
        refine w_aloadq_n hF dX11_sessionOf_41 rfl (lv_at hl 2 rfl) ?_
        refine cw_getP (q := a1) hF hH fk_X11_310 dX11_sessionOf_42 hw (fun z20 hw => ?_)
        refine cw_acmp_ne (rx := z19) (ry := z20) (tgt := 50) hF dX11_sessionOf_45 rfl hw (fun hw => ?_) (fun hw => ?_)
        · have hl : lv_has ls 4 [(2, .int x1), (1, va_rf a1), (0, .ref h)] := lv_sub hl [1, 2, 3] rfl
          exact jn17 () κ9 ls _ _ _ _ hl hw hH
        · refine w_aloadq_n hF dX11_sessionOf_48 rfl (lv_at hl 0 rfl) ?_
          exact cw_retq (v := z10) hF hH ⟨rfl, rfl⟩ hr (by first | exact Or.inl ⟨_, rfl⟩ | exact Or.inr ⟨_, rfl⟩) hlk dX11_sessionOf_49 hw
set_option maxRecDepth 100000 in
def F_X11_treeOf (G : GE) (h : Nat) (a1 : Option Nat) (post : Option Nat → CS → Prop) (κ : CS) : Prop := lc (fun (K3 : Int32 → CS → Prop) (x1 : Int32) (κ2 : CS) => (h ∈ sL κ2.1 ∧ sK κ2.1 h = 1) ∧ ∀ z5 : Option Nat, z5 = sP κ2.1 h 9 → ∃ b : Nat, z5 = some b ∧ (b ∈ sL κ2.1 ∧ sK κ2.1 b = 7) ∧ F_Jx4a65c_size_8abf5 G b  (fun (z7 : Int32) (κ6 : CS) => ((z7.toInt ≤ x1.toInt) → post (none : Option Nat) κ6) ∧ ((x1.toInt < z7.toInt) → (h ∈ sL κ6.1 ∧ sK κ6.1 h = 1) ∧ ∀ z8 : Option Nat, z8 = sP κ6.1 h 9 → ∃ b : Nat, z8 = some b ∧ (b ∈ sL κ6.1 ∧ sK κ6.1 b = 7) ∧ F_Jx4a65c_get_915e3 G b x1 (fun (z10 : Option Nat) (κ9 : CS) => (z10 = none ∨ ∃ b : Nat, z10 = some b ∧ b ∈ sL κ9.1 ∧ sK κ9.1 b = 12) ∧ ∃ b : Nat, z10 = some b ∧ (b ∈ sL κ9.1 ∧ sK κ9.1 b = 12) ∧ ∀ z11 : Int64, z11 = sJ κ9.1 b 0 → ∃ b : Nat, a1 = some b ∧ (b ∈ sL κ9.1 ∧ sK κ9.1 b = 8) ∧ ∀ z12 : Int64, z12 = sJ κ9.1 b 10 → jc (fun (K15 : Unit → CS → Prop) => ((¬ z11.toInt = z12.toInt) → K15 () κ9) ∧ ((z11.toInt = z12.toInt) → ∃ b : Nat, z10 = some b ∧ (b ∈ sL κ9.1 ∧ sK κ9.1 b = 12) ∧ ∀ z19 : Option Nat, z19 = sP κ9.1 b 1 → ∃ b : Nat, a1 = some b ∧ (b ∈ sL κ9.1 ∧ sK κ9.1 b = 8) ∧ ∀ z20 : Option Nat, z20 = sP κ9.1 b 13 → ((¬ z19 = z20) → K15 () κ9) ∧ ((z19 = z20) → post z10 κ9))) (fun (x13 : Unit) (κ14 : CS) => ∀ z18 : Int32, z18 = x1 + 1 → K3 z18 κ14)) κ6)) κ2) 0 κ
theorem dX11_treeOf_0 : decode cX11_treeOf 0 = .ok (.iconst 0, 1) := by decide +kernel
theorem dX11_treeOf_1 : decode cX11_treeOf 1 = .ok (.istore_n 2, 1) := by decide +kernel
theorem dX11_treeOf_2 : decode cX11_treeOf 2 = .ok (.iload_n 2, 1) := by decide +kernel
theorem dX11_treeOf_3 : decode cX11_treeOf 3 = .ok (.aload_n 0, 1) := by decide +kernel
theorem dX11_treeOf_4 : decode cX11_treeOf 4 = .ok (.getfield 49, 3) := by decide +kernel
theorem dX11_treeOf_7 : decode cX11_treeOf 7 = .ok (.invokevirtual 161, 3) := by decide +kernel
theorem dX11_treeOf_10 : decode cX11_treeOf 10 = .ok (.if_icmp .ge 46, 3) := by decide +kernel
theorem dX11_treeOf_13 : decode cX11_treeOf 13 = .ok (.aload_n 0, 1) := by decide +kernel
theorem dX11_treeOf_14 : decode cX11_treeOf 14 = .ok (.getfield 49, 3) := by decide +kernel
theorem dX11_treeOf_17 : decode cX11_treeOf 17 = .ok (.iload_n 2, 1) := by decide +kernel
theorem dX11_treeOf_18 : decode cX11_treeOf 18 = .ok (.invokevirtual 164, 3) := by decide +kernel
theorem dX11_treeOf_21 : decode cX11_treeOf 21 = .ok (.checkcast 407, 3) := by decide +kernel
theorem dX11_treeOf_24 : decode cX11_treeOf 24 = .ok (.astore_n 3, 1) := by decide +kernel
theorem dX11_treeOf_25 : decode cX11_treeOf 25 = .ok (.aload_n 3, 1) := by decide +kernel
theorem dX11_treeOf_26 : decode cX11_treeOf 26 = .ok (.getfield 409, 3) := by decide +kernel
theorem dX11_treeOf_29 : decode cX11_treeOf 29 = .ok (.aload_n 1, 1) := by decide +kernel
theorem dX11_treeOf_30 : decode cX11_treeOf 30 = .ok (.getfield 341, 3) := by decide +kernel
theorem dX11_treeOf_33 : decode cX11_treeOf 33 = .ok (.lcmp, 1) := by decide +kernel
theorem dX11_treeOf_34 : decode cX11_treeOf 34 = .ok (.ifCond .ne 16, 3) := by decide +kernel
theorem dX11_treeOf_37 : decode cX11_treeOf 37 = .ok (.aload_n 3, 1) := by decide +kernel
theorem dX11_treeOf_38 : decode cX11_treeOf 38 = .ok (.getfield 410, 3) := by decide +kernel
theorem dX11_treeOf_41 : decode cX11_treeOf 41 = .ok (.aload_n 1, 1) := by decide +kernel
theorem dX11_treeOf_42 : decode cX11_treeOf 42 = .ok (.getfield 373, 3) := by decide +kernel
theorem dX11_treeOf_45 : decode cX11_treeOf 45 = .ok (.if_acmp .ne 5, 3) := by decide +kernel
theorem dX11_treeOf_48 : decode cX11_treeOf 48 = .ok (.aload_n 3, 1) := by decide +kernel
theorem dX11_treeOf_49 : decode cX11_treeOf 49 = .ok (.areturn, 1) := by decide +kernel
theorem dX11_treeOf_50 : decode cX11_treeOf 50 = .ok (.iinc 2 1, 3) := by decide +kernel
theorem dX11_treeOf_53 : decode cX11_treeOf 53 = .ok (.goto (-51), 3) := by decide +kernel
theorem dX11_treeOf_56 : decode cX11_treeOf 56 = .ok (.aconst_null, 1) := by decide +kernel
theorem dX11_treeOf_57 : decode cX11_treeOf 57 = .ok (.areturn, 1) := by decide +kernel
set_option maxRecDepth 100000 in
set_option maxHeartbeats 4000000 in
theorem c_X11_treeOf (l : Launch) (D : va_G) (t : Nat → ClassId) (G : GE) (κ : CS) (h : Nat) (a1 : Option Nat) (post : Option Nat → CS → Prop) (hw : F_X11_treeOf G h a1 post κ) (sz : Nat) : CMq l D t yX11_treeOf cX11_treeOf 4 (some (.object "ShareHouse$TreeLink")) 3 78 G κ sz [.ref h, va_rf a1] post := by
  refine c_go (by decide) (by cases a1 <;> exact Nat.le_of_ble_eq_true rfl) ?_
  intro p e s m below meth c ls A hF hr hlk hin hAe hH hA hE hl
  unfold cB
  rw [hAe]
  clear hAe
  have hF : FX p m c cX11_treeOf 4 s _ RX11 D t := hF
  have hx := hF.1.1
  have hb := hF.1.2.1
  have hl : lv_has ls 4 [(0, .ref h), (1, va_rf a1)] := (by have h2 := hl; clear hw; revert h2; cases a1 <;> exact id)
  unfold F_X11_treeOf at hw
  refine lv_iconst (v := 0) hx hb dX11_treeOf_0 (by decide) ?_
  refine lv_istore_n (lv' := [(2, .int 0), (0, .ref h), (1, va_rf a1)]) hx hb dX11_treeOf_1 rfl hl (by decide) (by generalize a1 = y; cases y <;> rfl) (fun ls hl => ?_)
  have hl : lv_has ls 4 [(2, .int 0), (1, va_rf a1), (0, .ref h)] := lv_sub hl [0, 2, 1] rfl
  refine cw_loop (β := Int32) (fun x1 => [(2, .int x1), (1, va_rf a1), (0, .ref h)]) 0 hl hw hH (fun K3 x1 κ2 ls H locs cells slots hl hw hH ih4 => ?_)
  have hl : lv_has ls 4 [(2, .int x1), (1, va_rf a1), (0, .ref h)] := hl
  refine lv_iload_n hx hb dX11_treeOf_2 rfl (lv_at hl 0 rfl) ?_
  refine lv_aload_n hx hb dX11_treeOf_3 rfl (lv_at hl 2 rfl) ?_
  refine cw_getPr (a := h) hF hH fk_X11_49 dX11_treeOf_4 hw (fun z5 hw => ?_)
  refine cw_cViq (q := z5) (As := []) (rest := [.int x1]) hF hH hA hE mv_X11_161 ci_Jx4a65c (by decide) hw (fun b hw sz => c_Jx4a65c_size_8abf5 l D t G _ b  _ hw sz) dX11_treeOf_7 ⟨Nat.le_of_ble_eq_true rfl, Nat.le_of_ble_eq_true rfl⟩ rfl hl.1 (Nat.le_of_ble_eq_true rfl) rfl (fun z7 κ6 H locs cells slots hw hH => ?_)
  refine w_icmp_ge (tgt := 56) hF dX11_treeOf_10 rfl hw (fun hw => ?_) (fun hw => ?_)
  · refine cw_null dX11_treeOf_56 hF ?_
    exact cw_retq (v := (none : Option Nat)) hF hH ⟨rfl, rfl⟩ hr (by first | exact Or.inl ⟨_, rfl⟩ | exact Or.inr ⟨_, rfl⟩) hlk dX11_treeOf_57 hw
  · refine lv_aload_n hx hb dX11_treeOf_13 rfl (lv_at hl 2 rfl) ?_
    refine cw_getPr (a := h) hF hH fk_X11_49 dX11_treeOf_14 hw (fun z8 hw => ?_)
    refine lv_iload_n hx hb dX11_treeOf_17 rfl (lv_at hl 0 rfl) ?_
    refine cw_cVqq (q := z8) (As := [.int x1]) (rest := []) hF hH hA hE mv_X11_164 ci_Jx4a65c (by decide) hw (fun b hw sz => c_Jx4a65c_get_915e3 l D t G _ b x1 _ hw sz) dX11_treeOf_18 ⟨Nat.le_of_ble_eq_true rfl, Nat.le_of_ble_eq_true rfl⟩ rfl hl.1 (Nat.le_of_ble_eq_true rfl) rfl (fun z10 κ9 H locs cells slots hw hH => ?_)
    refine cw_cast (q := z10) hF hH ci_X8 (by decide) (wc_16 26 rfl) (by decide) dX11_treeOf_21 hw (fun hw => ?_)
    refine w_astoreq_n (lv' := [(3, va_rf z10), (2, .int x1), (1, va_rf a1), (0, .ref h)]) hF dX11_treeOf_24 rfl hl (by decide) rfl (fun ls hl => ?_)
    refine w_aloadq_n hF dX11_treeOf_25 rfl (lv_at hl 0 rfl) ?_
    refine cw_getJ (q := z10) hF hH fk_X11_409 dX11_treeOf_26 hw (fun z11 hw => ?_)
    refine w_aloadq_n hF dX11_treeOf_29 rfl (lv_at hl 2 rfl) ?_
    refine cw_getJ (q := a1) hF hH fk_X11_341 dX11_treeOf_30 hw (fun z12 hw => ?_)
    obtain ⟨K15, hK16, hw⟩ := jc_open hw
    refine cw_join (K := K15) 50 (fun (x13 : Unit) => [(2, .int x1), (1, va_rf a1), (0, .ref h)]) (fun (x13 : Unit) => []) hl hH (fun x13 κ14 ls H locs cells slots hl hw hH => ?_) (fun jn17 => ?_)
    · have hw := hK16 x13 κ14 hw
      have hl : lv_has ls 4 [(2, .int x1), (1, va_rf a1), (0, .ref h)] := hl
      obtain ⟨z18, ez18⟩ : ∃ z : Int32, z = x1 + 1 := ⟨_, rfl⟩
      have hw := hw z18 ez18
      refine lv_iinc (lv' := [(2, .int z18), (1, va_rf a1), (0, .ref h)]) (k := 0) (v := z18) hx hb dX11_treeOf_50 hl rfl ez18.symm (by decide) (by generalize a1 = y; cases y <;> rfl) (fun ls hl => ?_)
      refine lv_goto (tgt := 2) hx hb dX11_treeOf_53 rfl ?_
      exact ih4 z18 κ14 ls _ _ _ _ hl hw hH
    · skip
      refine w_lif_ne (tgt := 50) hF dX11_treeOf_33 dX11_treeOf_34 rfl hw (fun hw => ?_) (fun hw => ?_)
      · have hl : lv_has ls 4 [(2, .int x1), (1, va_rf a1), (0, .ref h)] := lv_sub hl [1, 2, 3] rfl
        exact jn17 () κ9 ls _ _ _ _ hl hw hH
      · refine w_aloadq_n hF dX11_treeOf_37 rfl (lv_at hl 0 rfl) ?_
        refine cw_getP (q := z10) hF hH fk_X11_410 dX11_treeOf_38 hw (fun z19 hw => ?_)
        refine w_aloadq_n hF dX11_treeOf_41 rfl (lv_at hl 2 rfl) ?_
        refine cw_getP (q := a1) hF hH fk_X11_373 dX11_treeOf_42 hw (fun z20 hw => ?_)
        refine cw_acmp_ne (rx := z19) (ry := z20) (tgt := 50) hF dX11_treeOf_45 rfl hw (fun hw => ?_) (fun hw => ?_)
        · have hl : lv_has ls 4 [(2, .int x1), (1, va_rf a1), (0, .ref h)] := lv_sub hl [1, 2, 3] rfl
          exact jn17 () κ9 ls _ _ _ _ hl hw hH
        · refine w_aloadq_n hF dX11_treeOf_48 rfl (lv_at hl 0 rfl) ?_
          exact cw_retq (v := z10) hF hH ⟨rfl, rfl⟩ hr (by first | exact Or.inl ⟨_, rfl⟩ | exact Or.inr ⟨_, rfl⟩) hlk dX11_treeOf_49 hw
set_option maxRecDepth 100000 in
def F_X11_lookAtFile (G : GE) (h : Nat) (a1 : Option Nat) (a2 : Int32) (post : Int32 → CS → Prop) (κ : CS) : Prop := ∃ b : Nat, a1 = some b ∧ (b ∈ sL κ.1 ∧ sK κ.1 b = 8) ∧ ∀ z1 : Option Nat, z1 = sP κ.1 b 0 → ∃ b : Nat, a1 = some b ∧ (b ∈ sL κ.1 ∧ sK κ.1 b = 8) ∧ F_X0_number G b a2 8 (fun (z3 : Int64) (κ2 : CS) => ∀ z4 : Int32, z4 = a2 + 8 → ∃ b : Nat, a1 = some b ∧ (b ∈ sL κ2.1 ∧ sK κ2.1 b = 8) ∧ F_X0_number G b z4 8 (fun (z6 : Int64) (κ5 : CS) => ∃ b : Nat, a1 = some b ∧ (b ∈ sL κ5.1 ∧ sK κ5.1 b = 8) ∧ F_X0_related G b  (fun (z8 : Int32) (κ7 : CS) => jc (fun (K11 : (Int64 × Int64) → CS → Prop) => ((z8.toInt = 0) → K11 (z6, z3) κ7) ∧ ((¬ z8.toInt = 0) → ((¬ z3.toInt = ((-1) : Int64).toInt) → K11 (z6, z3) κ7) ∧ ((z3.toInt = ((-1) : Int64).toInt) → ((¬ z6.toInt = ((-1) : Int64).toInt) → K11 (z6, z3) κ7) ∧ ((z6.toInt = ((-1) : Int64).toInt) → ∃ b : Nat, a1 = some b ∧ (b ∈ sL κ7.1 ∧ sK κ7.1 b = 8) ∧ ∀ z36 : Int32, z36 = sI κ7.1 b 12 → ((¬ z36.toInt = 0) → ∃ b : Nat, z1 = some b ∧ (b ∈ sL κ7.1 ∧ sK κ7.1 b = 3) ∧ ∀ z37 : Int64, z37 = sJ κ7.1 b 13 → ∃ b : Nat, z1 = some b ∧ (b ∈ sL κ7.1 ∧ sK κ7.1 b = 3) ∧ ∀ z38 : Int64, z38 = sJ κ7.1 b 14 → K11 (z38, z37) κ7) ∧ ((z36.toInt = 0) → post (-1073741811) κ7))))) (fun (x9 : Int64 × Int64) (κ10 : CS) => ∃ b : Nat, z1 = some b ∧ (b ∈ sL κ10.1 ∧ sK κ10.1 b = 3) ∧ F_X2_tellFile G b x9.2 x9.1 (fun (κ14 : CS) => lc (fun (K18 : Int32 → CS → Prop) (x16 : Int32) (κ17 : CS) => (h ∈ sL κ17.1 ∧ sK κ17.1 h = 1) ∧ ∀ z20 : Option Nat, z20 = sP κ17.1 h 10 → ∃ b : Nat, z20 = some b ∧ (b ∈ sL κ17.1 ∧ sK κ17.1 b = 7) ∧ F_Jx4a65c_size_8abf5 G b  (fun (z22 : Int32) (κ21 : CS) => ((z22.toInt ≤ x16.toInt) → post (-1073741528) κ21) ∧ ((x16.toInt < z22.toInt) → (h ∈ sL κ21.1 ∧ sK κ21.1 h = 1) ∧ ∀ z23 : Option Nat, z23 = sP κ21.1 h 10 → ∃ b : Nat, z23 = some b ∧ (b ∈ sL κ21.1 ∧ sK κ21.1 b = 7) ∧ F_Jx4a65c_get_915e3 G b x16 (fun (z25 : Option Nat) (κ24 : CS) => (z25 = none ∨ ∃ b : Nat, z25 = some b ∧ b ∈ sL κ24.1 ∧ sK κ24.1 b = 10) ∧ ∃ b : Nat, z25 = some b ∧ (b ∈ sL κ24.1 ∧ sK κ24.1 b = 10) ∧ ∀ z26 : Int64, z26 = sJ κ24.1 b 0 → jc (fun (K29 : Unit → CS → Prop) => ((¬ z26.toInt = x9.2.toInt) → K29 () κ24) ∧ ((z26.toInt = x9.2.toInt) → ((¬ x9.2.toInt = x9.1.toInt) → K29 () κ24) ∧ ((x9.2.toInt = x9.1.toInt) → ∃ b : Nat, z25 = some b ∧ (b ∈ sL κ24.1 ∧ sK κ24.1 b = 10) ∧ ∀ z33 : Option Nat, z33 = sP κ24.1 b 1 → ∃ b : Nat, a1 = some b ∧ (b ∈ sL κ24.1 ∧ sK κ24.1 b = 8) ∧ ∀ z34 : Option Nat, z34 = sP κ24.1 b 14 → ((¬ z33 = z34) → K29 () κ24) ∧ ((z33 = z34) → ∃ b : Nat, a1 = some b ∧ (b ∈ sL κ24.1 ∧ sK κ24.1 b = 8) ∧ ∀ κ35 : CS, κ35 = (h_uP κ24.1 b 15 z25, κ24.2) → post 0 κ35)))) (fun (x27 : Unit) (κ28 : CS) => ∀ z32 : Int32, z32 = x16 + 1 → K18 z32 κ28)) κ21)) κ17) 0 κ14) κ10)) κ5) κ2) κ
theorem dX11_lookAtFile_0 : decode cX11_lookAtFile 0 = .ok (.aload_n 1, 1) := by decide +kernel
theorem dX11_lookAtFile_1 : decode cX11_lookAtFile 1 = .ok (.getfield 310, 3) := by decide +kernel
theorem dX11_lookAtFile_4 : decode cX11_lookAtFile 4 = .ok (.astore_n 3, 1) := by decide +kernel
theorem dX11_lookAtFile_5 : decode cX11_lookAtFile 5 = .ok (.aload_n 1, 1) := by decide +kernel
theorem dX11_lookAtFile_6 : decode cX11_lookAtFile 6 = .ok (.iload_n 2, 1) := by decide +kernel
theorem dX11_lookAtFile_7 : decode cX11_lookAtFile 7 = .ok (.bipush 8, 2) := by decide +kernel
theorem dX11_lookAtFile_9 : decode cX11_lookAtFile 9 = .ok (.invokevirtual 394, 3) := by decide +kernel
theorem dX11_lookAtFile_12 : decode cX11_lookAtFile 12 = .ok (.lstore 4, 2) := by decide +kernel
theorem dX11_lookAtFile_14 : decode cX11_lookAtFile 14 = .ok (.aload_n 1, 1) := by decide +kernel
theorem dX11_lookAtFile_15 : decode cX11_lookAtFile 15 = .ok (.iload_n 2, 1) := by decide +kernel
theorem dX11_lookAtFile_16 : decode cX11_lookAtFile 16 = .ok (.bipush 8, 2) := by decide +kernel
theorem dX11_lookAtFile_18 : decode cX11_lookAtFile 18 = .ok (.iadd, 1) := by decide +kernel
theorem dX11_lookAtFile_19 : decode cX11_lookAtFile 19 = .ok (.bipush 8, 2) := by decide +kernel
theorem dX11_lookAtFile_21 : decode cX11_lookAtFile 21 = .ok (.invokevirtual 394, 3) := by decide +kernel
theorem dX11_lookAtFile_24 : decode cX11_lookAtFile 24 = .ok (.lstore 6, 2) := by decide +kernel
theorem dX11_lookAtFile_26 : decode cX11_lookAtFile 26 = .ok (.aload_n 1, 1) := by decide +kernel
theorem dX11_lookAtFile_27 : decode cX11_lookAtFile 27 = .ok (.invokevirtual 353, 3) := by decide +kernel
theorem dX11_lookAtFile_30 : decode cX11_lookAtFile 30 = .ok (.ifCond .eq 44, 3) := by decide +kernel
theorem dX11_lookAtFile_33 : decode cX11_lookAtFile 33 = .ok (.lload 4, 2) := by decide +kernel
theorem dX11_lookAtFile_35 : decode cX11_lookAtFile 35 = .ok (.ldc2_w 412, 3) := by decide +kernel
theorem dX11_lookAtFile_38 : decode cX11_lookAtFile 38 = .ok (.lcmp, 1) := by decide +kernel
theorem dX11_lookAtFile_39 : decode cX11_lookAtFile 39 = .ok (.ifCond .ne 35, 3) := by decide +kernel
theorem dX11_lookAtFile_42 : decode cX11_lookAtFile 42 = .ok (.lload 6, 2) := by decide +kernel
theorem dX11_lookAtFile_44 : decode cX11_lookAtFile 44 = .ok (.ldc2_w 412, 3) := by decide +kernel
theorem dX11_lookAtFile_47 : decode cX11_lookAtFile 47 = .ok (.lcmp, 1) := by decide +kernel
theorem dX11_lookAtFile_48 : decode cX11_lookAtFile 48 = .ok (.ifCond .ne 26, 3) := by decide +kernel
theorem dX11_lookAtFile_51 : decode cX11_lookAtFile 51 = .ok (.aload_n 1, 1) := by decide +kernel
theorem dX11_lookAtFile_52 : decode cX11_lookAtFile 52 = .ok (.getfield 414, 3) := by decide +kernel
theorem dX11_lookAtFile_55 : decode cX11_lookAtFile 55 = .ok (.ifCond .ne 7, 3) := by decide +kernel
theorem dX11_lookAtFile_58 : decode cX11_lookAtFile 58 = .ok (.ldc_w 398, 3) := by decide +kernel
theorem dX11_lookAtFile_61 : decode cX11_lookAtFile 61 = .ok (.ireturn, 1) := by decide +kernel
theorem dX11_lookAtFile_62 : decode cX11_lookAtFile 62 = .ok (.aload_n 3, 1) := by decide +kernel
theorem dX11_lookAtFile_63 : decode cX11_lookAtFile 63 = .ok (.getfield 417, 3) := by decide +kernel
theorem dX11_lookAtFile_66 : decode cX11_lookAtFile 66 = .ok (.lstore 4, 2) := by decide +kernel
theorem dX11_lookAtFile_68 : decode cX11_lookAtFile 68 = .ok (.aload_n 3, 1) := by decide +kernel
theorem dX11_lookAtFile_69 : decode cX11_lookAtFile 69 = .ok (.getfield 420, 3) := by decide +kernel
theorem dX11_lookAtFile_72 : decode cX11_lookAtFile 72 = .ok (.lstore 6, 2) := by decide +kernel
theorem dX11_lookAtFile_74 : decode cX11_lookAtFile 74 = .ok (.aload_n 3, 1) := by decide +kernel
theorem dX11_lookAtFile_75 : decode cX11_lookAtFile 75 = .ok (.lload 4, 2) := by decide +kernel
theorem dX11_lookAtFile_77 : decode cX11_lookAtFile 77 = .ok (.lload 6, 2) := by decide +kernel
theorem dX11_lookAtFile_79 : decode cX11_lookAtFile 79 = .ok (.invokevirtual 331, 3) := by decide +kernel
theorem dX11_lookAtFile_82 : decode cX11_lookAtFile 82 = .ok (.iconst 0, 1) := by decide +kernel
theorem dX11_lookAtFile_83 : decode cX11_lookAtFile 83 = .ok (.istore 8, 2) := by decide +kernel
theorem dX11_lookAtFile_85 : decode cX11_lookAtFile 85 = .ok (.iload 8, 2) := by decide +kernel
theorem dX11_lookAtFile_87 : decode cX11_lookAtFile 87 = .ok (.aload_n 0, 1) := by decide +kernel
theorem dX11_lookAtFile_88 : decode cX11_lookAtFile 88 = .ok (.getfield 52, 3) := by decide +kernel
theorem dX11_lookAtFile_91 : decode cX11_lookAtFile 91 = .ok (.invokevirtual 161, 3) := by decide +kernel
theorem dX11_lookAtFile_94 : decode cX11_lookAtFile 94 = .ok (.if_icmp .ge 62, 3) := by decide +kernel
theorem dX11_lookAtFile_97 : decode cX11_lookAtFile 97 = .ok (.aload_n 0, 1) := by decide +kernel
theorem dX11_lookAtFile_98 : decode cX11_lookAtFile 98 = .ok (.getfield 52, 3) := by decide +kernel
theorem dX11_lookAtFile_101 : decode cX11_lookAtFile 101 = .ok (.iload 8, 2) := by decide +kernel
theorem dX11_lookAtFile_103 : decode cX11_lookAtFile 103 = .ok (.invokevirtual 164, 3) := by decide +kernel
theorem dX11_lookAtFile_106 : decode cX11_lookAtFile 106 = .ok (.checkcast 168, 3) := by decide +kernel
theorem dX11_lookAtFile_109 : decode cX11_lookAtFile 109 = .ok (.astore 9, 2) := by decide +kernel
theorem dX11_lookAtFile_111 : decode cX11_lookAtFile 111 = .ok (.aload 9, 2) := by decide +kernel
theorem dX11_lookAtFile_113 : decode cX11_lookAtFile 113 = .ok (.getfield 328, 3) := by decide +kernel
theorem dX11_lookAtFile_116 : decode cX11_lookAtFile 116 = .ok (.lload 4, 2) := by decide +kernel
theorem dX11_lookAtFile_118 : decode cX11_lookAtFile 118 = .ok (.lcmp, 1) := by decide +kernel
theorem dX11_lookAtFile_119 : decode cX11_lookAtFile 119 = .ok (.ifCond .ne 31, 3) := by decide +kernel
theorem dX11_lookAtFile_122 : decode cX11_lookAtFile 122 = .ok (.lload 4, 2) := by decide +kernel
theorem dX11_lookAtFile_124 : decode cX11_lookAtFile 124 = .ok (.lload 6, 2) := by decide +kernel
theorem dX11_lookAtFile_126 : decode cX11_lookAtFile 126 = .ok (.lcmp, 1) := by decide +kernel
theorem dX11_lookAtFile_127 : decode cX11_lookAtFile 127 = .ok (.ifCond .ne 23, 3) := by decide +kernel
theorem dX11_lookAtFile_130 : decode cX11_lookAtFile 130 = .ok (.aload 9, 2) := by decide +kernel
theorem dX11_lookAtFile_132 : decode cX11_lookAtFile 132 = .ok (.getfield 423, 3) := by decide +kernel
theorem dX11_lookAtFile_135 : decode cX11_lookAtFile 135 = .ok (.aload_n 1, 1) := by decide +kernel
theorem dX11_lookAtFile_136 : decode cX11_lookAtFile 136 = .ok (.getfield 382, 3) := by decide +kernel
theorem dX11_lookAtFile_139 : decode cX11_lookAtFile 139 = .ok (.if_acmp .ne 11, 3) := by decide +kernel
theorem dX11_lookAtFile_142 : decode cX11_lookAtFile 142 = .ok (.aload_n 1, 1) := by decide +kernel
theorem dX11_lookAtFile_143 : decode cX11_lookAtFile 143 = .ok (.aload 9, 2) := by decide +kernel
theorem dX11_lookAtFile_145 : decode cX11_lookAtFile 145 = .ok (.putfield 288, 3) := by decide +kernel
theorem dX11_lookAtFile_148 : decode cX11_lookAtFile 148 = .ok (.iconst 0, 1) := by decide +kernel
theorem dX11_lookAtFile_149 : decode cX11_lookAtFile 149 = .ok (.ireturn, 1) := by decide +kernel
theorem dX11_lookAtFile_150 : decode cX11_lookAtFile 150 = .ok (.iinc 8 1, 3) := by decide +kernel
theorem dX11_lookAtFile_153 : decode cX11_lookAtFile 153 = .ok (.goto (-68), 3) := by decide +kernel
theorem dX11_lookAtFile_156 : decode cX11_lookAtFile 156 = .ok (.ldc_w 425, 3) := by decide +kernel
theorem dX11_lookAtFile_159 : decode cX11_lookAtFile 159 = .ok (.ireturn, 1) := by decide +kernel
set_option maxRecDepth 100000 in
set_option maxHeartbeats 4000000 in
theorem c_X11_lookAtFile (l : Launch) (D : va_G) (t : Nat → ClassId) (G : GE) (κ : CS) (h : Nat) (a1 : Option Nat) (a2 : Int32) (post : Int32 → CS → Prop) (hw : F_X11_lookAtFile G h a1 a2 post κ) (sz : Nat) : CMi l D t yX11_lookAtFile cX11_lookAtFile 10 (some .int) 3 78 G κ sz [.ref h, va_rf a1, .int a2] post := by
  refine c_go (by decide) (by cases a1 <;> exact Nat.le_of_ble_eq_true rfl) ?_
  intro p e s m below meth c ls A hF hr hlk hin hAe hH hA hE hl
  unfold cB
  rw [hAe]
  clear hAe
  have hF : FX p m c cX11_lookAtFile 10 s _ RX11 D t := hF
  have hx := hF.1.1
  have hb := hF.1.2.1
  have hl : lv_has ls 10 [(0, .ref h), (1, va_rf a1), (2, .int a2)] := (by have h2 := hl; clear hw; revert h2; cases a1 <;> exact id)
  unfold F_X11_lookAtFile at hw
  refine w_aloadq_n hF dX11_lookAtFile_0 rfl (lv_at hl 1 rfl) ?_
  refine cw_getP (q := a1) hF hH fk_X11_310 dX11_lookAtFile_1 hw (fun z1 hw => ?_)
  refine w_astoreq_n (lv' := [(3, va_rf z1), (0, .ref h), (1, va_rf a1), (2, .int a2)]) hF dX11_lookAtFile_4 rfl hl (by decide) rfl (fun ls hl => ?_)
  refine w_aloadq_n hF dX11_lookAtFile_5 rfl (lv_at hl 2 rfl) ?_
  refine lv_iload_n hx hb dX11_lookAtFile_6 rfl (lv_at hl 3 rfl) ?_
  refine lv_bipush (v := 8) hx hb dX11_lookAtFile_7 (by decide) ?_
  refine cw_cVlq (q := a1) (As := [.int a2, .int 8]) (rest := []) hF hH hA hE mv_X11_394 ci_X0 (by decide) hw (fun b hw sz => c_X0_number l D t G _ b a2 8 _ hw sz) dX11_lookAtFile_9 ⟨Nat.le_of_ble_eq_true rfl, Nat.le_of_ble_eq_true rfl⟩ rfl hl.1 (Nat.le_of_ble_eq_true rfl) rfl (fun z3 κ2 H locs cells slots hw hH => ?_)
  refine lv_lstore (lv' := [(4, .long z3), (3, va_rf z1), (0, .ref h), (1, va_rf a1), (2, .int a2)]) hx hb dX11_lookAtFile_12 hl (by decide) (by generalize z1 = y; cases y <;> rfl) (fun ls hl => ?_)
  refine w_aloadq_n hF dX11_lookAtFile_14 rfl (lv_at hl 3 rfl) ?_
  refine lv_iload_n hx hb dX11_lookAtFile_15 rfl (lv_at hl 4 rfl) ?_
  refine lv_bipush (v := 8) hx hb dX11_lookAtFile_16 (by decide) ?_
  refine lv_iadd hx hb dX11_lookAtFile_18 ?_
  refine w_nmi hw (fun z4 hw => ?_)
  refine lv_bipush (v := 8) hx hb dX11_lookAtFile_19 (by decide) ?_
  refine cw_cVlq (q := a1) (As := [.int z4, .int 8]) (rest := []) hF hH hA hE mv_X11_394 ci_X0 (by decide) hw (fun b hw sz => c_X0_number l D t G _ b z4 8 _ hw sz) dX11_lookAtFile_21 ⟨Nat.le_of_ble_eq_true rfl, Nat.le_of_ble_eq_true rfl⟩ rfl hl.1 (Nat.le_of_ble_eq_true rfl) rfl (fun z6 κ5 H locs cells slots hw hH => ?_)
  refine lv_lstore (lv' := [(6, .long z6), (4, .long z3), (3, va_rf z1), (0, .ref h), (1, va_rf a1), (2, .int a2)]) hx hb dX11_lookAtFile_24 hl (by decide) rfl (fun ls hl => ?_)
  refine w_aloadq_n hF dX11_lookAtFile_26 rfl (lv_at hl 4 rfl) ?_
  refine cw_cViq (q := a1) (As := []) (rest := []) hF hH hA hE mv_X11_353 ci_X0 (by decide) hw (fun b hw sz => c_X0_related l D t G _ b  _ hw sz) dX11_lookAtFile_27 ⟨Nat.le_of_ble_eq_true rfl, Nat.le_of_ble_eq_true rfl⟩ rfl hl.1 (Nat.le_of_ble_eq_true rfl) rfl (fun z8 κ7 H locs cells slots hw hH => ?_)
  obtain ⟨K11, hK12, hw⟩ := jc_open hw
  refine cw_join (K := K11) 74 (fun (x9 : Int64 × Int64) => [(6, .long x9.1), (4, .long x9.2), (3, va_rf z1), (1, va_rf a1), (0, .ref h)]) (fun (x9 : Int64 × Int64) => []) hl hH (fun x9 κ10 ls H locs cells slots hl hw hH => ?_) (fun jn13 => ?_)
  · have hw := hK12 x9 κ10 hw
    have hl : lv_has ls 10 [(6, .long x9.1), (4, .long x9.2), (3, va_rf z1), (1, va_rf a1), (0, .ref h)] := hl
    refine w_aloadq_n hF dX11_lookAtFile_74 rfl (lv_at hl 2 rfl) ?_
    refine lv_lload hx hb dX11_lookAtFile_75 (lv_at hl 1 rfl) ?_
    refine lv_lload hx hb dX11_lookAtFile_77 (lv_at hl 0 rfl) ?_
    refine cw_cVvq (q := z1) (As := [.long x9.2, .long x9.1]) (rest := []) hF hH hA hE mv_X11_331 ci_X2 (by decide) hw (fun b hw sz => c_X2_tellFile l D t G _ b x9.2 x9.1 _ hw sz) dX11_lookAtFile_79 ⟨Nat.le_of_ble_eq_true rfl, Nat.le_of_ble_eq_true rfl⟩ rfl hl.1 (Nat.le_of_ble_eq_true rfl) rfl (fun κ14 H locs cells slots hw hH => ?_)
    refine lv_iconst (v := 0) hx hb dX11_lookAtFile_82 (by decide) ?_
    refine lv_istore (lv' := [(8, .int 0), (6, .long x9.1), (4, .long x9.2), (3, va_rf z1), (1, va_rf a1), (0, .ref h)]) hx hb dX11_lookAtFile_83 hl (by decide) rfl (fun ls hl => ?_)
    have hl : lv_has ls 10 [(8, .int 0), (6, .long x9.1), (4, .long x9.2), (1, va_rf a1), (0, .ref h)] := lv_sub hl [0, 1, 2, 4, 5] rfl
    refine cw_loop (β := Int32) (fun x16 => [(8, .int x16), (6, .long x9.1), (4, .long x9.2), (1, va_rf a1), (0, .ref h)]) 0 hl hw hH (fun K18 x16 κ17 ls H locs cells slots hl hw hH ih19 => ?_)
    have hl : lv_has ls 10 [(8, .int x16), (6, .long x9.1), (4, .long x9.2), (1, va_rf a1), (0, .ref h)] := hl
    refine lv_iload hx hb dX11_lookAtFile_85 (lv_at hl 0 rfl) ?_
    refine lv_aload_n hx hb dX11_lookAtFile_87 rfl (lv_at hl 4 rfl) ?_
    refine cw_getPr (a := h) hF hH fk_X11_52 dX11_lookAtFile_88 hw (fun z20 hw => ?_)
    refine cw_cViq (q := z20) (As := []) (rest := [.int x16]) hF hH hA hE mv_X11_161 ci_Jx4a65c (by decide) hw (fun b hw sz => c_Jx4a65c_size_8abf5 l D t G _ b  _ hw sz) dX11_lookAtFile_91 ⟨Nat.le_of_ble_eq_true rfl, Nat.le_of_ble_eq_true rfl⟩ rfl hl.1 (Nat.le_of_ble_eq_true rfl) rfl (fun z22 κ21 H locs cells slots hw hH => ?_)
    refine w_icmp_ge (tgt := 156) hF dX11_lookAtFile_94 rfl hw (fun hw => ?_) (fun hw => ?_)
    · refine lv_ldcw (v := (-1073741528)) hx hb hF.1.2.2.2.1 (hF.1.2.2.2.2 _ (wc_26 38 rfl)) dX11_lookAtFile_156 ?_
      exact cw_reti hF hH ⟨rfl, rfl⟩ hr rfl hlk dX11_lookAtFile_159 hw
    · refine lv_aload_n hx hb dX11_lookAtFile_97 rfl (lv_at hl 4 rfl) ?_
      refine cw_getPr (a := h) hF hH fk_X11_52 dX11_lookAtFile_98 hw (fun z23 hw => ?_)
      refine lv_iload hx hb dX11_lookAtFile_101 (lv_at hl 0 rfl) ?_
      refine cw_cVqq (q := z23) (As := [.int x16]) (rest := []) hF hH hA hE mv_X11_164 ci_Jx4a65c (by decide) hw (fun b hw sz => c_Jx4a65c_get_915e3 l D t G _ b x16 _ hw sz) dX11_lookAtFile_103 ⟨Nat.le_of_ble_eq_true rfl, Nat.le_of_ble_eq_true rfl⟩ rfl hl.1 (Nat.le_of_ble_eq_true rfl) rfl (fun z25 κ24 H locs cells slots hw hH => ?_)
      refine cw_cast (q := z25) hF hH ci_X5 (by decide) (wc_16 7 rfl) (by decide) dX11_lookAtFile_106 hw (fun hw => ?_)
      refine w_astoreq (lv' := [(9, va_rf z25), (8, .int x16), (6, .long x9.1), (4, .long x9.2), (1, va_rf a1), (0, .ref h)]) hF dX11_lookAtFile_109 hl (by decide) rfl (fun ls hl => ?_)
      refine w_aloadq hF dX11_lookAtFile_111 (lv_at hl 0 rfl) ?_
      refine cw_getJ (q := z25) hF hH fk_X11_328 dX11_lookAtFile_113 hw (fun z26 hw => ?_)
      refine lv_lload hx hb dX11_lookAtFile_116 (lv_at hl 3 rfl) ?_
      obtain ⟨K29, hK30, hw⟩ := jc_open hw
      refine cw_join (K := K29) 150 (fun (x27 : Unit) => [(8, .int x16), (6, .long x9.1), (4, .long x9.2), (1, va_rf a1), (0, .ref h)]) (fun (x27 : Unit) => []) hl hH (fun x27 κ28 ls H locs cells slots hl hw hH => ?_) (fun jn31 => ?_)
      · have hw := hK30 x27 κ28 hw
        have hl : lv_has ls 10 [(8, .int x16), (6, .long x9.1), (4, .long x9.2), (1, va_rf a1), (0, .ref h)] := hl
        obtain ⟨z32, ez32⟩ : ∃ z : Int32, z = x16 + 1 := ⟨_, rfl⟩
        have hw := hw z32 ez32
        refine lv_iinc (lv' := [(8, .int z32), (6, .long x9.1), (4, .long x9.2), (1, va_rf a1), (0, .ref h)]) (k := 0) (v := z32) hx hb dX11_lookAtFile_150 hl rfl ez32.symm (by decide) rfl (fun ls hl => ?_)
        refine lv_goto (tgt := 85) hx hb dX11_lookAtFile_153 rfl ?_
        exact ih19 z32 κ28 ls _ _ _ _ hl hw hH
      · skip
        refine w_lif_ne (tgt := 150) hF dX11_lookAtFile_118 dX11_lookAtFile_119 rfl hw (fun hw => ?_) (fun hw => ?_)
        · have hl : lv_has ls 10 [(8, .int x16), (6, .long x9.1), (4, .long x9.2), (1, va_rf a1), (0, .ref h)] := lv_sub hl [1, 2, 3, 4, 5] rfl
          exact jn31 () κ24 ls _ _ _ _ hl hw hH
        · refine lv_lload hx hb dX11_lookAtFile_122 (lv_at hl 3 rfl) ?_
          refine lv_lload hx hb dX11_lookAtFile_124 (lv_at hl 2 rfl) ?_
          refine w_lif_ne (tgt := 150) hF dX11_lookAtFile_126 dX11_lookAtFile_127 rfl hw (fun hw => ?_) (fun hw => ?_)
          · have hl : lv_has ls 10 [(8, .int x16), (6, .long x9.1), (4, .long x9.2), (1, va_rf a1), (0, .ref h)] := lv_sub hl [1, 2, 3, 4, 5] rfl
            exact jn31 () κ24 ls _ _ _ _ hl hw hH
          · refine w_aloadq hF dX11_lookAtFile_130 (lv_at hl 0 rfl) ?_
            refine cw_getP (q := z25) hF hH fk_X11_423 dX11_lookAtFile_132 hw (fun z33 hw => ?_)
            refine w_aloadq_n hF dX11_lookAtFile_135 rfl (lv_at hl 4 rfl) ?_
            refine cw_getP (q := a1) hF hH fk_X11_382 dX11_lookAtFile_136 hw (fun z34 hw => ?_)
            refine cw_acmp_ne (rx := z33) (ry := z34) (tgt := 150) hF dX11_lookAtFile_139 rfl hw (fun hw => ?_) (fun hw => ?_)
            · have hl : lv_has ls 10 [(8, .int x16), (6, .long x9.1), (4, .long x9.2), (1, va_rf a1), (0, .ref h)] := lv_sub hl [1, 2, 3, 4, 5] rfl
              exact jn31 () κ24 ls _ _ _ _ hl hw hH
            · refine w_aloadq_n hF dX11_lookAtFile_142 rfl (lv_at hl 4 rfl) ?_
              refine w_aloadq hF dX11_lookAtFile_143 (lv_at hl 0 rfl) ?_
              refine cw_putP (q := a1) (v := z25) hF hH fk_X11_288 dX11_lookAtFile_145 rfl rfl hw (fun κ35 H locs cells slots hw hH => ?_)
              refine lv_iconst (v := 0) hx hb dX11_lookAtFile_148 (by decide) ?_
              exact cw_reti hF hH ⟨rfl, rfl⟩ hr rfl hlk dX11_lookAtFile_149 hw
  · skip
    refine w_if_eq (tgt := 74) hF dX11_lookAtFile_30 rfl hw (fun hw => ?_) (fun hw => ?_)
    · have hl : lv_has ls 10 [(6, .long z6), (4, .long z3), (3, va_rf z1), (1, va_rf a1), (0, .ref h)] := lv_sub hl [0, 1, 2, 4, 3] rfl
      exact jn13 (z6, z3) κ7 ls _ _ _ _ hl hw hH
    · refine lv_lload hx hb dX11_lookAtFile_33 (lv_at hl 1 rfl) ?_
      refine lv_ldc2 (v := (-1)) hx hb hF.1.2.2.2.1 (hF.1.2.2.2.2 _ (wc_21 32 rfl)) dX11_lookAtFile_35 ?_
      refine w_lif_ne (tgt := 74) hF dX11_lookAtFile_38 dX11_lookAtFile_39 rfl hw (fun hw => ?_) (fun hw => ?_)
      · have hl : lv_has ls 10 [(6, .long z6), (4, .long z3), (3, va_rf z1), (1, va_rf a1), (0, .ref h)] := lv_sub hl [0, 1, 2, 4, 3] rfl
        exact jn13 (z6, z3) κ7 ls _ _ _ _ hl hw hH
      · refine lv_lload hx hb dX11_lookAtFile_42 (lv_at hl 0 rfl) ?_
        refine lv_ldc2 (v := (-1)) hx hb hF.1.2.2.2.1 (hF.1.2.2.2.2 _ (wc_21 32 rfl)) dX11_lookAtFile_44 ?_
        refine w_lif_ne (tgt := 74) hF dX11_lookAtFile_47 dX11_lookAtFile_48 rfl hw (fun hw => ?_) (fun hw => ?_)
        · have hl : lv_has ls 10 [(6, .long z6), (4, .long z3), (3, va_rf z1), (1, va_rf a1), (0, .ref h)] := lv_sub hl [0, 1, 2, 4, 3] rfl
          exact jn13 (z6, z3) κ7 ls _ _ _ _ hl hw hH
        · refine w_aloadq_n hF dX11_lookAtFile_51 rfl (lv_at hl 4 rfl) ?_
          refine cw_getI (q := a1) hF hH fk_X11_414 dX11_lookAtFile_52 hw (fun z36 hw => ?_)
          refine w_if_ne (tgt := 62) hF dX11_lookAtFile_55 rfl hw (fun hw => ?_) (fun hw => ?_)
          · refine w_aloadq_n hF dX11_lookAtFile_62 rfl (lv_at hl 2 rfl) ?_
            refine cw_getJ (q := z1) hF hH fk_X11_417 dX11_lookAtFile_63 hw (fun z37 hw => ?_)
            refine lv_lstore (lv' := [(4, .long z37), (6, .long z6), (3, va_rf z1), (0, .ref h), (1, va_rf a1), (2, .int a2)]) hx hb dX11_lookAtFile_66 hl (by decide) (by generalize z1 = y; cases y <;> rfl) (fun ls hl => ?_)
            refine w_aloadq_n hF dX11_lookAtFile_68 rfl (lv_at hl 2 rfl) ?_
            refine cw_getJ (q := z1) hF hH fk_X11_420 dX11_lookAtFile_69 hw (fun z38 hw => ?_)
            refine lv_lstore (lv' := [(6, .long z38), (4, .long z37), (3, va_rf z1), (0, .ref h), (1, va_rf a1), (2, .int a2)]) hx hb dX11_lookAtFile_72 hl (by decide) rfl (fun ls hl => ?_)
            have hl : lv_has ls 10 [(6, .long z38), (4, .long z37), (3, va_rf z1), (1, va_rf a1), (0, .ref h)] := lv_sub hl [0, 1, 2, 4, 3] rfl
            exact jn13 (z38, z37) κ7 ls _ _ _ _ hl hw hH
          · refine lv_ldcw (v := (-1073741811)) hx hb hF.1.2.2.2.1 (hF.1.2.2.2.2 _ (wc_16 24 rfl)) dX11_lookAtFile_58 ?_
            exact cw_reti hF hH ⟨rfl, rfl⟩ hr rfl hlk dX11_lookAtFile_61 hw
set_option maxRecDepth 100000 in
def F_X11_look (G : GE) (h : Nat) (a1 : Option Nat) (post : Int32 → CS → Prop) (κ : CS) : Prop := ∃ b : Nat, a1 = some b ∧ (b ∈ sL κ.1 ∧ sK κ.1 b = 8) ∧ ∀ z1 : Int32, z1 = sI κ.1 b 5 → jc (fun (K4 : Int32 → CS → Prop) => jc (fun (K59 : Unit → CS → Prop) => ((z1.toInt = 0) → K59 () κ) ∧ ((¬ z1.toInt = 0) → ((z1.toInt = (1 : Int32).toInt) → K59 () κ) ∧ ((¬ z1.toInt = (1 : Int32).toInt) → ((z1.toInt = (13 : Int32).toInt) → K59 () κ) ∧ ((¬ z1.toInt = (13 : Int32).toInt) → ((¬ z1.toInt = (12 : Int32).toInt) → K4 0 κ) ∧ ((z1.toInt = (12 : Int32).toInt) → K59 () κ))))) (fun (x57 : Unit) (κ58 : CS) => K4 1 κ58)) (fun (x2 : Int32) (κ3 : CS) => jc (fun (K9 : Unit → CS → Prop) => ((¬ x2.toInt = 0) → K9 () κ3) ∧ ((x2.toInt = 0) → (h ∈ sL κ3.1 ∧ sK κ3.1 h = 1) ∧ F_X11_sessionOf G h a1 (fun (z54 : Option Nat) (κ53 : CS) => ∃ b : Nat, a1 = some b ∧ (b ∈ sL κ53.1 ∧ sK κ53.1 b = 8) ∧ ∀ κ55 : CS, κ55 = (h_uP κ53.1 b 13 z54, κ53.2) → ∃ b : Nat, a1 = some b ∧ (b ∈ sL κ55.1 ∧ sK κ55.1 b = 8) ∧ ∀ z56 : Option Nat, z56 = sP κ55.1 b 13 → ((¬ z56 = none) → K9 () κ55) ∧ ((z56 = none) → post (-1073741309) κ55)) κ3)) (fun (x7 : Unit) (κ8 : CS) => jc (fun (K14 : Unit → CS → Prop) => ((¬ x2.toInt = 0) → K14 () κ8) ∧ ((x2.toInt = 0) → ((z1.toInt = (2 : Int32).toInt) → K14 () κ8) ∧ ((¬ z1.toInt = (2 : Int32).toInt) → ((z1.toInt = (3 : Int32).toInt) → K14 () κ8) ∧ ((¬ z1.toInt = (3 : Int32).toInt) → (h ∈ sL κ8.1 ∧ sK κ8.1 h = 1) ∧ F_X11_treeOf G h a1 (fun (z50 : Option Nat) (κ49 : CS) => ∃ b : Nat, a1 = some b ∧ (b ∈ sL κ49.1 ∧ sK κ49.1 b = 8) ∧ ∀ κ51 : CS, κ51 = (h_uP κ49.1 b 14 z50, κ49.2) → ∃ b : Nat, a1 = some b ∧ (b ∈ sL κ51.1 ∧ sK κ51.1 b = 8) ∧ ∀ z52 : Option Nat, z52 = sP κ51.1 b 14 → ((¬ z52 = none) → K14 () κ51) ∧ ((z52 = none) → post (-1073741623) κ51)) κ8)))) (fun (x12 : Unit) (κ13 : CS) => jc (fun (K19 : Unit → CS → Prop) => ((z1.toInt < 0) → K19 () κ13) ∧ ((0 ≤ z1.toInt) → ∀ z22 : Int32, z22 = 19 → ((z22.toInt ≤ z1.toInt) → K19 () κ13) ∧ ((z1.toInt < z22.toInt) → ∀ z23 : Int32, z23 = 19 → ((z23.toInt ≤ z1.toInt) → K19 () κ13) ∧ ((z1.toInt < z23.toInt) → (0 ≤ z1.toInt ∧ z1.toInt < 19) ∧ ∀ z24 : Int32, z24 = bodyF z1.toInt.toNat → ((¬ z24.toInt = 0) → (0 ≤ z1.toInt ∧ z1.toInt < 19) ∧ ∀ z25 : Int32, z25 = bodyF z1.toInt.toNat → ∃ b : Nat, a1 = some b ∧ (b ∈ sL κ13.1 ∧ sK κ13.1 b = 8) ∧ ∀ z26 : Int32, z26 = sI κ13.1 b 2 → ∀ z27 : Int32, z27 = 64 + z25 → ∀ z28 : Int32, z28 = z25 - z25 / 2 * 2 → ∀ z29 : Int32, z29 = z27 - z28 → jc (fun (K32 : Unit → CS → Prop) => ((z26.toInt < z29.toInt) → K32 () κ13) ∧ ((z29.toInt ≤ z26.toInt) → ∃ b : Nat, a1 = some b ∧ (b ∈ sL κ13.1 ∧ sK κ13.1 b = 8) ∧ F_X0_number G b 64 2 (fun (z36 : Int64) (κ35 : CS) => ∀ z37 : Int64, z37 = (z25 : Int32).toInt64 → ((¬ z36.toInt = z37.toInt) → K32 () κ35) ∧ ((z36.toInt = z37.toInt) → ∃ b : Nat, a1 = some b ∧ (b ∈ sL κ35.1 ∧ sK κ35.1 b = 8) ∧ F_X0_holdsWhatItTells G b  (fun (z39 : Int32) (κ38 : CS) => ((¬ z39.toInt = 0) → (0 ≤ z1.toInt ∧ z1.toInt < 19) ∧ ∀ z40 : Int32, z40 = fileF z1.toInt.toNat → jc (fun (K43 : Int32 → CS → Prop) => ((¬ z40.toInt = 0) → (0 ≤ z1.toInt ∧ z1.toInt < 19) ∧ ∀ z46 : Int32, z46 = fileF z1.toInt.toNat → (h ∈ sL κ38.1 ∧ sK κ38.1 h = 1) ∧ F_X11_lookAtFile G h a1 z46 (fun (z48 : Int32) (κ47 : CS) => K43 z48 κ47) κ38) ∧ ((z40.toInt = 0) → K43 0 κ38)) (fun (x41 : Int32) (κ42 : CS) => post x41 κ42)) ∧ ((z39.toInt = 0) → K32 () κ38)) κ35)) κ13)) (fun (x30 : Unit) (κ31 : CS) => post (-1073741811) κ31)) ∧ ((z24.toInt = 0) → K19 () κ13))))) (fun (x17 : Unit) (κ18 : CS) => post (-1073741637) κ18))))
theorem dX11_look_0 : decode cX11_look 0 = .ok (.aload_n 1, 1) := by decide +kernel
theorem dX11_look_1 : decode cX11_look 1 = .ok (.getfield 271, 3) := by decide +kernel
theorem dX11_look_4 : decode cX11_look 4 = .ok (.istore_n 2, 1) := by decide +kernel
theorem dX11_look_5 : decode cX11_look 5 = .ok (.iload_n 2, 1) := by decide +kernel
theorem dX11_look_6 : decode cX11_look 6 = .ok (.ifCond .eq 20, 3) := by decide +kernel
theorem dX11_look_9 : decode cX11_look 9 = .ok (.iload_n 2, 1) := by decide +kernel
theorem dX11_look_10 : decode cX11_look 10 = .ok (.iconst 1, 1) := by decide +kernel
theorem dX11_look_11 : decode cX11_look 11 = .ok (.if_icmp .eq 15, 3) := by decide +kernel
theorem dX11_look_14 : decode cX11_look 14 = .ok (.iload_n 2, 1) := by decide +kernel
theorem dX11_look_15 : decode cX11_look 15 = .ok (.bipush 13, 2) := by decide +kernel
theorem dX11_look_17 : decode cX11_look 17 = .ok (.if_icmp .eq 9, 3) := by decide +kernel
theorem dX11_look_20 : decode cX11_look 20 = .ok (.iload_n 2, 1) := by decide +kernel
theorem dX11_look_21 : decode cX11_look 21 = .ok (.bipush 12, 2) := by decide +kernel
theorem dX11_look_23 : decode cX11_look 23 = .ok (.if_icmp .ne 7, 3) := by decide +kernel
theorem dX11_look_26 : decode cX11_look 26 = .ok (.iconst 1, 1) := by decide +kernel
theorem dX11_look_27 : decode cX11_look 27 = .ok (.goto 4, 3) := by decide +kernel
theorem dX11_look_30 : decode cX11_look 30 = .ok (.iconst 0, 1) := by decide +kernel
theorem dX11_look_31 : decode cX11_look 31 = .ok (.istore_n 3, 1) := by decide +kernel
theorem dX11_look_32 : decode cX11_look 32 = .ok (.iload_n 3, 1) := by decide +kernel
theorem dX11_look_33 : decode cX11_look 33 = .ok (.ifCond .ne 23, 3) := by decide +kernel
theorem dX11_look_36 : decode cX11_look 36 = .ok (.aload_n 1, 1) := by decide +kernel
theorem dX11_look_37 : decode cX11_look 37 = .ok (.aload_n 0, 1) := by decide +kernel
theorem dX11_look_38 : decode cX11_look 38 = .ok (.aload_n 1, 1) := by decide +kernel
theorem dX11_look_39 : decode cX11_look 39 = .ok (.invokevirtual 369, 3) := by decide +kernel
theorem dX11_look_42 : decode cX11_look 42 = .ok (.putfield 373, 3) := by decide +kernel
theorem dX11_look_45 : decode cX11_look 45 = .ok (.aload_n 1, 1) := by decide +kernel
theorem dX11_look_46 : decode cX11_look 46 = .ok (.getfield 373, 3) := by decide +kernel
theorem dX11_look_49 : decode cX11_look 49 = .ok (.ifnonnull 7, 3) := by decide +kernel
theorem dX11_look_52 : decode cX11_look 52 = .ok (.ldc_w 377, 3) := by decide +kernel
theorem dX11_look_55 : decode cX11_look 55 = .ok (.ireturn, 1) := by decide +kernel
theorem dX11_look_56 : decode cX11_look 56 = .ok (.iload_n 3, 1) := by decide +kernel
theorem dX11_look_57 : decode cX11_look 57 = .ok (.ifCond .ne 33, 3) := by decide +kernel
theorem dX11_look_60 : decode cX11_look 60 = .ok (.iload_n 2, 1) := by decide +kernel
theorem dX11_look_61 : decode cX11_look 61 = .ok (.iconst 2, 1) := by decide +kernel
theorem dX11_look_62 : decode cX11_look 62 = .ok (.if_icmp .eq 28, 3) := by decide +kernel
theorem dX11_look_65 : decode cX11_look 65 = .ok (.iload_n 2, 1) := by decide +kernel
theorem dX11_look_66 : decode cX11_look 66 = .ok (.iconst 3, 1) := by decide +kernel
theorem dX11_look_67 : decode cX11_look 67 = .ok (.if_icmp .eq 23, 3) := by decide +kernel
theorem dX11_look_70 : decode cX11_look 70 = .ok (.aload_n 1, 1) := by decide +kernel
theorem dX11_look_71 : decode cX11_look 71 = .ok (.aload_n 0, 1) := by decide +kernel
theorem dX11_look_72 : decode cX11_look 72 = .ok (.aload_n 1, 1) := by decide +kernel
theorem dX11_look_73 : decode cX11_look 73 = .ok (.invokevirtual 378, 3) := by decide +kernel
theorem dX11_look_76 : decode cX11_look 76 = .ok (.putfield 382, 3) := by decide +kernel
theorem dX11_look_79 : decode cX11_look 79 = .ok (.aload_n 1, 1) := by decide +kernel
theorem dX11_look_80 : decode cX11_look 80 = .ok (.getfield 382, 3) := by decide +kernel
theorem dX11_look_83 : decode cX11_look 83 = .ok (.ifnonnull 7, 3) := by decide +kernel
theorem dX11_look_86 : decode cX11_look 86 = .ok (.ldc_w 386, 3) := by decide +kernel
theorem dX11_look_89 : decode cX11_look 89 = .ok (.ireturn, 1) := by decide +kernel
theorem dX11_look_90 : decode cX11_look 90 = .ok (.iload_n 2, 1) := by decide +kernel
theorem dX11_look_91 : decode cX11_look 91 = .ok (.ifCond .lt 27, 3) := by decide +kernel
theorem dX11_look_94 : decode cX11_look 94 = .ok (.iload_n 2, 1) := by decide +kernel
theorem dX11_look_95 : decode cX11_look 95 = .ok (.getstatic 387, 3) := by decide +kernel
theorem dX11_look_98 : decode cX11_look 98 = .ok (.arraylength, 1) := by decide +kernel
theorem dX11_look_99 : decode cX11_look 99 = .ok (.if_icmp .ge 19, 3) := by decide +kernel
theorem dX11_look_102 : decode cX11_look 102 = .ok (.iload_n 2, 1) := by decide +kernel
theorem dX11_look_103 : decode cX11_look 103 = .ok (.getstatic 390, 3) := by decide +kernel
theorem dX11_look_106 : decode cX11_look 106 = .ok (.arraylength, 1) := by decide +kernel
theorem dX11_look_107 : decode cX11_look 107 = .ok (.if_icmp .ge 11, 3) := by decide +kernel
theorem dX11_look_110 : decode cX11_look 110 = .ok (.getstatic 387, 3) := by decide +kernel
theorem dX11_look_113 : decode cX11_look 113 = .ok (.iload_n 2, 1) := by decide +kernel
theorem dX11_look_114 : decode cX11_look 114 = .ok (.iaload, 1) := by decide +kernel
theorem dX11_look_115 : decode cX11_look 115 = .ok (.ifCond .ne 7, 3) := by decide +kernel
theorem dX11_look_118 : decode cX11_look 118 = .ok (.ldc_w 393, 3) := by decide +kernel
theorem dX11_look_121 : decode cX11_look 121 = .ok (.ireturn, 1) := by decide +kernel
theorem dX11_look_122 : decode cX11_look 122 = .ok (.getstatic 387, 3) := by decide +kernel
theorem dX11_look_125 : decode cX11_look 125 = .ok (.iload_n 2, 1) := by decide +kernel
theorem dX11_look_126 : decode cX11_look 126 = .ok (.iaload, 1) := by decide +kernel
theorem dX11_look_127 : decode cX11_look 127 = .ok (.istore 4, 2) := by decide +kernel
theorem dX11_look_129 : decode cX11_look 129 = .ok (.aload_n 1, 1) := by decide +kernel
theorem dX11_look_130 : decode cX11_look 130 = .ok (.getfield 306, 3) := by decide +kernel
theorem dX11_look_133 : decode cX11_look 133 = .ok (.bipush 64, 2) := by decide +kernel
theorem dX11_look_135 : decode cX11_look 135 = .ok (.iload 4, 2) := by decide +kernel
theorem dX11_look_137 : decode cX11_look 137 = .ok (.iadd, 1) := by decide +kernel
theorem dX11_look_138 : decode cX11_look 138 = .ok (.iload 4, 2) := by decide +kernel
theorem dX11_look_140 : decode cX11_look 140 = .ok (.iconst 2, 1) := by decide +kernel
theorem dX11_look_141 : decode cX11_look 141 = .ok (.irem, 1) := by decide +kernel
theorem dX11_look_142 : decode cX11_look 142 = .ok (.isub, 1) := by decide +kernel
theorem dX11_look_143 : decode cX11_look 143 = .ok (.if_icmp .lt 24, 3) := by decide +kernel
theorem dX11_look_146 : decode cX11_look 146 = .ok (.aload_n 1, 1) := by decide +kernel
theorem dX11_look_147 : decode cX11_look 147 = .ok (.bipush 64, 2) := by decide +kernel
theorem dX11_look_149 : decode cX11_look 149 = .ok (.iconst 2, 1) := by decide +kernel
theorem dX11_look_150 : decode cX11_look 150 = .ok (.invokevirtual 394, 3) := by decide +kernel
theorem dX11_look_153 : decode cX11_look 153 = .ok (.iload 4, 2) := by decide +kernel
theorem dX11_look_155 : decode cX11_look 155 = .ok (.i2l, 1) := by decide +kernel
theorem dX11_look_156 : decode cX11_look 156 = .ok (.lcmp, 1) := by decide +kernel
theorem dX11_look_157 : decode cX11_look 157 = .ok (.ifCond .ne 10, 3) := by decide +kernel
theorem dX11_look_160 : decode cX11_look 160 = .ok (.aload_n 1, 1) := by decide +kernel
theorem dX11_look_161 : decode cX11_look 161 = .ok (.invokevirtual 395, 3) := by decide +kernel
theorem dX11_look_164 : decode cX11_look 164 = .ok (.ifCond .ne 7, 3) := by decide +kernel
theorem dX11_look_167 : decode cX11_look 167 = .ok (.ldc_w 398, 3) := by decide +kernel
theorem dX11_look_170 : decode cX11_look 170 = .ok (.ireturn, 1) := by decide +kernel
theorem dX11_look_171 : decode cX11_look 171 = .ok (.getstatic 390, 3) := by decide +kernel
theorem dX11_look_174 : decode cX11_look 174 = .ok (.iload_n 2, 1) := by decide +kernel
theorem dX11_look_175 : decode cX11_look 175 = .ok (.iaload, 1) := by decide +kernel
theorem dX11_look_176 : decode cX11_look 176 = .ok (.ifCond .ne 7, 3) := by decide +kernel
theorem dX11_look_179 : decode cX11_look 179 = .ok (.iconst 0, 1) := by decide +kernel
theorem dX11_look_180 : decode cX11_look 180 = .ok (.goto 13, 3) := by decide +kernel
theorem dX11_look_183 : decode cX11_look 183 = .ok (.aload_n 0, 1) := by decide +kernel
theorem dX11_look_184 : decode cX11_look 184 = .ok (.aload_n 1, 1) := by decide +kernel
theorem dX11_look_185 : decode cX11_look 185 = .ok (.getstatic 390, 3) := by decide +kernel
theorem dX11_look_188 : decode cX11_look 188 = .ok (.iload_n 2, 1) := by decide +kernel
theorem dX11_look_189 : decode cX11_look 189 = .ok (.iaload, 1) := by decide +kernel
theorem dX11_look_190 : decode cX11_look 190 = .ok (.invokevirtual 399, 3) := by decide +kernel
theorem dX11_look_193 : decode cX11_look 193 = .ok (.ireturn, 1) := by decide +kernel
set_option maxRecDepth 100000 in
set_option maxHeartbeats 4000000 in
theorem c_X11_look (l : Launch) (D : va_G) (t : Nat → ClassId) (G : GE) (κ : CS) (h : Nat) (a1 : Option Nat) (post : Int32 → CS → Prop) (hw : F_X11_look G h a1 post κ) (sz : Nat) : CMi l D t yX11_look cX11_look 5 (some .int) 4 107 G κ sz [.ref h, va_rf a1] post := by
  refine c_go (by decide) (by cases a1 <;> exact Nat.le_of_ble_eq_true rfl) ?_
  intro p e s m below meth c ls A hF hr hlk hin hAe hH hA hE hl
  unfold cB
  rw [hAe]
  clear hAe
  have hF : FX p m c cX11_look 5 s _ RX11 D t := hF
  have hx := hF.1.1
  have hb := hF.1.2.1
  have hl : lv_has ls 5 [(0, .ref h), (1, va_rf a1)] := (by have h2 := hl; clear hw; revert h2; cases a1 <;> exact id)
  unfold F_X11_look at hw
  refine w_aloadq_n hF dX11_look_0 rfl (lv_at hl 1 rfl) ?_
  refine cw_getI (q := a1) hF hH fk_X11_271 dX11_look_1 hw (fun z1 hw => ?_)
  refine lv_istore_n (lv' := [(2, .int z1), (0, .ref h), (1, va_rf a1)]) hx hb dX11_look_4 rfl hl (by decide) (by generalize a1 = y; cases y <;> rfl) (fun ls hl => ?_)
  refine lv_iload_n hx hb dX11_look_5 rfl (lv_at hl 0 rfl) ?_
  obtain ⟨K4, hK5, hw⟩ := jc_open hw
  refine cw_join (K := K4) 31 (fun (x2 : Int32) => [(2, .int z1), (1, va_rf a1), (0, .ref h)]) (fun (x2 : Int32) => [.int x2]) hl hH (fun x2 κ3 ls H locs cells slots hl hw hH => ?_) (fun jn6 => ?_)
  · have hw := hK5 x2 κ3 hw
    have hl : lv_has ls 5 [(2, .int z1), (1, va_rf a1), (0, .ref h)] := hl
    refine lv_istore_n (lv' := [(3, .int x2), (2, .int z1), (1, va_rf a1), (0, .ref h)]) hx hb dX11_look_31 rfl hl (by decide) rfl (fun ls hl => ?_)
    refine lv_iload_n hx hb dX11_look_32 rfl (lv_at hl 0 rfl) ?_
    obtain ⟨K9, hK10, hw⟩ := jc_open hw
    refine cw_join (K := K9) 56 (fun (x7 : Unit) => [(3, .int x2), (2, .int z1), (1, va_rf a1), (0, .ref h)]) (fun (x7 : Unit) => []) hl hH (fun x7 κ8 ls H locs cells slots hl hw hH => ?_) (fun jn11 => ?_)
    · have hw := hK10 x7 κ8 hw
      have hl : lv_has ls 5 [(3, .int x2), (2, .int z1), (1, va_rf a1), (0, .ref h)] := hl
      refine lv_iload_n hx hb dX11_look_56 rfl (lv_at hl 0 rfl) ?_
      obtain ⟨K14, hK15, hw⟩ := jc_open hw
      refine cw_join (K := K14) 90 (fun (x12 : Unit) => [(2, .int z1), (1, va_rf a1), (0, .ref h)]) (fun (x12 : Unit) => []) hl hH (fun x12 κ13 ls H locs cells slots hl hw hH => ?_) (fun jn16 => ?_)
      · have hw := hK15 x12 κ13 hw
        have hl : lv_has ls 5 [(2, .int z1), (1, va_rf a1), (0, .ref h)] := hl
        refine lv_iload_n hx hb dX11_look_90 rfl (lv_at hl 0 rfl) ?_
        obtain ⟨K19, hK20, hw⟩ := jc_open hw
        refine cw_join (K := K19) 118 (fun (x17 : Unit) => []) (fun (x17 : Unit) => []) hl hH (fun x17 κ18 ls H locs cells slots hl hw hH => ?_) (fun jn21 => ?_)
        · have hw := hK20 x17 κ18 hw
          have hl : lv_has ls 5 [] := hl
          refine lv_ldcw (v := (-1073741637)) hx hb hF.1.2.2.2.1 (hF.1.2.2.2.2 _ (wc_26 29 rfl)) dX11_look_118 ?_
          exact cw_reti hF hH ⟨rfl, rfl⟩ hr rfl hlk dX11_look_121 hw
        · skip
          refine w_if_lt (tgt := 118) hF dX11_look_91 rfl hw (fun hw => ?_) (fun hw => ?_)
          · have hl : lv_has ls 5 [] := lv_sub hl [] rfl
            exact jn21 () κ13 ls _ _ _ _ hl hw hH
          · refine lv_iload_n hx hb dX11_look_94 rfl (lv_at hl 0 rfl) ?_
            refine cw_getsB hF hH hE (wc_26 27 rfl) dX11_look_95 ?_
            refine cw_lnBody hF hH hE dX11_look_98 hw (fun z22 hw => ?_)
            refine w_icmp_ge (tgt := 118) hF dX11_look_99 rfl hw (fun hw => ?_) (fun hw => ?_)
            · have hl : lv_has ls 5 [] := lv_sub hl [] rfl
              exact jn21 () κ13 ls _ _ _ _ hl hw hH
            · refine lv_iload_n hx hb dX11_look_102 rfl (lv_at hl 0 rfl) ?_
              refine cw_getsF hF hH hE (wc_26 28 rfl) dX11_look_103 ?_
              refine cw_lnFile hF hH hE dX11_look_106 hw (fun z23 hw => ?_)
              refine w_icmp_ge (tgt := 118) hF dX11_look_107 rfl hw (fun hw => ?_) (fun hw => ?_)
              · have hl : lv_has ls 5 [] := lv_sub hl [] rfl
                exact jn21 () κ13 ls _ _ _ _ hl hw hH
              · refine cw_getsB hF hH hE (wc_26 27 rfl) dX11_look_110 ?_
                refine lv_iload_n hx hb dX11_look_113 rfl (lv_at hl 0 rfl) ?_
                refine cw_ldBody hF hH hE dX11_look_114 hw (fun z24 hw => ?_)
                refine w_if_ne (tgt := 122) hF dX11_look_115 rfl hw (fun hw => ?_) (fun hw => ?_)
                · refine cw_getsB hF hH hE (wc_26 27 rfl) dX11_look_122 ?_
                  refine lv_iload_n hx hb dX11_look_125 rfl (lv_at hl 0 rfl) ?_
                  refine cw_ldBody hF hH hE dX11_look_126 hw (fun z25 hw => ?_)
                  refine lv_istore (lv' := [(4, .int z25), (2, .int z1), (1, va_rf a1), (0, .ref h)]) hx hb dX11_look_127 hl (by decide) rfl (fun ls hl => ?_)
                  refine w_aloadq_n hF dX11_look_129 rfl (lv_at hl 2 rfl) ?_
                  refine cw_getI (q := a1) hF hH fk_X11_306 dX11_look_130 hw (fun z26 hw => ?_)
                  refine lv_bipush (v := 64) hx hb dX11_look_133 (by decide) ?_
                  refine lv_iload hx hb dX11_look_135 (lv_at hl 0 rfl) ?_
                  refine lv_iadd hx hb dX11_look_137 ?_
                  refine w_nmi hw (fun z27 hw => ?_)
                  refine lv_iload hx hb dX11_look_138 (lv_at hl 0 rfl) ?_
                  refine lv_iconst (v := 2) hx hb dX11_look_140 (by decide) ?_
                  refine lv_irem hx hb dX11_look_141 (by decide) ?_
                  refine w_nmi hw (fun z28 hw => ?_)
                  refine lv_isub hx hb dX11_look_142 ?_
                  refine w_nmi hw (fun z29 hw => ?_)
                  obtain ⟨K32, hK33, hw⟩ := jc_open hw
                  refine cw_join (K := K32) 167 (fun (x30 : Unit) => []) (fun (x30 : Unit) => []) hl hH (fun x30 κ31 ls H locs cells slots hl hw hH => ?_) (fun jn34 => ?_)
                  · have hw := hK33 x30 κ31 hw
                    have hl : lv_has ls 5 [] := hl
                    refine lv_ldcw (v := (-1073741811)) hx hb hF.1.2.2.2.1 (hF.1.2.2.2.2 _ (wc_16 24 rfl)) dX11_look_167 ?_
                    exact cw_reti hF hH ⟨rfl, rfl⟩ hr rfl hlk dX11_look_170 hw
                  · skip
                    refine w_icmp_lt (tgt := 167) hF dX11_look_143 rfl hw (fun hw => ?_) (fun hw => ?_)
                    · have hl : lv_has ls 5 [] := lv_sub hl [] rfl
                      exact jn34 () κ13 ls _ _ _ _ hl hw hH
                    · refine w_aloadq_n hF dX11_look_146 rfl (lv_at hl 2 rfl) ?_
                      refine lv_bipush (v := 64) hx hb dX11_look_147 (by decide) ?_
                      refine lv_iconst (v := 2) hx hb dX11_look_149 (by decide) ?_
                      refine cw_cVlq (q := a1) (As := [.int 64, .int 2]) (rest := []) hF hH hA hE mv_X11_394 ci_X0 (by decide) hw (fun b hw sz => c_X0_number l D t G _ b 64 2 _ hw sz) dX11_look_150 ⟨Nat.le_of_ble_eq_true rfl, Nat.le_of_ble_eq_true rfl⟩ rfl hl.1 (Nat.le_of_ble_eq_true rfl) rfl (fun z36 κ35 H locs cells slots hw hH => ?_)
                      refine lv_iload hx hb dX11_look_153 (lv_at hl 0 rfl) ?_
                      refine lv_i2l hx hb dX11_look_155 rfl ?_
                      refine w_nml hw (fun z37 hw => ?_)
                      refine w_lif_ne (tgt := 167) hF dX11_look_156 dX11_look_157 rfl hw (fun hw => ?_) (fun hw => ?_)
                      · have hl : lv_has ls 5 [] := lv_sub hl [] rfl
                        exact jn34 () κ35 ls _ _ _ _ hl hw hH
                      · refine w_aloadq_n hF dX11_look_160 rfl (lv_at hl 2 rfl) ?_
                        refine cw_cViq (q := a1) (As := []) (rest := []) hF hH hA hE mv_X11_395 ci_X0 (by decide) hw (fun b hw sz => c_X0_holdsWhatItTells l D t G _ b  _ hw sz) dX11_look_161 ⟨Nat.le_of_ble_eq_true rfl, Nat.le_of_ble_eq_true rfl⟩ rfl hl.1 (Nat.le_of_ble_eq_true rfl) rfl (fun z39 κ38 H locs cells slots hw hH => ?_)
                        refine w_if_ne (tgt := 171) hF dX11_look_164 rfl hw (fun hw => ?_) (fun hw => ?_)
                        · refine cw_getsF hF hH hE (wc_26 28 rfl) dX11_look_171 ?_
                          refine lv_iload_n hx hb dX11_look_174 rfl (lv_at hl 1 rfl) ?_
                          refine cw_ldFile hF hH hE dX11_look_175 hw (fun z40 hw => ?_)
                          obtain ⟨K43, hK44, hw⟩ := jc_open hw
                          refine cw_join (K := K43) 193 (fun (x41 : Int32) => []) (fun (x41 : Int32) => [.int x41]) hl hH (fun x41 κ42 ls H locs cells slots hl hw hH => ?_) (fun jn45 => ?_)
                          · have hw := hK44 x41 κ42 hw
                            have hl : lv_has ls 5 [] := hl
                            exact cw_reti hF hH ⟨rfl, rfl⟩ hr rfl hlk dX11_look_193 hw
                          · skip
                            refine w_if_ne (tgt := 183) hF dX11_look_176 rfl hw (fun hw => ?_) (fun hw => ?_)
                            · refine lv_aload_n hx hb dX11_look_183 rfl (lv_at hl 3 rfl) ?_
                              refine w_aloadq_n hF dX11_look_184 rfl (lv_at hl 2 rfl) ?_
                              refine cw_getsF hF hH hE (wc_26 28 rfl) dX11_look_185 ?_
                              refine lv_iload_n hx hb dX11_look_188 rfl (lv_at hl 1 rfl) ?_
                              refine cw_ldFile hF hH hE dX11_look_189 hw (fun z46 hw => ?_)
                              refine cw_cVi (b := h) (As := [va_rf a1, .int z46]) (rest := []) hF hH hA hE mv_X11_399 ci_X11 (by decide) (fun sz => c_X11_lookAtFile l D t G _ h a1 z46 _ hw.2 sz) dX11_look_190 hw.1 ⟨Nat.le_of_ble_eq_true rfl, Nat.le_of_ble_eq_true rfl⟩ rfl hl.1 (Nat.le_of_ble_eq_true rfl) rfl (fun z48 κ47 H locs cells slots hw hH => ?_)
                              have hl : lv_has ls 5 [] := lv_sub hl [] rfl
                              exact jn45 z48 κ47 ls _ _ _ _ hl hw hH
                            · refine lv_iconst (v := 0) hx hb dX11_look_179 (by decide) ?_
                              refine lv_goto (tgt := 193) hx hb dX11_look_180 rfl ?_
                              have hl : lv_has ls 5 [] := lv_sub hl [] rfl
                              exact jn45 0 κ38 ls _ _ _ _ hl hw hH
                        · have hl : lv_has ls 5 [] := lv_sub hl [] rfl
                          exact jn34 () κ38 ls _ _ _ _ hl hw hH
                · have hl : lv_has ls 5 [] := lv_sub hl [] rfl
                  exact jn21 () κ13 ls _ _ _ _ hl hw hH
      · skip
        refine w_if_ne (tgt := 90) hF dX11_look_57 rfl hw (fun hw => ?_) (fun hw => ?_)
        · have hl : lv_has ls 5 [(2, .int z1), (1, va_rf a1), (0, .ref h)] := lv_sub hl [1, 2, 3] rfl
          exact jn16 () κ8 ls _ _ _ _ hl hw hH
        · refine lv_iload_n hx hb dX11_look_60 rfl (lv_at hl 1 rfl) ?_
          refine lv_iconst (v := 2) hx hb dX11_look_61 (by decide) ?_
          refine w_icmp_eq (tgt := 90) hF dX11_look_62 rfl hw (fun hw => ?_) (fun hw => ?_)
          · have hl : lv_has ls 5 [(2, .int z1), (1, va_rf a1), (0, .ref h)] := lv_sub hl [1, 2, 3] rfl
            exact jn16 () κ8 ls _ _ _ _ hl hw hH
          · refine lv_iload_n hx hb dX11_look_65 rfl (lv_at hl 1 rfl) ?_
            refine lv_iconst (v := 3) hx hb dX11_look_66 (by decide) ?_
            refine w_icmp_eq (tgt := 90) hF dX11_look_67 rfl hw (fun hw => ?_) (fun hw => ?_)
            · have hl : lv_has ls 5 [(2, .int z1), (1, va_rf a1), (0, .ref h)] := lv_sub hl [1, 2, 3] rfl
              exact jn16 () κ8 ls _ _ _ _ hl hw hH
            · refine w_aloadq_n hF dX11_look_70 rfl (lv_at hl 2 rfl) ?_
              refine lv_aload_n hx hb dX11_look_71 rfl (lv_at hl 3 rfl) ?_
              refine w_aloadq_n hF dX11_look_72 rfl (lv_at hl 2 rfl) ?_
              refine cw_cVq (b := h) (As := [va_rf a1]) (rest := [va_rf a1]) hF hH hA hE mv_X11_378 ci_X11 (by decide) (fun sz => c_X11_treeOf l D t G _ h a1 _ hw.2 sz) dX11_look_73 hw.1 ⟨Nat.le_of_ble_eq_true rfl, Nat.le_of_ble_eq_true rfl⟩ rfl hl.1 (by simp only [List.map_cons, List.map_nil, cat_rf]; exact Nat.le_of_ble_eq_true rfl) rfl (fun z50 κ49 H locs cells slots hw hH => ?_)
              refine cw_putP (q := a1) (v := z50) hF hH fk_X11_382 dX11_look_76 rfl rfl hw (fun κ51 H locs cells slots hw hH => ?_)
              refine w_aloadq_n hF dX11_look_79 rfl (lv_at hl 2 rfl) ?_
              refine cw_getP (q := a1) hF hH fk_X11_382 dX11_look_80 hw (fun z52 hw => ?_)
              refine cw_ifnonnull (q := z52) (tgt := 90) hF dX11_look_83 rfl hw (fun hw => ?_) (fun hw => ?_)
              · have hl : lv_has ls 5 [(2, .int z1), (1, va_rf a1), (0, .ref h)] := lv_sub hl [1, 2, 3] rfl
                exact jn16 () κ51 ls _ _ _ _ hl hw hH
              · refine lv_ldcw (v := (-1073741623)) hx hb hF.1.2.2.2.1 (hF.1.2.2.2.2 _ (wc_26 26 rfl)) dX11_look_86 ?_
                exact cw_reti hF hH ⟨rfl, rfl⟩ hr rfl hlk dX11_look_89 hw
    · skip
      refine w_if_ne (tgt := 56) hF dX11_look_33 rfl hw (fun hw => ?_) (fun hw => ?_)
      · exact jn11 () κ3 ls _ _ _ _ hl hw hH
      · refine w_aloadq_n hF dX11_look_36 rfl (lv_at hl 2 rfl) ?_
        refine lv_aload_n hx hb dX11_look_37 rfl (lv_at hl 3 rfl) ?_
        refine w_aloadq_n hF dX11_look_38 rfl (lv_at hl 2 rfl) ?_
        refine cw_cVq (b := h) (As := [va_rf a1]) (rest := [va_rf a1]) hF hH hA hE mv_X11_369 ci_X11 (by decide) (fun sz => c_X11_sessionOf l D t G _ h a1 _ hw.2 sz) dX11_look_39 hw.1 ⟨Nat.le_of_ble_eq_true rfl, Nat.le_of_ble_eq_true rfl⟩ rfl hl.1 (by simp only [List.map_cons, List.map_nil, cat_rf]; exact Nat.le_of_ble_eq_true rfl) rfl (fun z54 κ53 H locs cells slots hw hH => ?_)
        refine cw_putP (q := a1) (v := z54) hF hH fk_X11_373 dX11_look_42 rfl rfl hw (fun κ55 H locs cells slots hw hH => ?_)
        refine w_aloadq_n hF dX11_look_45 rfl (lv_at hl 2 rfl) ?_
        refine cw_getP (q := a1) hF hH fk_X11_373 dX11_look_46 hw (fun z56 hw => ?_)
        refine cw_ifnonnull (q := z56) (tgt := 56) hF dX11_look_49 rfl hw (fun hw => ?_) (fun hw => ?_)
        · exact jn11 () κ55 ls _ _ _ _ hl hw hH
        · refine lv_ldcw (v := (-1073741309)) hx hb hF.1.2.2.2.1 (hF.1.2.2.2.2 _ (wc_26 22 rfl)) dX11_look_52 ?_
          exact cw_reti hF hH ⟨rfl, rfl⟩ hr rfl hlk dX11_look_55 hw
  · skip
    obtain ⟨K59, hK60, hw⟩ := jc_open hw
    refine cw_join (K := K59) 26 (fun (x57 : Unit) => [(2, .int z1), (1, va_rf a1), (0, .ref h)]) (fun (x57 : Unit) => []) hl hH (fun x57 κ58 ls H locs cells slots hl hw hH => ?_) (fun jn61 => ?_)
    · have hw := hK60 x57 κ58 hw
      have hl : lv_has ls 5 [(2, .int z1), (1, va_rf a1), (0, .ref h)] := hl
      refine lv_iconst (v := 1) hx hb dX11_look_26 (by decide) ?_
      refine lv_goto (tgt := 31) hx hb dX11_look_27 rfl ?_
      exact jn6 1 κ58 ls _ _ _ _ hl hw hH
    · skip
      refine w_if_eq (tgt := 26) hF dX11_look_6 rfl hw (fun hw => ?_) (fun hw => ?_)
      · have hl : lv_has ls 5 [(2, .int z1), (1, va_rf a1), (0, .ref h)] := lv_sub hl [0, 2, 1] rfl
        exact jn61 () κ ls _ _ _ _ hl hw hH
      · refine lv_iload_n hx hb dX11_look_9 rfl (lv_at hl 0 rfl) ?_
        refine lv_iconst (v := 1) hx hb dX11_look_10 (by decide) ?_
        refine w_icmp_eq (tgt := 26) hF dX11_look_11 rfl hw (fun hw => ?_) (fun hw => ?_)
        · have hl : lv_has ls 5 [(2, .int z1), (1, va_rf a1), (0, .ref h)] := lv_sub hl [0, 2, 1] rfl
          exact jn61 () κ ls _ _ _ _ hl hw hH
        · refine lv_iload_n hx hb dX11_look_14 rfl (lv_at hl 0 rfl) ?_
          refine lv_bipush (v := 13) hx hb dX11_look_15 (by decide) ?_
          refine w_icmp_eq (tgt := 26) hF dX11_look_17 rfl hw (fun hw => ?_) (fun hw => ?_)
          · have hl : lv_has ls 5 [(2, .int z1), (1, va_rf a1), (0, .ref h)] := lv_sub hl [0, 2, 1] rfl
            exact jn61 () κ ls _ _ _ _ hl hw hH
          · refine lv_iload_n hx hb dX11_look_20 rfl (lv_at hl 0 rfl) ?_
            refine lv_bipush (v := 12) hx hb dX11_look_21 (by decide) ?_
            refine w_icmp_ne (tgt := 30) hF dX11_look_23 rfl hw (fun hw => ?_) (fun hw => ?_)
            · refine lv_iconst (v := 0) hx hb dX11_look_30 (by decide) ?_
              have hl : lv_has ls 5 [(2, .int z1), (1, va_rf a1), (0, .ref h)] := lv_sub hl [0, 2, 1] rfl
              exact jn6 0 κ ls _ _ _ _ hl hw hH
            · have hl : lv_has ls 5 [(2, .int z1), (1, va_rf a1), (0, .ref h)] := lv_sub hl [0, 2, 1] rfl
              exact jn61 () κ ls _ _ _ _ hl hw hH
set_option maxRecDepth 100000 in
def F_X11_endFormer (G : GE) (h : Nat) (a1 : Option Nat) (post : Int32 → CS → Prop) (κ : CS) : Prop := ∃ b : Nat, a1 = some b ∧ (b ∈ sL κ.1 ∧ sK κ.1 b = 8) ∧ F_X0_number G b 76 2 (fun (z2 : Int64) (κ1 : CS) => ∀ z3 : Int32, z3 = (z2 : Int64).toInt32 → ∃ b : Nat, a1 = some b ∧ (b ∈ sL κ1.1 ∧ sK κ1.1 b = 8) ∧ F_X0_number G b 78 2 (fun (z5 : Int64) (κ4 : CS) => ∀ z6 : Int32, z6 = (z5 : Int64).toInt32 → jc (fun (K9 : Unit → CS → Prop) => ((z6.toInt < (1 : Int32).toInt) → K9 () κ4) ∧ (((1 : Int32).toInt ≤ z6.toInt) → ((z6.toInt ≤ (16 : Int32).toInt) → lc (fun (K14 : Int32 → CS → Prop) (x12 : Int32) (κ13 : CS) => ((z6.toInt ≤ x12.toInt) → ∃ b : Nat, a1 = some b ∧ (b ∈ sL κ13.1 ∧ sK κ13.1 b = 8) ∧ F_X0_number G b 80 8 (fun (z17 : Int64) (κ16 : CS) => lc (fun (K20 : Int32 → CS → Prop) (x18 : Int32) (κ19 : CS) => (h ∈ sL κ19.1 ∧ sK κ19.1 h = 1) ∧ ∀ z22 : Option Nat, z22 = sP κ19.1 h 8 → ∃ b : Nat, z22 = some b ∧ (b ∈ sL κ19.1 ∧ sK κ19.1 b = 7) ∧ F_Jx4a65c_size_8abf5 G b  (fun (z24 : Int32) (κ23 : CS) => ((z24.toInt ≤ x18.toInt) → post 0 κ23) ∧ ((x18.toInt < z24.toInt) → (h ∈ sL κ23.1 ∧ sK κ23.1 h = 1) ∧ ∀ z25 : Option Nat, z25 = sP κ23.1 h 8 → ∃ b : Nat, z25 = some b ∧ (b ∈ sL κ23.1 ∧ sK κ23.1 b = 7) ∧ F_Jx4a65c_get_915e3 G b x18 (fun (z27 : Option Nat) (κ26 : CS) => (z27 = none ∨ ∃ b : Nat, z27 = some b ∧ b ∈ sL κ26.1 ∧ sK κ26.1 b = 11) ∧ ∃ b : Nat, z27 = some b ∧ (b ∈ sL κ26.1 ∧ sK κ26.1 b = 11) ∧ ∀ z28 : Int64, z28 = sJ κ26.1 b 0 → jc (fun (K31 : Unit → CS → Prop) => ((¬ z28.toInt = z17.toInt) → K31 () κ26) ∧ ((z28.toInt = z17.toInt) → ∃ b : Nat, z27 = some b ∧ (b ∈ sL κ26.1 ∧ sK κ26.1 b = 11) ∧ F_X7_isNamed G b a1 z3 z6 (fun (z36 : Int32) (κ35 : CS) => ((z36.toInt = 0) → K31 () κ35) ∧ ((¬ z36.toInt = 0) → (0 ≤ (1 : Int32).toInt ∧ (1 : Int32).toInt ≤ 1) ∧ ∃ b : Nat, z27 = some b ∧ (b ∈ sL κ35.1 ∧ sK κ35.1 b = 11) ∧ ∀ κ37 : CS, κ37 = (h_uI κ35.1 b 4 1, κ35.2) → (h ∈ sL κ37.1 ∧ sK κ37.1 h = 1) ∧ F_X11_giveUp G h (none : Option Nat) z27 (none : Option Nat) (fun (κ38 : CS) => K31 () κ38) κ37)) κ26)) (fun (x29 : Unit) (κ30 : CS) => ∀ z34 : Int32, z34 = x18 + 1 → K20 z34 κ30)) κ23)) κ19) 0 κ16) κ13) ∧ ((x12.toInt < z6.toInt) → ∀ z40 : Int32, z40 = z3 + x12 → ∃ b : Nat, a1 = some b ∧ (b ∈ sL κ13.1 ∧ sK κ13.1 b = 8) ∧ F_X0_number G b z40 1 (fun (z42 : Int64) (κ41 : CS) => jc (fun (K45 : Unit → CS → Prop) => ((z42.toInt < (33 : Int64).toInt) → K45 () κ41) ∧ (((33 : Int64).toInt ≤ z42.toInt) → ((z42.toInt ≤ (126 : Int64).toInt) → ∀ z48 : Int32, z48 = x12 + 1 → K14 z48 κ41) ∧ (((126 : Int64).toInt < z42.toInt) → K45 () κ41))) (fun (x43 : Unit) (κ44 : CS) => post (-1073741811) κ44)) κ13)) 0 κ4) ∧ (((16 : Int32).toInt < z6.toInt) → K9 () κ4))) (fun (x7 : Unit) (κ8 : CS) => post (-1073741811) κ8)) κ1) κ
theorem dX11_endFormer_0 : decode cX11_endFormer 0 = .ok (.aload_n 1, 1) := by decide +kernel
theorem dX11_endFormer_1 : decode cX11_endFormer 1 = .ok (.bipush 76, 2) := by decide +kernel
theorem dX11_endFormer_3 : decode cX11_endFormer 3 = .ok (.iconst 2, 1) := by decide +kernel
theorem dX11_endFormer_4 : decode cX11_endFormer 4 = .ok (.invokevirtual 394, 3) := by decide +kernel
theorem dX11_endFormer_7 : decode cX11_endFormer 7 = .ok (.l2i, 1) := by decide +kernel
theorem dX11_endFormer_8 : decode cX11_endFormer 8 = .ok (.istore_n 2, 1) := by decide +kernel
theorem dX11_endFormer_9 : decode cX11_endFormer 9 = .ok (.aload_n 1, 1) := by decide +kernel
theorem dX11_endFormer_10 : decode cX11_endFormer 10 = .ok (.bipush 78, 2) := by decide +kernel
theorem dX11_endFormer_12 : decode cX11_endFormer 12 = .ok (.iconst 2, 1) := by decide +kernel
theorem dX11_endFormer_13 : decode cX11_endFormer 13 = .ok (.invokevirtual 394, 3) := by decide +kernel
theorem dX11_endFormer_16 : decode cX11_endFormer 16 = .ok (.l2i, 1) := by decide +kernel
theorem dX11_endFormer_17 : decode cX11_endFormer 17 = .ok (.istore_n 3, 1) := by decide +kernel
theorem dX11_endFormer_18 : decode cX11_endFormer 18 = .ok (.iload_n 3, 1) := by decide +kernel
theorem dX11_endFormer_19 : decode cX11_endFormer 19 = .ok (.iconst 1, 1) := by decide +kernel
theorem dX11_endFormer_20 : decode cX11_endFormer 20 = .ok (.if_icmp .lt 9, 3) := by decide +kernel
theorem dX11_endFormer_23 : decode cX11_endFormer 23 = .ok (.iload_n 3, 1) := by decide +kernel
theorem dX11_endFormer_24 : decode cX11_endFormer 24 = .ok (.bipush 16, 2) := by decide +kernel
theorem dX11_endFormer_26 : decode cX11_endFormer 26 = .ok (.if_icmp .le 7, 3) := by decide +kernel
theorem dX11_endFormer_29 : decode cX11_endFormer 29 = .ok (.ldc_w 398, 3) := by decide +kernel
theorem dX11_endFormer_32 : decode cX11_endFormer 32 = .ok (.ireturn, 1) := by decide +kernel
theorem dX11_endFormer_33 : decode cX11_endFormer 33 = .ok (.iconst 0, 1) := by decide +kernel
theorem dX11_endFormer_34 : decode cX11_endFormer 34 = .ok (.istore 4, 2) := by decide +kernel
theorem dX11_endFormer_36 : decode cX11_endFormer 36 = .ok (.iload 4, 2) := by decide +kernel
theorem dX11_endFormer_38 : decode cX11_endFormer 38 = .ok (.iload_n 3, 1) := by decide +kernel
theorem dX11_endFormer_39 : decode cX11_endFormer 39 = .ok (.if_icmp .ge 42, 3) := by decide +kernel
theorem dX11_endFormer_42 : decode cX11_endFormer 42 = .ok (.aload_n 1, 1) := by decide +kernel
theorem dX11_endFormer_43 : decode cX11_endFormer 43 = .ok (.iload_n 2, 1) := by decide +kernel
theorem dX11_endFormer_44 : decode cX11_endFormer 44 = .ok (.iload 4, 2) := by decide +kernel
theorem dX11_endFormer_46 : decode cX11_endFormer 46 = .ok (.iadd, 1) := by decide +kernel
theorem dX11_endFormer_47 : decode cX11_endFormer 47 = .ok (.iconst 1, 1) := by decide +kernel
theorem dX11_endFormer_48 : decode cX11_endFormer 48 = .ok (.invokevirtual 394, 3) := by decide +kernel
theorem dX11_endFormer_51 : decode cX11_endFormer 51 = .ok (.lstore 5, 2) := by decide +kernel
theorem dX11_endFormer_53 : decode cX11_endFormer 53 = .ok (.lload 5, 2) := by decide +kernel
theorem dX11_endFormer_55 : decode cX11_endFormer 55 = .ok (.ldc2_w 208, 3) := by decide +kernel
theorem dX11_endFormer_58 : decode cX11_endFormer 58 = .ok (.lcmp, 1) := by decide +kernel
theorem dX11_endFormer_59 : decode cX11_endFormer 59 = .ok (.ifCond .lt 12, 3) := by decide +kernel
theorem dX11_endFormer_62 : decode cX11_endFormer 62 = .ok (.lload 5, 2) := by decide +kernel
theorem dX11_endFormer_64 : decode cX11_endFormer 64 = .ok (.ldc2_w 210, 3) := by decide +kernel
theorem dX11_endFormer_67 : decode cX11_endFormer 67 = .ok (.lcmp, 1) := by decide +kernel
theorem dX11_endFormer_68 : decode cX11_endFormer 68 = .ok (.ifCond .le 7, 3) := by decide +kernel
theorem dX11_endFormer_71 : decode cX11_endFormer 71 = .ok (.ldc_w 398, 3) := by decide +kernel
theorem dX11_endFormer_74 : decode cX11_endFormer 74 = .ok (.ireturn, 1) := by decide +kernel
theorem dX11_endFormer_75 : decode cX11_endFormer 75 = .ok (.iinc 4 1, 3) := by decide +kernel
theorem dX11_endFormer_78 : decode cX11_endFormer 78 = .ok (.goto (-42), 3) := by decide +kernel
theorem dX11_endFormer_81 : decode cX11_endFormer 81 = .ok (.aload_n 1, 1) := by decide +kernel
theorem dX11_endFormer_82 : decode cX11_endFormer 82 = .ok (.bipush 80, 2) := by decide +kernel
theorem dX11_endFormer_84 : decode cX11_endFormer 84 = .ok (.bipush 8, 2) := by decide +kernel
theorem dX11_endFormer_86 : decode cX11_endFormer 86 = .ok (.invokevirtual 394, 3) := by decide +kernel
theorem dX11_endFormer_89 : decode cX11_endFormer 89 = .ok (.lstore 4, 2) := by decide +kernel
theorem dX11_endFormer_91 : decode cX11_endFormer 91 = .ok (.iconst 0, 1) := by decide +kernel
theorem dX11_endFormer_92 : decode cX11_endFormer 92 = .ok (.istore 6, 2) := by decide +kernel
theorem dX11_endFormer_94 : decode cX11_endFormer 94 = .ok (.iload 6, 2) := by decide +kernel
theorem dX11_endFormer_96 : decode cX11_endFormer 96 = .ok (.aload_n 0, 1) := by decide +kernel
theorem dX11_endFormer_97 : decode cX11_endFormer 97 = .ok (.getfield 45, 3) := by decide +kernel
theorem dX11_endFormer_100 : decode cX11_endFormer 100 = .ok (.invokevirtual 161, 3) := by decide +kernel
theorem dX11_endFormer_103 : decode cX11_endFormer 103 = .ok (.if_icmp .ge 59, 3) := by decide +kernel
theorem dX11_endFormer_106 : decode cX11_endFormer 106 = .ok (.aload_n 0, 1) := by decide +kernel
theorem dX11_endFormer_107 : decode cX11_endFormer 107 = .ok (.getfield 45, 3) := by decide +kernel
theorem dX11_endFormer_110 : decode cX11_endFormer 110 = .ok (.iload 6, 2) := by decide +kernel
theorem dX11_endFormer_112 : decode cX11_endFormer 112 = .ok (.invokevirtual 164, 3) := by decide +kernel
theorem dX11_endFormer_115 : decode cX11_endFormer 115 = .ok (.checkcast 403, 3) := by decide +kernel
theorem dX11_endFormer_118 : decode cX11_endFormer 118 = .ok (.astore 7, 2) := by decide +kernel
theorem dX11_endFormer_120 : decode cX11_endFormer 120 = .ok (.aload 7, 2) := by decide +kernel
theorem dX11_endFormer_122 : decode cX11_endFormer 122 = .ok (.getfield 405, 3) := by decide +kernel
theorem dX11_endFormer_125 : decode cX11_endFormer 125 = .ok (.lload 4, 2) := by decide +kernel
theorem dX11_endFormer_127 : decode cX11_endFormer 127 = .ok (.lcmp, 1) := by decide +kernel
theorem dX11_endFormer_128 : decode cX11_endFormer 128 = .ok (.ifCond .ne 28, 3) := by decide +kernel
theorem dX11_endFormer_131 : decode cX11_endFormer 131 = .ok (.aload 7, 2) := by decide +kernel
theorem dX11_endFormer_133 : decode cX11_endFormer 133 = .ok (.aload_n 1, 1) := by decide +kernel
theorem dX11_endFormer_134 : decode cX11_endFormer 134 = .ok (.iload_n 2, 1) := by decide +kernel
theorem dX11_endFormer_135 : decode cX11_endFormer 135 = .ok (.iload_n 3, 1) := by decide +kernel
theorem dX11_endFormer_136 : decode cX11_endFormer 136 = .ok (.invokevirtual 607, 3) := by decide +kernel
theorem dX11_endFormer_139 : decode cX11_endFormer 139 = .ok (.ifCond .eq 17, 3) := by decide +kernel
theorem dX11_endFormer_142 : decode cX11_endFormer 142 = .ok (.aload 7, 2) := by decide +kernel
theorem dX11_endFormer_144 : decode cX11_endFormer 144 = .ok (.iconst 1, 1) := by decide +kernel
theorem dX11_endFormer_145 : decode cX11_endFormer 145 = .ok (.putfield 507, 3) := by decide +kernel
theorem dX11_endFormer_148 : decode cX11_endFormer 148 = .ok (.aload_n 0, 1) := by decide +kernel
theorem dX11_endFormer_149 : decode cX11_endFormer 149 = .ok (.aconst_null, 1) := by decide +kernel
theorem dX11_endFormer_150 : decode cX11_endFormer 150 = .ok (.aload 7, 2) := by decide +kernel
theorem dX11_endFormer_152 : decode cX11_endFormer 152 = .ok (.aconst_null, 1) := by decide +kernel
theorem dX11_endFormer_153 : decode cX11_endFormer 153 = .ok (.invokevirtual 503, 3) := by decide +kernel
theorem dX11_endFormer_156 : decode cX11_endFormer 156 = .ok (.iinc 6 1, 3) := by decide +kernel
theorem dX11_endFormer_159 : decode cX11_endFormer 159 = .ok (.goto (-65), 3) := by decide +kernel
theorem dX11_endFormer_162 : decode cX11_endFormer 162 = .ok (.iconst 0, 1) := by decide +kernel
theorem dX11_endFormer_163 : decode cX11_endFormer 163 = .ok (.ireturn, 1) := by decide +kernel
set_option maxRecDepth 100000 in
set_option maxHeartbeats 4000000 in
theorem c_X11_endFormer (l : Launch) (D : va_G) (t : Nat → ClassId) (G : GE) (κ : CS) (h : Nat) (a1 : Option Nat) (post : Int32 → CS → Prop) (hw : F_X11_endFormer G h a1 post κ) (sz : Nat) : CMi l D t yX11_endFormer cX11_endFormer 8 (some .int) 4 111 G κ sz [.ref h, va_rf a1] post := by
  refine c_go (by decide) (by cases a1 <;> exact Nat.le_of_ble_eq_true rfl) ?_
  intro p e s m below meth c ls A hF hr hlk hin hAe hH hA hE hl
  unfold cB
  rw [hAe]
  clear hAe
  have hF : FX p m c cX11_endFormer 8 s _ RX11 D t := hF
  have hx := hF.1.1
  have hb := hF.1.2.1
  have hl : lv_has ls 8 [(0, .ref h), (1, va_rf a1)] := (by have h2 := hl; clear hw; revert h2; cases a1 <;> exact id)
  unfold F_X11_endFormer at hw
  refine w_aloadq_n hF dX11_endFormer_0 rfl (lv_at hl 1 rfl) ?_
  refine lv_bipush (v := 76) hx hb dX11_endFormer_1 (by decide) ?_
  refine lv_iconst (v := 2) hx hb dX11_endFormer_3 (by decide) ?_
  refine cw_cVlq (q := a1) (As := [.int 76, .int 2]) (rest := []) hF hH hA hE mv_X11_394 ci_X0 (by decide) hw (fun b hw sz => c_X0_number l D t G _ b 76 2 _ hw sz) dX11_endFormer_4 ⟨Nat.le_of_ble_eq_true rfl, Nat.le_of_ble_eq_true rfl⟩ rfl hl.1 (Nat.le_of_ble_eq_true rfl) rfl (fun z2 κ1 H locs cells slots hw hH => ?_)
  refine lv_l2i hx hb dX11_endFormer_7 rfl ?_
  refine w_nmi hw (fun z3 hw => ?_)
  refine lv_istore_n (lv' := [(2, .int z3), (0, .ref h), (1, va_rf a1)]) hx hb dX11_endFormer_8 rfl hl (by decide) (by generalize a1 = y; cases y <;> rfl) (fun ls hl => ?_)
  refine w_aloadq_n hF dX11_endFormer_9 rfl (lv_at hl 2 rfl) ?_
  refine lv_bipush (v := 78) hx hb dX11_endFormer_10 (by decide) ?_
  refine lv_iconst (v := 2) hx hb dX11_endFormer_12 (by decide) ?_
  refine cw_cVlq (q := a1) (As := [.int 78, .int 2]) (rest := []) hF hH hA hE mv_X11_394 ci_X0 (by decide) hw (fun b hw sz => c_X0_number l D t G _ b 78 2 _ hw sz) dX11_endFormer_13 ⟨Nat.le_of_ble_eq_true rfl, Nat.le_of_ble_eq_true rfl⟩ rfl hl.1 (Nat.le_of_ble_eq_true rfl) rfl (fun z5 κ4 H locs cells slots hw hH => ?_)
  refine lv_l2i hx hb dX11_endFormer_16 rfl ?_
  refine w_nmi hw (fun z6 hw => ?_)
  refine lv_istore_n (lv' := [(3, .int z6), (2, .int z3), (0, .ref h), (1, va_rf a1)]) hx hb dX11_endFormer_17 rfl hl (by decide) rfl (fun ls hl => ?_)
  refine lv_iload_n hx hb dX11_endFormer_18 rfl (lv_at hl 0 rfl) ?_
  refine lv_iconst (v := 1) hx hb dX11_endFormer_19 (by decide) ?_
  obtain ⟨K9, hK10, hw⟩ := jc_open hw
  refine cw_join (K := K9) 29 (fun (x7 : Unit) => []) (fun (x7 : Unit) => []) hl hH (fun x7 κ8 ls H locs cells slots hl hw hH => ?_) (fun jn11 => ?_)
  · have hw := hK10 x7 κ8 hw
    have hl : lv_has ls 8 [] := hl
    refine lv_ldcw (v := (-1073741811)) hx hb hF.1.2.2.2.1 (hF.1.2.2.2.2 _ (wc_16 24 rfl)) dX11_endFormer_29 ?_
    exact cw_reti hF hH ⟨rfl, rfl⟩ hr rfl hlk dX11_endFormer_32 hw
  · skip
    refine w_icmp_lt (tgt := 29) hF dX11_endFormer_20 rfl hw (fun hw => ?_) (fun hw => ?_)
    · have hl : lv_has ls 8 [] := lv_sub hl [] rfl
      exact jn11 () κ4 ls _ _ _ _ hl hw hH
    · refine lv_iload_n hx hb dX11_endFormer_23 rfl (lv_at hl 0 rfl) ?_
      refine lv_bipush (v := 16) hx hb dX11_endFormer_24 (by decide) ?_
      refine w_icmp_le (tgt := 33) hF dX11_endFormer_26 rfl hw (fun hw => ?_) (fun hw => ?_)
      · refine lv_iconst (v := 0) hx hb dX11_endFormer_33 (by decide) ?_
        refine lv_istore (lv' := [(4, .int 0), (3, .int z6), (2, .int z3), (0, .ref h), (1, va_rf a1)]) hx hb dX11_endFormer_34 hl (by decide) rfl (fun ls hl => ?_)
        have hl : lv_has ls 8 [(4, .int 0), (3, .int z6), (2, .int z3), (1, va_rf a1), (0, .ref h)] := lv_sub hl [0, 1, 2, 4, 3] rfl
        refine cw_loop (β := Int32) (fun x12 => [(4, .int x12), (3, .int z6), (2, .int z3), (1, va_rf a1), (0, .ref h)]) 0 hl hw hH (fun K14 x12 κ13 ls H locs cells slots hl hw hH ih15 => ?_)
        have hl : lv_has ls 8 [(4, .int x12), (3, .int z6), (2, .int z3), (1, va_rf a1), (0, .ref h)] := hl
        refine lv_iload hx hb dX11_endFormer_36 (lv_at hl 0 rfl) ?_
        refine lv_iload_n hx hb dX11_endFormer_38 rfl (lv_at hl 1 rfl) ?_
        refine w_icmp_ge (tgt := 81) hF dX11_endFormer_39 rfl hw (fun hw => ?_) (fun hw => ?_)
        · refine w_aloadq_n hF dX11_endFormer_81 rfl (lv_at hl 3 rfl) ?_
          refine lv_bipush (v := 80) hx hb dX11_endFormer_82 (by decide) ?_
          refine lv_bipush (v := 8) hx hb dX11_endFormer_84 (by decide) ?_
          refine cw_cVlq (q := a1) (As := [.int 80, .int 8]) (rest := []) hF hH hA hE mv_X11_394 ci_X0 (by decide) hw (fun b hw sz => c_X0_number l D t G _ b 80 8 _ hw sz) dX11_endFormer_86 ⟨Nat.le_of_ble_eq_true rfl, Nat.le_of_ble_eq_true rfl⟩ rfl hl.1 (Nat.le_of_ble_eq_true rfl) rfl (fun z17 κ16 H locs cells slots hw hH => ?_)
          refine lv_lstore (lv' := [(4, .long z17), (3, .int z6), (2, .int z3), (1, va_rf a1), (0, .ref h)]) hx hb dX11_endFormer_89 hl (by decide) rfl (fun ls hl => ?_)
          refine lv_iconst (v := 0) hx hb dX11_endFormer_91 (by decide) ?_
          refine lv_istore (lv' := [(6, .int 0), (4, .long z17), (3, .int z6), (2, .int z3), (1, va_rf a1), (0, .ref h)]) hx hb dX11_endFormer_92 hl (by decide) rfl (fun ls hl => ?_)
          refine cw_loop (β := Int32) (fun x18 => [(6, .int x18), (4, .long z17), (3, .int z6), (2, .int z3), (1, va_rf a1), (0, .ref h)]) 0 hl hw hH (fun K20 x18 κ19 ls H locs cells slots hl hw hH ih21 => ?_)
          have hl : lv_has ls 8 [(6, .int x18), (4, .long z17), (3, .int z6), (2, .int z3), (1, va_rf a1), (0, .ref h)] := hl
          refine lv_iload hx hb dX11_endFormer_94 (lv_at hl 0 rfl) ?_
          refine lv_aload_n hx hb dX11_endFormer_96 rfl (lv_at hl 5 rfl) ?_
          refine cw_getPr (a := h) hF hH fk_X11_45 dX11_endFormer_97 hw (fun z22 hw => ?_)
          refine cw_cViq (q := z22) (As := []) (rest := [.int x18]) hF hH hA hE mv_X11_161 ci_Jx4a65c (by decide) hw (fun b hw sz => c_Jx4a65c_size_8abf5 l D t G _ b  _ hw sz) dX11_endFormer_100 ⟨Nat.le_of_ble_eq_true rfl, Nat.le_of_ble_eq_true rfl⟩ rfl hl.1 (Nat.le_of_ble_eq_true rfl) rfl (fun z24 κ23 H locs cells slots hw hH => ?_)
          refine w_icmp_ge (tgt := 162) hF dX11_endFormer_103 rfl hw (fun hw => ?_) (fun hw => ?_)
          · refine lv_iconst (v := 0) hx hb dX11_endFormer_162 (by decide) ?_
            exact cw_reti hF hH ⟨rfl, rfl⟩ hr rfl hlk dX11_endFormer_163 hw
          · refine lv_aload_n hx hb dX11_endFormer_106 rfl (lv_at hl 5 rfl) ?_
            refine cw_getPr (a := h) hF hH fk_X11_45 dX11_endFormer_107 hw (fun z25 hw => ?_)
            refine lv_iload hx hb dX11_endFormer_110 (lv_at hl 0 rfl) ?_
            refine cw_cVqq (q := z25) (As := [.int x18]) (rest := []) hF hH hA hE mv_X11_164 ci_Jx4a65c (by decide) hw (fun b hw sz => c_Jx4a65c_get_915e3 l D t G _ b x18 _ hw sz) dX11_endFormer_112 ⟨Nat.le_of_ble_eq_true rfl, Nat.le_of_ble_eq_true rfl⟩ rfl hl.1 (Nat.le_of_ble_eq_true rfl) rfl (fun z27 κ26 H locs cells slots hw hH => ?_)
            refine cw_cast (q := z27) hF hH ci_X7 (by decide) (wc_16 25 rfl) (by decide) dX11_endFormer_115 hw (fun hw => ?_)
            refine w_astoreq (lv' := [(7, va_rf z27), (6, .int x18), (4, .long z17), (3, .int z6), (2, .int z3), (1, va_rf a1), (0, .ref h)]) hF dX11_endFormer_118 hl (by decide) rfl (fun ls hl => ?_)
            refine w_aloadq hF dX11_endFormer_120 (lv_at hl 0 rfl) ?_
            refine cw_getJ (q := z27) hF hH fk_X11_405 dX11_endFormer_122 hw (fun z28 hw => ?_)
            refine lv_lload hx hb dX11_endFormer_125 (lv_at hl 2 rfl) ?_
            obtain ⟨K31, hK32, hw⟩ := jc_open hw
            refine cw_join (K := K31) 156 (fun (x29 : Unit) => [(6, .int x18), (4, .long z17), (3, .int z6), (2, .int z3), (1, va_rf a1), (0, .ref h)]) (fun (x29 : Unit) => []) hl hH (fun x29 κ30 ls H locs cells slots hl hw hH => ?_) (fun jn33 => ?_)
            · have hw := hK32 x29 κ30 hw
              have hl : lv_has ls 8 [(6, .int x18), (4, .long z17), (3, .int z6), (2, .int z3), (1, va_rf a1), (0, .ref h)] := hl
              obtain ⟨z34, ez34⟩ : ∃ z : Int32, z = x18 + 1 := ⟨_, rfl⟩
              have hw := hw z34 ez34
              refine lv_iinc (lv' := [(6, .int z34), (4, .long z17), (3, .int z6), (2, .int z3), (1, va_rf a1), (0, .ref h)]) (k := 0) (v := z34) hx hb dX11_endFormer_156 hl rfl ez34.symm (by decide) rfl (fun ls hl => ?_)
              refine lv_goto (tgt := 94) hx hb dX11_endFormer_159 rfl ?_
              exact ih21 z34 κ30 ls _ _ _ _ hl hw hH
            · skip
              refine w_lif_ne (tgt := 156) hF dX11_endFormer_127 dX11_endFormer_128 rfl hw (fun hw => ?_) (fun hw => ?_)
              · have hl : lv_has ls 8 [(6, .int x18), (4, .long z17), (3, .int z6), (2, .int z3), (1, va_rf a1), (0, .ref h)] := lv_sub hl [1, 2, 3, 4, 5, 6] rfl
                exact jn33 () κ26 ls _ _ _ _ hl hw hH
              · refine w_aloadq hF dX11_endFormer_131 (lv_at hl 0 rfl) ?_
                refine w_aloadq_n hF dX11_endFormer_133 rfl (lv_at hl 5 rfl) ?_
                refine lv_iload_n hx hb dX11_endFormer_134 rfl (lv_at hl 4 rfl) ?_
                refine lv_iload_n hx hb dX11_endFormer_135 rfl (lv_at hl 3 rfl) ?_
                refine cw_cViq (q := z27) (As := [va_rf a1, .int z3, .int z6]) (rest := []) hF hH hA hE mv_X11_607 ci_X7 (by decide) hw (fun b hw sz => c_X7_isNamed l D t G _ b a1 z3 z6 _ hw sz) dX11_endFormer_136 ⟨Nat.le_of_ble_eq_true rfl, Nat.le_of_ble_eq_true rfl⟩ rfl hl.1 (Nat.le_of_ble_eq_true rfl) rfl (fun z36 κ35 H locs cells slots hw hH => ?_)
                refine w_if_eq (tgt := 156) hF dX11_endFormer_139 rfl hw (fun hw => ?_) (fun hw => ?_)
                · have hl : lv_has ls 8 [(6, .int x18), (4, .long z17), (3, .int z6), (2, .int z3), (1, va_rf a1), (0, .ref h)] := lv_sub hl [1, 2, 3, 4, 5, 6] rfl
                  exact jn33 () κ35 ls _ _ _ _ hl hw hH
                · refine w_aloadq hF dX11_endFormer_142 (lv_at hl 0 rfl) ?_
                  refine lv_iconst (v := 1) hx hb dX11_endFormer_144 (by decide) ?_
                  refine cw_putZ (q := z27) (v := 1) hF hH fk_X11_507 dX11_endFormer_145 rfl rfl hw (fun κ37 H locs cells slots hw hH => ?_)
                  refine lv_aload_n hx hb dX11_endFormer_148 rfl (lv_at hl 6 rfl) ?_
                  refine cw_null dX11_endFormer_149 hF ?_
                  refine w_aloadq hF dX11_endFormer_150 (lv_at hl 0 rfl) ?_
                  refine cw_null dX11_endFormer_152 hF ?_
                  refine cw_cVv (b := h) (As := [va_rf (none : Option Nat), va_rf z27, va_rf (none : Option Nat)]) (rest := []) hF hH hA hE mv_X11_503 ci_X11 (by decide) (fun sz => c_X11_giveUp l D t G _ h (none : Option Nat) z27 (none : Option Nat) _ hw.2 sz) dX11_endFormer_153 hw.1 ⟨Nat.le_of_ble_eq_true rfl, Nat.le_of_ble_eq_true rfl⟩ rfl hl.1 (Nat.le_of_ble_eq_true rfl) rfl (fun κ38 H locs cells slots hw hH => ?_)
                  have hl : lv_has ls 8 [(6, .int x18), (4, .long z17), (3, .int z6), (2, .int z3), (1, va_rf a1), (0, .ref h)] := lv_sub hl [1, 2, 3, 4, 5, 6] rfl
                  exact jn33 () κ38 ls _ _ _ _ hl hw hH
        · refine w_aloadq_n hF dX11_endFormer_42 rfl (lv_at hl 3 rfl) ?_
          refine lv_iload_n hx hb dX11_endFormer_43 rfl (lv_at hl 2 rfl) ?_
          refine lv_iload hx hb dX11_endFormer_44 (lv_at hl 0 rfl) ?_
          refine lv_iadd hx hb dX11_endFormer_46 ?_
          refine w_nmi hw (fun z40 hw => ?_)
          refine lv_iconst (v := 1) hx hb dX11_endFormer_47 (by decide) ?_
          refine cw_cVlq (q := a1) (As := [.int z40, .int 1]) (rest := []) hF hH hA hE mv_X11_394 ci_X0 (by decide) hw (fun b hw sz => c_X0_number l D t G _ b z40 1 _ hw sz) dX11_endFormer_48 ⟨Nat.le_of_ble_eq_true rfl, Nat.le_of_ble_eq_true rfl⟩ rfl hl.1 (Nat.le_of_ble_eq_true rfl) rfl (fun z42 κ41 H locs cells slots hw hH => ?_)
          refine lv_lstore (lv' := [(5, .long z42), (4, .int x12), (3, .int z6), (2, .int z3), (1, va_rf a1), (0, .ref h)]) hx hb dX11_endFormer_51 hl (by decide) rfl (fun ls hl => ?_)
          refine lv_lload hx hb dX11_endFormer_53 (lv_at hl 0 rfl) ?_
          refine lv_ldc2 (v := 33) hx hb hF.1.2.2.2.1 (hF.1.2.2.2.2 _ (wc_12 24 rfl)) dX11_endFormer_55 ?_
          obtain ⟨K45, hK46, hw⟩ := jc_open hw
          refine cw_join (K := K45) 71 (fun (x43 : Unit) => []) (fun (x43 : Unit) => []) hl hH (fun x43 κ44 ls H locs cells slots hl hw hH => ?_) (fun jn47 => ?_)
          · have hw := hK46 x43 κ44 hw
            have hl : lv_has ls 8 [] := hl
            refine lv_ldcw (v := (-1073741811)) hx hb hF.1.2.2.2.1 (hF.1.2.2.2.2 _ (wc_16 24 rfl)) dX11_endFormer_71 ?_
            exact cw_reti hF hH ⟨rfl, rfl⟩ hr rfl hlk dX11_endFormer_74 hw
          · skip
            refine w_lif_lt (tgt := 71) hF dX11_endFormer_58 dX11_endFormer_59 rfl hw (fun hw => ?_) (fun hw => ?_)
            · have hl : lv_has ls 8 [] := lv_sub hl [] rfl
              exact jn47 () κ41 ls _ _ _ _ hl hw hH
            · refine lv_lload hx hb dX11_endFormer_62 (lv_at hl 0 rfl) ?_
              refine lv_ldc2 (v := 126) hx hb hF.1.2.2.2.1 (hF.1.2.2.2.2 _ (wc_12 25 rfl)) dX11_endFormer_64 ?_
              refine w_lif_le (tgt := 75) hF dX11_endFormer_67 dX11_endFormer_68 rfl hw (fun hw => ?_) (fun hw => ?_)
              · obtain ⟨z48, ez48⟩ : ∃ z : Int32, z = x12 + 1 := ⟨_, rfl⟩
                have hw := hw z48 ez48
                refine lv_iinc (lv' := [(4, .int z48), (5, .long z42), (3, .int z6), (2, .int z3), (1, va_rf a1), (0, .ref h)]) (k := 1) (v := z48) hx hb dX11_endFormer_75 hl rfl ez48.symm (by decide) rfl (fun ls hl => ?_)
                refine lv_goto (tgt := 36) hx hb dX11_endFormer_78 rfl ?_
                have hl : lv_has ls 8 [(4, .int z48), (3, .int z6), (2, .int z3), (1, va_rf a1), (0, .ref h)] := lv_sub hl [0, 2, 3, 4, 5] rfl
                exact ih15 z48 κ41 ls _ _ _ _ hl hw hH
              · have hl : lv_has ls 8 [] := lv_sub hl [] rfl
                exact jn47 () κ41 ls _ _ _ _ hl hw hH
      · have hl : lv_has ls 8 [] := lv_sub hl [] rfl
        exact jn11 () κ4 ls _ _ _ _ hl hw hH
set_option maxRecDepth 100000 in
def F_X11_readWish (G : GE) (h : Nat) (a1 : Option Nat) (post : Int32 → CS → Prop) (κ : CS) : Prop := ∃ b : Nat, a1 = some b ∧ (b ∈ sL κ.1 ∧ sK κ.1 b = 8) ∧ F_X0_number G b 96 4 (fun (z2 : Int64) (κ1 : CS) => ∃ b : Nat, a1 = some b ∧ (b ∈ sL κ1.1 ∧ sK κ1.1 b = 8) ∧ F_X0_number G b 100 4 (fun (z4 : Int64) (κ3 : CS) => jc (fun (K7 : Unit → CS → Prop) => (((7 : Int64).toInt < z2.toInt) → K7 () κ3) ∧ ((z2.toInt ≤ (7 : Int64).toInt) → ((z4.toInt ≤ (5 : Int64).toInt) → (13 + 12 ≤ κ3.2) ∧ ∀ o10 : Nat, o10 ∉ sL κ3.1 → ∀ κ11 : CS, κ11 = (h_uN κ3.1 o10 13 0, κ3.2 - (13 + 12)) → F_X10_init G o10  (fun (κ12 : CS) => ∀ z14 : Int32, z14 = (z2 : Int64).toInt32 → (o10 ∈ sL κ12.1 ∧ sK κ12.1 o10 = 13) ∧ ∀ κ15 : CS, κ15 = (h_uI κ12.1 o10 3 z14, κ12.2) → ∀ z16 : Int32, z16 = (z4 : Int64).toInt32 → (o10 ∈ sL κ15.1 ∧ sK κ15.1 o10 = 13) ∧ ∀ κ17 : CS, κ17 = (h_uI κ15.1 o10 4 z16, κ15.2) → ∃ b : Nat, a1 = some b ∧ (b ∈ sL κ17.1 ∧ sK κ17.1 b = 8) ∧ F_X0_number G b 104 4 (fun (z19 : Int64) (κ18 : CS) => ∀ z20 : Int32, z20 = (z19 : Int64).toInt32 → (o10 ∈ sL κ18.1 ∧ sK κ18.1 o10 = 13) ∧ F_X10_takeOptions G o10 z20 (fun (κ21 : CS) => (o10 ∈ sL κ21.1 ∧ sK κ21.1 o10 = 13) ∧ ∀ z23 : Int32, z23 = sI κ21.1 o10 5 → jc (fun (K26 : Unit → CS → Prop) => ((z23.toInt = 0) → K26 () κ21) ∧ ((¬ z23.toInt = 0) → (o10 ∈ sL κ21.1 ∧ sK κ21.1 o10 = 13) ∧ ∀ z79 : Int32, z79 = sI κ21.1 o10 6 → jc (fun (K82 : Unit → CS → Prop) => ((¬ z79.toInt = 0) → K82 () κ21) ∧ ((z79.toInt = 0) → (o10 ∈ sL κ21.1 ∧ sK κ21.1 o10 = 13) ∧ F_X10_empties G o10  (fun (z86 : Int32) (κ85 : CS) => ((z86.toInt = 0) → K26 () κ85) ∧ ((¬ z86.toInt = 0) → K82 () κ85)) κ21)) (fun (x80 : Unit) (κ81 : CS) => post (-1073741811) κ81))) (fun (x24 : Unit) (κ25 : CS) => ∃ b : Nat, a1 = some b ∧ (b ∈ sL κ25.1 ∧ sK κ25.1 b = 8) ∧ F_X0_number G b 88 4 (fun (z30 : Int64) (κ29 : CS) => ∀ z31 : Int32, z31 = (z30 : Int64).toInt32 → (o10 ∈ sL κ29.1 ∧ sK κ29.1 o10 = 13) ∧ F_X10_takeAccess G o10 z31 (fun (κ32 : CS) => (o10 ∈ sL κ32.1 ∧ sK κ32.1 o10 = 13) ∧ ∀ z34 : Int32, z34 = sI κ32.1 o10 1 → jc (fun (K37 : Unit → CS → Prop) => ((z34.toInt = 0) → K37 () κ32) ∧ ((¬ z34.toInt = 0) → (o10 ∈ sL κ32.1 ∧ sK κ32.1 o10 = 13) ∧ ∀ z40 : Int32, z40 = sI κ32.1 o10 7 → jc (fun (K43 : Unit → CS → Prop) => ((z40.toInt = 0) → K43 () κ32) ∧ ((¬ z40.toInt = 0) → (o10 ∈ sL κ32.1 ∧ sK κ32.1 o10 = 13) ∧ ∀ z77 : Int32, z77 = sI κ32.1 o10 1 → ∀ z78 : Int32, z78 = z77 &&& 65536 → ((¬ z78.toInt = 0) → K43 () κ32) ∧ ((z78.toInt = 0) → K37 () κ32))) (fun (x41 : Unit) (κ42 : CS) => ∃ b : Nat, a1 = some b ∧ (b ∈ sL κ42.1 ∧ sK κ42.1 b = 8) ∧ F_X0_number G b 67 1 (fun (z47 : Int64) (κ46 : CS) => ∀ z48 : Int32, z48 = (z47 : Int64).toInt32 → jc (fun (K51 : Int32 → CS → Prop) => jc (fun (K74 : Unit → CS → Prop) => ((z48.toInt = (1 : Int32).toInt) → K74 () κ46) ∧ ((¬ z48.toInt = (1 : Int32).toInt) → ((z48.toInt = (8 : Int32).toInt) → K74 () κ46) ∧ ((¬ z48.toInt = (8 : Int32).toInt) → ((¬ z48.toInt = (9 : Int32).toInt) → K51 0 κ46) ∧ ((z48.toInt = (9 : Int32).toInt) → K74 () κ46)))) (fun (x72 : Unit) (κ73 : CS) => K51 z48 κ73)) (fun (x49 : Int32) (κ50 : CS) => (o10 ∈ sL κ50.1 ∧ sK κ50.1 o10 = 13) ∧ ∀ κ54 : CS, κ54 = (h_uI κ50.1 o10 0 x49, κ50.2) → ∃ b : Nat, a1 = some b ∧ (b ∈ sL κ54.1 ∧ sK κ54.1 b = 8) ∧ F_X0_number G b 92 4 (fun (z56 : Int64) (κ55 : CS) => ∀ z57 : Int32, z57 = (z56 : Int64).toInt32 → (o10 ∈ sL κ55.1 ∧ sK κ55.1 o10 = 13) ∧ ∀ κ58 : CS, κ58 = (h_uI κ55.1 o10 2 z57, κ55.2) → ∃ b : Nat, a1 = some b ∧ (b ∈ sL κ58.1 ∧ sK κ58.1 b = 8) ∧ ∀ κ59 : CS, κ59 = (h_uP κ58.1 b 17 (some o10), κ58.2) → ∃ b : Nat, a1 = some b ∧ (b ∈ sL κ59.1 ∧ sK κ59.1 b = 8) ∧ F_X0_number G b 108 2 (fun (z61 : Int64) (κ60 : CS) => ∀ z62 : Int32, z62 = (z61 : Int64).toInt32 → ∃ b : Nat, a1 = some b ∧ (b ∈ sL κ60.1 ∧ sK κ60.1 b = 8) ∧ F_X0_number G b 110 2 (fun (z64 : Int64) (κ63 : CS) => (o10 ∈ sL κ63.1 ∧ sK κ63.1 o10 = 13) ∧ F_X10_takePath G o10 a1 z62 z64 (fun (z66 : Int32) (κ65 : CS) => jc (fun (K69 : Int32 → CS → Prop) => ((z66.toInt = 0) → K69 (-1073741773) κ65) ∧ ((¬ z66.toInt = 0) → K69 0 κ65)) (fun (x67 : Int32) (κ68 : CS) => post x67 κ68)) κ63) κ60) κ59) κ54)) κ42))) (fun (x35 : Unit) (κ36 : CS) => post (-1073741790) κ36)) κ29) κ25)) κ18) κ17) κ11) ∧ (((5 : Int64).toInt < z4.toInt) → K7 () κ3))) (fun (x5 : Unit) (κ6 : CS) => post (-1073741811) κ6)) κ1) κ
theorem dX11_readWish_0 : decode cX11_readWish 0 = .ok (.aload_n 1, 1) := by decide +kernel
theorem dX11_readWish_1 : decode cX11_readWish 1 = .ok (.bipush 96, 2) := by decide +kernel
theorem dX11_readWish_3 : decode cX11_readWish 3 = .ok (.iconst 4, 1) := by decide +kernel
theorem dX11_readWish_4 : decode cX11_readWish 4 = .ok (.invokevirtual 394, 3) := by decide +kernel
theorem dX11_readWish_7 : decode cX11_readWish 7 = .ok (.lstore_n 2, 1) := by decide +kernel
theorem dX11_readWish_8 : decode cX11_readWish 8 = .ok (.aload_n 1, 1) := by decide +kernel
theorem dX11_readWish_9 : decode cX11_readWish 9 = .ok (.bipush 100, 2) := by decide +kernel
theorem dX11_readWish_11 : decode cX11_readWish 11 = .ok (.iconst 4, 1) := by decide +kernel
theorem dX11_readWish_12 : decode cX11_readWish 12 = .ok (.invokevirtual 394, 3) := by decide +kernel
theorem dX11_readWish_15 : decode cX11_readWish 15 = .ok (.lstore 4, 2) := by decide +kernel
theorem dX11_readWish_17 : decode cX11_readWish 17 = .ok (.lload_n 2, 1) := by decide +kernel
theorem dX11_readWish_18 : decode cX11_readWish 18 = .ok (.ldc2_w 627, 3) := by decide +kernel
theorem dX11_readWish_21 : decode cX11_readWish 21 = .ok (.lcmp, 1) := by decide +kernel
theorem dX11_readWish_22 : decode cX11_readWish 22 = .ok (.ifCond .gt 12, 3) := by decide +kernel
theorem dX11_readWish_25 : decode cX11_readWish 25 = .ok (.lload 4, 2) := by decide +kernel
theorem dX11_readWish_27 : decode cX11_readWish 27 = .ok (.ldc2_w 629, 3) := by decide +kernel
theorem dX11_readWish_30 : decode cX11_readWish 30 = .ok (.lcmp, 1) := by decide +kernel
theorem dX11_readWish_31 : decode cX11_readWish 31 = .ok (.ifCond .le 7, 3) := by decide +kernel
theorem dX11_readWish_34 : decode cX11_readWish 34 = .ok (.ldc_w 398, 3) := by decide +kernel
theorem dX11_readWish_37 : decode cX11_readWish 37 = .ok (.ireturn, 1) := by decide +kernel
theorem dX11_readWish_38 : decode cX11_readWish 38 = .ok (.new 631, 3) := by decide +kernel
theorem dX11_readWish_41 : decode cX11_readWish 41 = .ok (.dup, 1) := by decide +kernel
theorem dX11_readWish_42 : decode cX11_readWish 42 = .ok (.invokespecial 633, 3) := by decide +kernel
theorem dX11_readWish_45 : decode cX11_readWish 45 = .ok (.astore 6, 2) := by decide +kernel
theorem dX11_readWish_47 : decode cX11_readWish 47 = .ok (.aload 6, 2) := by decide +kernel
theorem dX11_readWish_49 : decode cX11_readWish 49 = .ok (.lload_n 2, 1) := by decide +kernel
theorem dX11_readWish_50 : decode cX11_readWish 50 = .ok (.l2i, 1) := by decide +kernel
theorem dX11_readWish_51 : decode cX11_readWish 51 = .ok (.putfield 634, 3) := by decide +kernel
theorem dX11_readWish_54 : decode cX11_readWish 54 = .ok (.aload 6, 2) := by decide +kernel
theorem dX11_readWish_56 : decode cX11_readWish 56 = .ok (.lload 4, 2) := by decide +kernel
theorem dX11_readWish_58 : decode cX11_readWish 58 = .ok (.l2i, 1) := by decide +kernel
theorem dX11_readWish_59 : decode cX11_readWish 59 = .ok (.putfield 637, 3) := by decide +kernel
theorem dX11_readWish_62 : decode cX11_readWish 62 = .ok (.aload 6, 2) := by decide +kernel
theorem dX11_readWish_64 : decode cX11_readWish 64 = .ok (.aload_n 1, 1) := by decide +kernel
theorem dX11_readWish_65 : decode cX11_readWish 65 = .ok (.bipush 104, 2) := by decide +kernel
theorem dX11_readWish_67 : decode cX11_readWish 67 = .ok (.iconst 4, 1) := by decide +kernel
theorem dX11_readWish_68 : decode cX11_readWish 68 = .ok (.invokevirtual 394, 3) := by decide +kernel
theorem dX11_readWish_71 : decode cX11_readWish 71 = .ok (.l2i, 1) := by decide +kernel
theorem dX11_readWish_72 : decode cX11_readWish 72 = .ok (.invokevirtual 640, 3) := by decide +kernel
theorem dX11_readWish_75 : decode cX11_readWish 75 = .ok (.aload 6, 2) := by decide +kernel
theorem dX11_readWish_77 : decode cX11_readWish 77 = .ok (.getfield 643, 3) := by decide +kernel
theorem dX11_readWish_80 : decode cX11_readWish 80 = .ok (.ifCond .eq 23, 3) := by decide +kernel
theorem dX11_readWish_83 : decode cX11_readWish 83 = .ok (.aload 6, 2) := by decide +kernel
theorem dX11_readWish_85 : decode cX11_readWish 85 = .ok (.getfield 644, 3) := by decide +kernel
theorem dX11_readWish_88 : decode cX11_readWish 88 = .ok (.ifCond .ne 11, 3) := by decide +kernel
theorem dX11_readWish_91 : decode cX11_readWish 91 = .ok (.aload 6, 2) := by decide +kernel
theorem dX11_readWish_93 : decode cX11_readWish 93 = .ok (.invokevirtual 647, 3) := by decide +kernel
theorem dX11_readWish_96 : decode cX11_readWish 96 = .ok (.ifCond .eq 7, 3) := by decide +kernel
theorem dX11_readWish_99 : decode cX11_readWish 99 = .ok (.ldc_w 398, 3) := by decide +kernel
theorem dX11_readWish_102 : decode cX11_readWish 102 = .ok (.ireturn, 1) := by decide +kernel
theorem dX11_readWish_103 : decode cX11_readWish 103 = .ok (.aload 6, 2) := by decide +kernel
theorem dX11_readWish_105 : decode cX11_readWish 105 = .ok (.aload_n 1, 1) := by decide +kernel
theorem dX11_readWish_106 : decode cX11_readWish 106 = .ok (.bipush 88, 2) := by decide +kernel
theorem dX11_readWish_108 : decode cX11_readWish 108 = .ok (.iconst 4, 1) := by decide +kernel
theorem dX11_readWish_109 : decode cX11_readWish 109 = .ok (.invokevirtual 394, 3) := by decide +kernel
theorem dX11_readWish_112 : decode cX11_readWish 112 = .ok (.l2i, 1) := by decide +kernel
theorem dX11_readWish_113 : decode cX11_readWish 113 = .ok (.invokevirtual 650, 3) := by decide +kernel
theorem dX11_readWish_116 : decode cX11_readWish 116 = .ok (.aload 6, 2) := by decide +kernel
theorem dX11_readWish_118 : decode cX11_readWish 118 = .ok (.getfield 653, 3) := by decide +kernel
theorem dX11_readWish_121 : decode cX11_readWish 121 = .ok (.ifCond .eq 23, 3) := by decide +kernel
theorem dX11_readWish_124 : decode cX11_readWish 124 = .ok (.aload 6, 2) := by decide +kernel
theorem dX11_readWish_126 : decode cX11_readWish 126 = .ok (.getfield 656, 3) := by decide +kernel
theorem dX11_readWish_129 : decode cX11_readWish 129 = .ok (.ifCond .eq 19, 3) := by decide +kernel
theorem dX11_readWish_132 : decode cX11_readWish 132 = .ok (.aload 6, 2) := by decide +kernel
theorem dX11_readWish_134 : decode cX11_readWish 134 = .ok (.getfield 653, 3) := by decide +kernel
theorem dX11_readWish_137 : decode cX11_readWish 137 = .ok (.ldc_w 657, 3) := by decide +kernel
theorem dX11_readWish_140 : decode cX11_readWish 140 = .ok (.iand, 1) := by decide +kernel
theorem dX11_readWish_141 : decode cX11_readWish 141 = .ok (.ifCond .ne 7, 3) := by decide +kernel
theorem dX11_readWish_144 : decode cX11_readWish 144 = .ok (.ldc_w 658, 3) := by decide +kernel
theorem dX11_readWish_147 : decode cX11_readWish 147 = .ok (.ireturn, 1) := by decide +kernel
theorem dX11_readWish_148 : decode cX11_readWish 148 = .ok (.aload_n 1, 1) := by decide +kernel
theorem dX11_readWish_149 : decode cX11_readWish 149 = .ok (.bipush 67, 2) := by decide +kernel
theorem dX11_readWish_151 : decode cX11_readWish 151 = .ok (.iconst 1, 1) := by decide +kernel
theorem dX11_readWish_152 : decode cX11_readWish 152 = .ok (.invokevirtual 394, 3) := by decide +kernel
theorem dX11_readWish_155 : decode cX11_readWish 155 = .ok (.l2i, 1) := by decide +kernel
theorem dX11_readWish_156 : decode cX11_readWish 156 = .ok (.istore 7, 2) := by decide +kernel
theorem dX11_readWish_158 : decode cX11_readWish 158 = .ok (.aload 6, 2) := by decide +kernel
theorem dX11_readWish_160 : decode cX11_readWish 160 = .ok (.iload 7, 2) := by decide +kernel
theorem dX11_readWish_162 : decode cX11_readWish 162 = .ok (.iconst 1, 1) := by decide +kernel
theorem dX11_readWish_163 : decode cX11_readWish 163 = .ok (.if_icmp .eq 17, 3) := by decide +kernel
theorem dX11_readWish_166 : decode cX11_readWish 166 = .ok (.iload 7, 2) := by decide +kernel
theorem dX11_readWish_168 : decode cX11_readWish 168 = .ok (.bipush 8, 2) := by decide +kernel
theorem dX11_readWish_170 : decode cX11_readWish 170 = .ok (.if_icmp .eq 10, 3) := by decide +kernel
theorem dX11_readWish_173 : decode cX11_readWish 173 = .ok (.iload 7, 2) := by decide +kernel
theorem dX11_readWish_175 : decode cX11_readWish 175 = .ok (.bipush 9, 2) := by decide +kernel
theorem dX11_readWish_177 : decode cX11_readWish 177 = .ok (.if_icmp .ne 8, 3) := by decide +kernel
theorem dX11_readWish_180 : decode cX11_readWish 180 = .ok (.iload 7, 2) := by decide +kernel
theorem dX11_readWish_182 : decode cX11_readWish 182 = .ok (.goto 4, 3) := by decide +kernel
theorem dX11_readWish_185 : decode cX11_readWish 185 = .ok (.iconst 0, 1) := by decide +kernel
theorem dX11_readWish_186 : decode cX11_readWish 186 = .ok (.putfield 659, 3) := by decide +kernel
theorem dX11_readWish_189 : decode cX11_readWish 189 = .ok (.aload 6, 2) := by decide +kernel
theorem dX11_readWish_191 : decode cX11_readWish 191 = .ok (.aload_n 1, 1) := by decide +kernel
theorem dX11_readWish_192 : decode cX11_readWish 192 = .ok (.bipush 92, 2) := by decide +kernel
theorem dX11_readWish_194 : decode cX11_readWish 194 = .ok (.iconst 4, 1) := by decide +kernel
theorem dX11_readWish_195 : decode cX11_readWish 195 = .ok (.invokevirtual 394, 3) := by decide +kernel
theorem dX11_readWish_198 : decode cX11_readWish 198 = .ok (.l2i, 1) := by decide +kernel
theorem dX11_readWish_199 : decode cX11_readWish 199 = .ok (.putfield 662, 3) := by decide +kernel
theorem dX11_readWish_202 : decode cX11_readWish 202 = .ok (.aload_n 1, 1) := by decide +kernel
theorem dX11_readWish_203 : decode cX11_readWish 203 = .ok (.aload 6, 2) := by decide +kernel
theorem dX11_readWish_205 : decode cX11_readWish 205 = .ok (.putfield 591, 3) := by decide +kernel
theorem dX11_readWish_208 : decode cX11_readWish 208 = .ok (.aload 6, 2) := by decide +kernel
theorem dX11_readWish_210 : decode cX11_readWish 210 = .ok (.aload_n 1, 1) := by decide +kernel
theorem dX11_readWish_211 : decode cX11_readWish 211 = .ok (.aload_n 1, 1) := by decide +kernel
theorem dX11_readWish_212 : decode cX11_readWish 212 = .ok (.bipush 108, 2) := by decide +kernel
theorem dX11_readWish_214 : decode cX11_readWish 214 = .ok (.iconst 2, 1) := by decide +kernel
theorem dX11_readWish_215 : decode cX11_readWish 215 = .ok (.invokevirtual 394, 3) := by decide +kernel
theorem dX11_readWish_218 : decode cX11_readWish 218 = .ok (.l2i, 1) := by decide +kernel
theorem dX11_readWish_219 : decode cX11_readWish 219 = .ok (.aload_n 1, 1) := by decide +kernel
theorem dX11_readWish_220 : decode cX11_readWish 220 = .ok (.bipush 110, 2) := by decide +kernel
theorem dX11_readWish_222 : decode cX11_readWish 222 = .ok (.iconst 2, 1) := by decide +kernel
theorem dX11_readWish_223 : decode cX11_readWish 223 = .ok (.invokevirtual 394, 3) := by decide +kernel
theorem dX11_readWish_226 : decode cX11_readWish 226 = .ok (.invokevirtual 665, 3) := by decide +kernel
theorem dX11_readWish_229 : decode cX11_readWish 229 = .ok (.ifCond .eq 7, 3) := by decide +kernel
theorem dX11_readWish_232 : decode cX11_readWish 232 = .ok (.iconst 0, 1) := by decide +kernel
theorem dX11_readWish_233 : decode cX11_readWish 233 = .ok (.goto 6, 3) := by decide +kernel
theorem dX11_readWish_236 : decode cX11_readWish 236 = .ok (.ldc_w 669, 3) := by decide +kernel
theorem dX11_readWish_239 : decode cX11_readWish 239 = .ok (.ireturn, 1) := by decide +kernel
set_option maxRecDepth 100000 in
set_option maxHeartbeats 4000000 in
theorem c_X11_readWish (l : Launch) (D : va_G) (t : Nat → ClassId) (G : GE) (κ : CS) (h : Nat) (a1 : Option Nat) (post : Int32 → CS → Prop) (hw : F_X11_readWish G h a1 post κ) (sz : Nat) : CMi l D t yX11_readWish cX11_readWish 8 (some .int) 11 276 G κ sz [.ref h, va_rf a1] post := by
  refine c_go (by decide) (by cases a1 <;> exact Nat.le_of_ble_eq_true rfl) ?_
  intro p e s m below meth c ls A hF hr hlk hin hAe hH hA hE hl
  unfold cB
  rw [hAe]
  clear hAe
  have hF : FX p m c cX11_readWish 8 s _ RX11 D t := hF
  have hx := hF.1.1
  have hb := hF.1.2.1
  have hl : lv_has ls 8 [(0, .ref h), (1, va_rf a1)] := (by have h2 := hl; clear hw; revert h2; cases a1 <;> exact id)
  unfold F_X11_readWish at hw
  refine w_aloadq_n hF dX11_readWish_0 rfl (lv_at hl 1 rfl) ?_
  refine lv_bipush (v := 96) hx hb dX11_readWish_1 (by decide) ?_
  refine lv_iconst (v := 4) hx hb dX11_readWish_3 (by decide) ?_
  refine cw_cVlq (q := a1) (As := [.int 96, .int 4]) (rest := []) hF hH hA hE mv_X11_394 ci_X0 (by decide) hw (fun b hw sz => c_X0_number l D t G _ b 96 4 _ hw sz) dX11_readWish_4 ⟨Nat.le_of_ble_eq_true rfl, Nat.le_of_ble_eq_true rfl⟩ rfl hl.1 (Nat.le_of_ble_eq_true rfl) rfl (fun z2 κ1 H locs cells slots hw hH => ?_)
  refine lv_lstore_n (lv' := [(2, .long z2), (0, .ref h), (1, va_rf a1)]) hx hb dX11_readWish_7 rfl hl (by decide) (by generalize a1 = y; cases y <;> rfl) (fun ls hl => ?_)
  refine w_aloadq_n hF dX11_readWish_8 rfl (lv_at hl 2 rfl) ?_
  refine lv_bipush (v := 100) hx hb dX11_readWish_9 (by decide) ?_
  refine lv_iconst (v := 4) hx hb dX11_readWish_11 (by decide) ?_
  refine cw_cVlq (q := a1) (As := [.int 100, .int 4]) (rest := []) hF hH hA hE mv_X11_394 ci_X0 (by decide) hw (fun b hw sz => c_X0_number l D t G _ b 100 4 _ hw sz) dX11_readWish_12 ⟨Nat.le_of_ble_eq_true rfl, Nat.le_of_ble_eq_true rfl⟩ rfl hl.1 (Nat.le_of_ble_eq_true rfl) rfl (fun z4 κ3 H locs cells slots hw hH => ?_)
  refine lv_lstore (lv' := [(4, .long z4), (2, .long z2), (0, .ref h), (1, va_rf a1)]) hx hb dX11_readWish_15 hl (by decide) rfl (fun ls hl => ?_)
  refine lv_lload_n hx hb dX11_readWish_17 rfl (lv_at hl 1 rfl) ?_
  refine lv_ldc2 (v := 7) hx hb hF.1.2.2.2.1 (hF.1.2.2.2.2 _ (wc_27 9 rfl)) dX11_readWish_18 ?_
  obtain ⟨K7, hK8, hw⟩ := jc_open hw
  refine cw_join (K := K7) 34 (fun (x5 : Unit) => []) (fun (x5 : Unit) => []) hl hH (fun x5 κ6 ls H locs cells slots hl hw hH => ?_) (fun jn9 => ?_)
  · have hw := hK8 x5 κ6 hw
    have hl : lv_has ls 8 [] := hl
    refine lv_ldcw (v := (-1073741811)) hx hb hF.1.2.2.2.1 (hF.1.2.2.2.2 _ (wc_16 24 rfl)) dX11_readWish_34 ?_
    exact cw_reti hF hH ⟨rfl, rfl⟩ hr rfl hlk dX11_readWish_37 hw
  · skip
    refine w_lif_gt (tgt := 34) hF dX11_readWish_21 dX11_readWish_22 rfl hw (fun hw => ?_) (fun hw => ?_)
    · have hl : lv_has ls 8 [] := lv_sub hl [] rfl
      exact jn9 () κ3 ls _ _ _ _ hl hw hH
    · refine lv_lload hx hb dX11_readWish_25 (lv_at hl 0 rfl) ?_
      refine lv_ldc2 (v := 5) hx hb hF.1.2.2.2.1 (hF.1.2.2.2.2 _ (wc_27 10 rfl)) dX11_readWish_27 ?_
      refine w_lif_le (tgt := 38) hF dX11_readWish_30 dX11_readWish_31 rfl hw (fun hw => ?_) (fun hw => ?_)
      · refine cw_new hF hH hA ci_X10 (by decide) rfl df_X10 dX11_readWish_38 (wc_27 11 rfl) (wc_27 12 rfl) (wc_6 37 rfl) hw (fun o10 κ11 H locs cells slots hw hH => ?_)
        refine lv_dup hx hb dX11_readWish_41 rfl ?_
        refine cw_cIN (b := o10) (As := []) (rest := [.ref o10]) hF hH hA hE min_X11_633 (fun sz => c_X10_init l D t G _ o10  _ hw sz) dX11_readWish_42 ⟨Nat.le_of_ble_eq_true rfl, Nat.le_of_ble_eq_true rfl⟩ rfl hl.1 (Nat.le_of_ble_eq_true rfl) rfl (fun κ12 H locs cells slots hw hH => ?_)
        refine lv_astore (lv' := [(6, .ref o10), (4, .long z4), (2, .long z2), (0, .ref h), (1, va_rf a1)]) hx hb dX11_readWish_45 hl (by decide) rfl (fun ls hl => ?_)
        refine lv_aload hx hb dX11_readWish_47 (lv_at hl 0 rfl) ?_
        refine lv_lload_n hx hb dX11_readWish_49 rfl (lv_at hl 2 rfl) ?_
        refine lv_l2i hx hb dX11_readWish_50 rfl ?_
        refine w_nmi hw (fun z14 hw => ?_)
        refine cw_putIr (a := o10) (v := z14) hF hH fk_X11_634 dX11_readWish_51 rfl rfl rfl hw (fun κ15 H locs cells slots hw hH => ?_)
        refine lv_aload hx hb dX11_readWish_54 (lv_at hl 0 rfl) ?_
        refine lv_lload hx hb dX11_readWish_56 (lv_at hl 1 rfl) ?_
        refine lv_l2i hx hb dX11_readWish_58 rfl ?_
        refine w_nmi hw (fun z16 hw => ?_)
        refine cw_putIr (a := o10) (v := z16) hF hH fk_X11_637 dX11_readWish_59 rfl rfl rfl hw (fun κ17 H locs cells slots hw hH => ?_)
        refine lv_aload hx hb dX11_readWish_62 (lv_at hl 0 rfl) ?_
        refine w_aloadq_n hF dX11_readWish_64 rfl (lv_at hl 4 rfl) ?_
        refine lv_bipush (v := 104) hx hb dX11_readWish_65 (by decide) ?_
        refine lv_iconst (v := 4) hx hb dX11_readWish_67 (by decide) ?_
        refine cw_cVlq (q := a1) (As := [.int 104, .int 4]) (rest := [.ref o10]) hF hH hA hE mv_X11_394 ci_X0 (by decide) hw (fun b hw sz => c_X0_number l D t G _ b 104 4 _ hw sz) dX11_readWish_68 ⟨Nat.le_of_ble_eq_true rfl, Nat.le_of_ble_eq_true rfl⟩ rfl hl.1 (Nat.le_of_ble_eq_true rfl) rfl (fun z19 κ18 H locs cells slots hw hH => ?_)
        refine lv_l2i hx hb dX11_readWish_71 rfl ?_
        refine w_nmi hw (fun z20 hw => ?_)
        refine cw_cVv (b := o10) (As := [.int z20]) (rest := []) hF hH hA hE mv_X11_640 ci_X10 (by decide) (fun sz => c_X10_takeOptions l D t G _ o10 z20 _ hw.2 sz) dX11_readWish_72 hw.1 ⟨Nat.le_of_ble_eq_true rfl, Nat.le_of_ble_eq_true rfl⟩ rfl hl.1 (Nat.le_of_ble_eq_true rfl) rfl (fun κ21 H locs cells slots hw hH => ?_)
        refine lv_aload hx hb dX11_readWish_75 (lv_at hl 0 rfl) ?_
        refine cw_getIr (a := o10) hF hH fk_X11_643 dX11_readWish_77 hw (fun z23 hw => ?_)
        obtain ⟨K26, hK27, hw⟩ := jc_open hw
        refine cw_join (K := K26) 103 (fun (x24 : Unit) => [(6, .ref o10), (1, va_rf a1)]) (fun (x24 : Unit) => []) hl hH (fun x24 κ25 ls H locs cells slots hl hw hH => ?_) (fun jn28 => ?_)
        · have hw := hK27 x24 κ25 hw
          have hl : lv_has ls 8 [(6, .ref o10), (1, va_rf a1)] := hl
          refine lv_aload hx hb dX11_readWish_103 (lv_at hl 0 rfl) ?_
          refine w_aloadq_n hF dX11_readWish_105 rfl (lv_at hl 1 rfl) ?_
          refine lv_bipush (v := 88) hx hb dX11_readWish_106 (by decide) ?_
          refine lv_iconst (v := 4) hx hb dX11_readWish_108 (by decide) ?_
          refine cw_cVlq (q := a1) (As := [.int 88, .int 4]) (rest := [.ref o10]) hF hH hA hE mv_X11_394 ci_X0 (by decide) hw (fun b hw sz => c_X0_number l D t G _ b 88 4 _ hw sz) dX11_readWish_109 ⟨Nat.le_of_ble_eq_true rfl, Nat.le_of_ble_eq_true rfl⟩ rfl hl.1 (Nat.le_of_ble_eq_true rfl) rfl (fun z30 κ29 H locs cells slots hw hH => ?_)
          refine lv_l2i hx hb dX11_readWish_112 rfl ?_
          refine w_nmi hw (fun z31 hw => ?_)
          refine cw_cVv (b := o10) (As := [.int z31]) (rest := []) hF hH hA hE mv_X11_650 ci_X10 (by decide) (fun sz => c_X10_takeAccess l D t G _ o10 z31 _ hw.2 sz) dX11_readWish_113 hw.1 ⟨Nat.le_of_ble_eq_true rfl, Nat.le_of_ble_eq_true rfl⟩ rfl hl.1 (Nat.le_of_ble_eq_true rfl) rfl (fun κ32 H locs cells slots hw hH => ?_)
          refine lv_aload hx hb dX11_readWish_116 (lv_at hl 0 rfl) ?_
          refine cw_getIr (a := o10) hF hH fk_X11_653 dX11_readWish_118 hw (fun z34 hw => ?_)
          obtain ⟨K37, hK38, hw⟩ := jc_open hw
          refine cw_join (K := K37) 144 (fun (x35 : Unit) => []) (fun (x35 : Unit) => []) hl hH (fun x35 κ36 ls H locs cells slots hl hw hH => ?_) (fun jn39 => ?_)
          · have hw := hK38 x35 κ36 hw
            have hl : lv_has ls 8 [] := hl
            refine lv_ldcw (v := (-1073741790)) hx hb hF.1.2.2.2.1 (hF.1.2.2.2.2 _ (wc_22 30 rfl)) dX11_readWish_144 ?_
            exact cw_reti hF hH ⟨rfl, rfl⟩ hr rfl hlk dX11_readWish_147 hw
          · skip
            refine w_if_eq (tgt := 144) hF dX11_readWish_121 rfl hw (fun hw => ?_) (fun hw => ?_)
            · have hl : lv_has ls 8 [] := lv_sub hl [] rfl
              exact jn39 () κ32 ls _ _ _ _ hl hw hH
            · refine lv_aload hx hb dX11_readWish_124 (lv_at hl 0 rfl) ?_
              refine cw_getIr (a := o10) hF hH fk_X11_656 dX11_readWish_126 hw (fun z40 hw => ?_)
              obtain ⟨K43, hK44, hw⟩ := jc_open hw
              refine cw_join (K := K43) 148 (fun (x41 : Unit) => [(6, .ref o10), (1, va_rf a1)]) (fun (x41 : Unit) => []) hl hH (fun x41 κ42 ls H locs cells slots hl hw hH => ?_) (fun jn45 => ?_)
              · have hw := hK44 x41 κ42 hw
                have hl : lv_has ls 8 [(6, .ref o10), (1, va_rf a1)] := hl
                refine w_aloadq_n hF dX11_readWish_148 rfl (lv_at hl 1 rfl) ?_
                refine lv_bipush (v := 67) hx hb dX11_readWish_149 (by decide) ?_
                refine lv_iconst (v := 1) hx hb dX11_readWish_151 (by decide) ?_
                refine cw_cVlq (q := a1) (As := [.int 67, .int 1]) (rest := []) hF hH hA hE mv_X11_394 ci_X0 (by decide) hw (fun b hw sz => c_X0_number l D t G _ b 67 1 _ hw sz) dX11_readWish_152 ⟨Nat.le_of_ble_eq_true rfl, Nat.le_of_ble_eq_true rfl⟩ rfl hl.1 (Nat.le_of_ble_eq_true rfl) rfl (fun z47 κ46 H locs cells slots hw hH => ?_)
                refine lv_l2i hx hb dX11_readWish_155 rfl ?_
                refine w_nmi hw (fun z48 hw => ?_)
                refine lv_istore (lv' := [(7, .int z48), (6, .ref o10), (1, va_rf a1)]) hx hb dX11_readWish_156 hl (by decide) rfl (fun ls hl => ?_)
                refine lv_aload hx hb dX11_readWish_158 (lv_at hl 1 rfl) ?_
                refine lv_iload hx hb dX11_readWish_160 (lv_at hl 0 rfl) ?_
                refine lv_iconst (v := 1) hx hb dX11_readWish_162 (by decide) ?_
                obtain ⟨K51, hK52, hw⟩ := jc_open hw
                refine cw_join (K := K51) 186 (fun (x49 : Int32) => [(6, .ref o10), (1, va_rf a1)]) (fun (x49 : Int32) => [.int x49, .ref o10]) hl hH (fun x49 κ50 ls H locs cells slots hl hw hH => ?_) (fun jn53 => ?_)
                · have hw := hK52 x49 κ50 hw
                  have hl : lv_has ls 8 [(6, .ref o10), (1, va_rf a1)] := hl
                  refine cw_putIr (a := o10) (v := x49) hF hH fk_X11_659 dX11_readWish_186 rfl rfl rfl hw (fun κ54 H locs cells slots hw hH => ?_)
                  refine lv_aload hx hb dX11_readWish_189 (lv_at hl 0 rfl) ?_
                  refine w_aloadq_n hF dX11_readWish_191 rfl (lv_at hl 1 rfl) ?_
                  refine lv_bipush (v := 92) hx hb dX11_readWish_192 (by decide) ?_
                  refine lv_iconst (v := 4) hx hb dX11_readWish_194 (by decide) ?_
                  refine cw_cVlq (q := a1) (As := [.int 92, .int 4]) (rest := [.ref o10]) hF hH hA hE mv_X11_394 ci_X0 (by decide) hw (fun b hw sz => c_X0_number l D t G _ b 92 4 _ hw sz) dX11_readWish_195 ⟨Nat.le_of_ble_eq_true rfl, Nat.le_of_ble_eq_true rfl⟩ rfl hl.1 (Nat.le_of_ble_eq_true rfl) rfl (fun z56 κ55 H locs cells slots hw hH => ?_)
                  refine lv_l2i hx hb dX11_readWish_198 rfl ?_
                  refine w_nmi hw (fun z57 hw => ?_)
                  refine cw_putIr (a := o10) (v := z57) hF hH fk_X11_662 dX11_readWish_199 rfl rfl rfl hw (fun κ58 H locs cells slots hw hH => ?_)
                  refine w_aloadq_n hF dX11_readWish_202 rfl (lv_at hl 1 rfl) ?_
                  refine lv_aload hx hb dX11_readWish_203 (lv_at hl 0 rfl) ?_
                  refine cw_putP (q := a1) (v := (some o10)) hF hH fk_X11_591 dX11_readWish_205 rfl rfl hw (fun κ59 H locs cells slots hw hH => ?_)
                  refine lv_aload hx hb dX11_readWish_208 (lv_at hl 0 rfl) ?_
                  refine w_aloadq_n hF dX11_readWish_210 rfl (lv_at hl 1 rfl) ?_
                  refine w_aloadq_n hF dX11_readWish_211 rfl (lv_at hl 1 rfl) ?_
                  refine lv_bipush (v := 108) hx hb dX11_readWish_212 (by decide) ?_
                  refine lv_iconst (v := 2) hx hb dX11_readWish_214 (by decide) ?_
                  refine cw_cVlq (q := a1) (As := [.int 108, .int 2]) (rest := [va_rf a1, .ref o10]) hF hH hA hE mv_X11_394 ci_X0 (by decide) hw (fun b hw sz => c_X0_number l D t G _ b 108 2 _ hw sz) dX11_readWish_215 ⟨Nat.le_of_ble_eq_true rfl, Nat.le_of_ble_eq_true rfl⟩ rfl hl.1 (by simp only [List.map_cons, List.map_nil, cat_rf]; exact Nat.le_of_ble_eq_true rfl) rfl (fun z61 κ60 H locs cells slots hw hH => ?_)
                  refine lv_l2i hx hb dX11_readWish_218 rfl ?_
                  refine w_nmi hw (fun z62 hw => ?_)
                  refine w_aloadq_n hF dX11_readWish_219 rfl (lv_at hl 1 rfl) ?_
                  refine lv_bipush (v := 110) hx hb dX11_readWish_220 (by decide) ?_
                  refine lv_iconst (v := 2) hx hb dX11_readWish_222 (by decide) ?_
                  refine cw_cVlq (q := a1) (As := [.int 110, .int 2]) (rest := [.int z62, va_rf a1, .ref o10]) hF hH hA hE mv_X11_394 ci_X0 (by decide) hw (fun b hw sz => c_X0_number l D t G _ b 110 2 _ hw sz) dX11_readWish_223 ⟨Nat.le_of_ble_eq_true rfl, Nat.le_of_ble_eq_true rfl⟩ rfl hl.1 (by simp only [List.map_cons, List.map_nil, cat_rf]; exact Nat.le_of_ble_eq_true rfl) rfl (fun z64 κ63 H locs cells slots hw hH => ?_)
                  refine cw_cVi (b := o10) (As := [va_rf a1, .int z62, .long z64]) (rest := []) hF hH hA hE mv_X11_665 ci_X10 (by decide) (fun sz => c_X10_takePath l D t G _ o10 a1 z62 z64 _ hw.2 sz) dX11_readWish_226 hw.1 ⟨Nat.le_of_ble_eq_true rfl, Nat.le_of_ble_eq_true rfl⟩ rfl hl.1 (Nat.le_of_ble_eq_true rfl) rfl (fun z66 κ65 H locs cells slots hw hH => ?_)
                  obtain ⟨K69, hK70, hw⟩ := jc_open hw
                  refine cw_join (K := K69) 239 (fun (x67 : Int32) => []) (fun (x67 : Int32) => [.int x67]) hl hH (fun x67 κ68 ls H locs cells slots hl hw hH => ?_) (fun jn71 => ?_)
                  · have hw := hK70 x67 κ68 hw
                    have hl : lv_has ls 8 [] := hl
                    exact cw_reti hF hH ⟨rfl, rfl⟩ hr rfl hlk dX11_readWish_239 hw
                  · skip
                    refine w_if_eq (tgt := 236) hF dX11_readWish_229 rfl hw (fun hw => ?_) (fun hw => ?_)
                    · refine lv_ldcw (v := (-1073741773)) hx hb hF.1.2.2.2.1 (hF.1.2.2.2.2 _ (wc_31 15 rfl)) dX11_readWish_236 ?_
                      have hl : lv_has ls 8 [] := lv_sub hl [] rfl
                      exact jn71 (-1073741773) κ65 ls _ _ _ _ hl hw hH
                    · refine lv_iconst (v := 0) hx hb dX11_readWish_232 (by decide) ?_
                      refine lv_goto (tgt := 239) hx hb dX11_readWish_233 rfl ?_
                      have hl : lv_has ls 8 [] := lv_sub hl [] rfl
                      exact jn71 0 κ65 ls _ _ _ _ hl hw hH
                · skip
                  obtain ⟨K74, hK75, hw⟩ := jc_open hw
                  refine cw_join (K := K74) 180 (fun (x72 : Unit) => [(7, .int z48), (6, .ref o10), (1, va_rf a1)]) (fun (x72 : Unit) => [.ref o10]) hl hH (fun x72 κ73 ls H locs cells slots hl hw hH => ?_) (fun jn76 => ?_)
                  · have hw := hK75 x72 κ73 hw
                    have hl : lv_has ls 8 [(7, .int z48), (6, .ref o10), (1, va_rf a1)] := hl
                    refine lv_iload hx hb dX11_readWish_180 (lv_at hl 0 rfl) ?_
                    refine lv_goto (tgt := 186) hx hb dX11_readWish_182 rfl ?_
                    have hl : lv_has ls 8 [(6, .ref o10), (1, va_rf a1)] := lv_sub hl [1, 2] rfl
                    exact jn53 z48 κ73 ls _ _ _ _ hl hw hH
                  · skip
                    refine w_icmp_eq (tgt := 180) hF dX11_readWish_163 rfl hw (fun hw => ?_) (fun hw => ?_)
                    · exact jn76 () κ46 ls _ _ _ _ hl hw hH
                    · refine lv_iload hx hb dX11_readWish_166 (lv_at hl 0 rfl) ?_
                      refine lv_bipush (v := 8) hx hb dX11_readWish_168 (by decide) ?_
                      refine w_icmp_eq (tgt := 180) hF dX11_readWish_170 rfl hw (fun hw => ?_) (fun hw => ?_)
                      · exact jn76 () κ46 ls _ _ _ _ hl hw hH
                      · refine lv_iload hx hb dX11_readWish_173 (lv_at hl 0 rfl) ?_
                        refine lv_bipush (v := 9) hx hb dX11_readWish_175 (by decide) ?_
                        refine w_icmp_ne (tgt := 185) hF dX11_readWish_177 rfl hw (fun hw => ?_) (fun hw => ?_)
                        · refine lv_iconst (v := 0) hx hb dX11_readWish_185 (by decide) ?_
                          have hl : lv_has ls 8 [(6, .ref o10), (1, va_rf a1)] := lv_sub hl [1, 2] rfl
                          exact jn53 0 κ46 ls _ _ _ _ hl hw hH
                        · exact jn76 () κ46 ls _ _ _ _ hl hw hH
              · skip
                refine w_if_eq (tgt := 148) hF dX11_readWish_129 rfl hw (fun hw => ?_) (fun hw => ?_)
                · exact jn45 () κ32 ls _ _ _ _ hl hw hH
                · refine lv_aload hx hb dX11_readWish_132 (lv_at hl 0 rfl) ?_
                  refine cw_getIr (a := o10) hF hH fk_X11_653 dX11_readWish_134 hw (fun z77 hw => ?_)
                  refine lv_ldcw (v := 65536) hx hb hF.1.2.2.2.1 (hF.1.2.2.2.2 _ (wc_22 29 rfl)) dX11_readWish_137 ?_
                  refine lv_iand hx hb dX11_readWish_140 ?_
                  refine w_nmi hw (fun z78 hw => ?_)
                  refine w_if_ne (tgt := 148) hF dX11_readWish_141 rfl hw (fun hw => ?_) (fun hw => ?_)
                  · exact jn45 () κ32 ls _ _ _ _ hl hw hH
                  · have hl : lv_has ls 8 [] := lv_sub hl [] rfl
                    exact jn39 () κ32 ls _ _ _ _ hl hw hH
        · skip
          refine w_if_eq (tgt := 103) hF dX11_readWish_80 rfl hw (fun hw => ?_) (fun hw => ?_)
          · have hl : lv_has ls 8 [(6, .ref o10), (1, va_rf a1)] := lv_sub hl [0, 4] rfl
            exact jn28 () κ21 ls _ _ _ _ hl hw hH
          · refine lv_aload hx hb dX11_readWish_83 (lv_at hl 0 rfl) ?_
            refine cw_getIr (a := o10) hF hH fk_X11_644 dX11_readWish_85 hw (fun z79 hw => ?_)
            obtain ⟨K82, hK83, hw⟩ := jc_open hw
            refine cw_join (K := K82) 99 (fun (x80 : Unit) => []) (fun (x80 : Unit) => []) hl hH (fun x80 κ81 ls H locs cells slots hl hw hH => ?_) (fun jn84 => ?_)
            · have hw := hK83 x80 κ81 hw
              have hl : lv_has ls 8 [] := hl
              refine lv_ldcw (v := (-1073741811)) hx hb hF.1.2.2.2.1 (hF.1.2.2.2.2 _ (wc_16 24 rfl)) dX11_readWish_99 ?_
              exact cw_reti hF hH ⟨rfl, rfl⟩ hr rfl hlk dX11_readWish_102 hw
            · skip
              refine w_if_ne (tgt := 99) hF dX11_readWish_88 rfl hw (fun hw => ?_) (fun hw => ?_)
              · have hl : lv_has ls 8 [] := lv_sub hl [] rfl
                exact jn84 () κ21 ls _ _ _ _ hl hw hH
              · refine lv_aload hx hb dX11_readWish_91 (lv_at hl 0 rfl) ?_
                refine cw_cVi (b := o10) (As := []) (rest := []) hF hH hA hE mv_X11_647 ci_X10 (by decide) (fun sz => c_X10_empties l D t G _ o10  _ hw.2 sz) dX11_readWish_93 hw.1 ⟨Nat.le_of_ble_eq_true rfl, Nat.le_of_ble_eq_true rfl⟩ rfl hl.1 (Nat.le_of_ble_eq_true rfl) rfl (fun z86 κ85 H locs cells slots hw hH => ?_)
                refine w_if_eq (tgt := 103) hF dX11_readWish_96 rfl hw (fun hw => ?_) (fun hw => ?_)
                · have hl : lv_has ls 8 [(6, .ref o10), (1, va_rf a1)] := lv_sub hl [0, 4] rfl
                  exact jn28 () κ85 ls _ _ _ _ hl hw hH
                · have hl : lv_has ls 8 [] := lv_sub hl [] rfl
                  exact jn84 () κ85 ls _ _ _ _ hl hw hH
      · have hl : lv_has ls 8 [] := lv_sub hl [] rfl
        exact jn9 () κ3 ls _ _ _ _ hl hw hH
set_option maxRecDepth 100000 in
def F_X11_prepare (G : GE) (h : Nat) (a1 : Option Nat) (post : Int32 → CS → Prop) (κ : CS) : Prop := ∃ b : Nat, a1 = some b ∧ (b ∈ sL κ.1 ∧ sK κ.1 b = 8) ∧ ∀ z1 : Int32, z1 = sI κ.1 b 5 → ((¬ z1.toInt = (1 : Int32).toInt) → ∃ b : Nat, a1 = some b ∧ (b ∈ sL κ.1 ∧ sK κ.1 b = 8) ∧ ∀ z2 : Int32, z2 = sI κ.1 b 5 → jc (fun (K5 : Int32 → CS → Prop) => ((¬ z2.toInt = (5 : Int32).toInt) → K5 0 κ) ∧ ((z2.toInt = (5 : Int32).toInt) → (h ∈ sL κ.1 ∧ sK κ.1 h = 1) ∧ F_X11_readWish G h a1 (fun (z9 : Int32) (κ8 : CS) => K5 z9 κ8) κ)) (fun (x3 : Int32) (κ4 : CS) => post x3 κ4)) ∧ ((z1.toInt = (1 : Int32).toInt) → (h ∈ sL κ.1 ∧ sK κ.1 h = 1) ∧ F_X11_endFormer G h a1 (fun (z11 : Int32) (κ10 : CS) => post z11 κ10) κ)
theorem dX11_prepare_0 : decode cX11_prepare 0 = .ok (.aload_n 1, 1) := by decide +kernel
theorem dX11_prepare_1 : decode cX11_prepare 1 = .ok (.getfield 271, 3) := by decide +kernel
theorem dX11_prepare_4 : decode cX11_prepare 4 = .ok (.iconst 1, 1) := by decide +kernel
theorem dX11_prepare_5 : decode cX11_prepare 5 = .ok (.if_icmp .ne 9, 3) := by decide +kernel
theorem dX11_prepare_8 : decode cX11_prepare 8 = .ok (.aload_n 0, 1) := by decide +kernel
theorem dX11_prepare_9 : decode cX11_prepare 9 = .ok (.aload_n 1, 1) := by decide +kernel
theorem dX11_prepare_10 : decode cX11_prepare 10 = .ok (.invokevirtual 426, 3) := by decide +kernel
theorem dX11_prepare_13 : decode cX11_prepare 13 = .ok (.ireturn, 1) := by decide +kernel
theorem dX11_prepare_14 : decode cX11_prepare 14 = .ok (.aload_n 1, 1) := by decide +kernel
theorem dX11_prepare_15 : decode cX11_prepare 15 = .ok (.getfield 271, 3) := by decide +kernel
theorem dX11_prepare_18 : decode cX11_prepare 18 = .ok (.iconst 5, 1) := by decide +kernel
theorem dX11_prepare_19 : decode cX11_prepare 19 = .ok (.if_icmp .ne 11, 3) := by decide +kernel
theorem dX11_prepare_22 : decode cX11_prepare 22 = .ok (.aload_n 0, 1) := by decide +kernel
theorem dX11_prepare_23 : decode cX11_prepare 23 = .ok (.aload_n 1, 1) := by decide +kernel
theorem dX11_prepare_24 : decode cX11_prepare 24 = .ok (.invokevirtual 429, 3) := by decide +kernel
theorem dX11_prepare_27 : decode cX11_prepare 27 = .ok (.goto 4, 3) := by decide +kernel
theorem dX11_prepare_30 : decode cX11_prepare 30 = .ok (.iconst 0, 1) := by decide +kernel
theorem dX11_prepare_31 : decode cX11_prepare 31 = .ok (.ireturn, 1) := by decide +kernel
set_option maxRecDepth 100000 in
set_option maxHeartbeats 4000000 in
theorem c_X11_prepare (l : Launch) (D : va_G) (t : Nat → ClassId) (G : GE) (κ : CS) (h : Nat) (a1 : Option Nat) (post : Int32 → CS → Prop) (hw : F_X11_prepare G h a1 post κ) (sz : Nat) : CMi l D t yX11_prepare cX11_prepare 2 (some .int) 12 303 G κ sz [.ref h, va_rf a1] post := by
  refine c_go (by decide) (by cases a1 <;> exact Nat.le_of_ble_eq_true rfl) ?_
  intro p e s m below meth c ls A hF hr hlk hin hAe hH hA hE hl
  unfold cB
  rw [hAe]
  clear hAe
  have hF : FX p m c cX11_prepare 2 s _ RX11 D t := hF
  have hx := hF.1.1
  have hb := hF.1.2.1
  have hl : lv_has ls 2 [(0, .ref h), (1, va_rf a1)] := (by have h2 := hl; clear hw; revert h2; cases a1 <;> exact id)
  unfold F_X11_prepare at hw
  refine w_aloadq_n hF dX11_prepare_0 rfl (lv_at hl 1 rfl) ?_
  refine cw_getI (q := a1) hF hH fk_X11_271 dX11_prepare_1 hw (fun z1 hw => ?_)
  refine lv_iconst (v := 1) hx hb dX11_prepare_4 (by decide) ?_
  refine w_icmp_ne (tgt := 14) hF dX11_prepare_5 rfl hw (fun hw => ?_) (fun hw => ?_)
  · refine w_aloadq_n hF dX11_prepare_14 rfl (lv_at hl 1 rfl) ?_
    refine cw_getI (q := a1) hF hH fk_X11_271 dX11_prepare_15 hw (fun z2 hw => ?_)
    refine lv_iconst (v := 5) hx hb dX11_prepare_18 (by decide) ?_
    obtain ⟨K5, hK6, hw⟩ := jc_open hw
    refine cw_join (K := K5) 31 (fun (x3 : Int32) => []) (fun (x3 : Int32) => [.int x3]) hl hH (fun x3 κ4 ls H locs cells slots hl hw hH => ?_) (fun jn7 => ?_)
    · have hw := hK6 x3 κ4 hw
      have hl : lv_has ls 2 [] := hl
      exact cw_reti hF hH ⟨rfl, rfl⟩ hr rfl hlk dX11_prepare_31 hw
    · skip
      refine w_icmp_ne (tgt := 30) hF dX11_prepare_19 rfl hw (fun hw => ?_) (fun hw => ?_)
      · refine lv_iconst (v := 0) hx hb dX11_prepare_30 (by decide) ?_
        have hl : lv_has ls 2 [] := lv_sub hl [] rfl
        exact jn7 0 κ ls _ _ _ _ hl hw hH
      · refine lv_aload_n hx hb dX11_prepare_22 rfl (lv_at hl 0 rfl) ?_
        refine w_aloadq_n hF dX11_prepare_23 rfl (lv_at hl 1 rfl) ?_
        refine cw_cVi (b := h) (As := [va_rf a1]) (rest := []) hF hH hA hE mv_X11_429 ci_X11 (by decide) (fun sz => c_X11_readWish l D t G _ h a1 _ hw.2 sz) dX11_prepare_24 hw.1 ⟨Nat.le_of_ble_eq_true rfl, Nat.le_of_ble_eq_true rfl⟩ rfl hl.1 (Nat.le_of_ble_eq_true rfl) rfl (fun z9 κ8 H locs cells slots hw hH => ?_)
        refine lv_goto (tgt := 31) hx hb dX11_prepare_27 rfl ?_
        have hl : lv_has ls 2 [] := lv_sub hl [] rfl
        exact jn7 z9 κ8 ls _ _ _ _ hl hw hH
  · refine lv_aload_n hx hb dX11_prepare_8 rfl (lv_at hl 0 rfl) ?_
    refine w_aloadq_n hF dX11_prepare_9 rfl (lv_at hl 1 rfl) ?_
    refine cw_cVi (b := h) (As := [va_rf a1]) (rest := []) hF hH hA hE mv_X11_426 ci_X11 (by decide) (fun sz => c_X11_endFormer l D t G _ h a1 _ hw.2 sz) dX11_prepare_10 hw.1 ⟨Nat.le_of_ble_eq_true rfl, Nat.le_of_ble_eq_true rfl⟩ rfl hl.1 (Nat.le_of_ble_eq_true rfl) rfl (fun z11 κ10 H locs cells slots hw hH => ?_)
    exact cw_reti hF hH ⟨rfl, rfl⟩ hr rfl hlk dX11_prepare_13 hw
set_option maxRecDepth 100000 in
def F_X11_close (G : GE) (h : Nat) (a1 : Option Nat) (a2 : Option Nat) (post : Int32 → CS → Prop) (κ : CS) : Prop := ∃ b : Nat, a1 = some b ∧ (b ∈ sL κ.1 ∧ sK κ.1 b = 8) ∧ F_X0_number G b 66 2 (fun (z2 : Int64) (κ1 : CS) => ∀ z3 : Int32, z3 = (z2 : Int64).toInt32 → ∀ z4 : Int32, z4 = z3 &&& 1 → (h ∈ sL κ1.1 ∧ sK κ1.1 h = 1) ∧ ∀ z5 : Option Nat, z5 = sP κ1.1 h 15 → ∃ b : Nat, z5 = some b ∧ (b ∈ sL κ1.1 ∧ sK κ1.1 b = 2) ∧ F_X6_begin G b 124 (fun (κ6 : CS) => jc (fun (K10 : Unit → CS → Prop) => ((z4.toInt = 0) → K10 () κ6) ∧ ((¬ z4.toInt = 0) → ∃ b : Nat, a2 = some b ∧ (b ∈ sL κ6.1 ∧ sK κ6.1 b = 10) ∧ ∀ z21 : Option Nat, z21 = sP κ6.1 b 2 → (h ∈ sL κ6.1 ∧ sK κ6.1 h = 1) ∧ ∀ z22 : Option Nat, z22 = sP κ6.1 h 15 → ∃ b : Nat, z21 = some b ∧ (b ∈ sL κ6.1 ∧ sK κ6.1 b = 5) ∧ F_X4_tellAll G b z22 (fun (κ23 : CS) => K10 () κ23) κ6)) (fun (x8 : Unit) (κ9 : CS) => (h ∈ sL κ9.1 ∧ sK κ9.1 h = 1) ∧ ∀ z13 : Option Nat, z13 = sP κ9.1 h 15 → ∃ b : Nat, z13 = some b ∧ (b ∈ sL κ9.1 ∧ sK κ9.1 b = 2) ∧ F_X6_put G b 64 2 60 (fun (κ14 : CS) => (h ∈ sL κ14.1 ∧ sK κ14.1 h = 1) ∧ ∀ z16 : Option Nat, z16 = sP κ14.1 h 15 → ∀ z17 : Int64, z17 = (z4 : Int32).toInt64 → ∃ b : Nat, z16 = some b ∧ (b ∈ sL κ14.1 ∧ sK κ14.1 b = 2) ∧ F_X6_put G b 66 2 z17 (fun (κ18 : CS) => (0 ≤ (1 : Int32).toInt ∧ (1 : Int32).toInt ≤ 1) ∧ ∃ b : Nat, a2 = some b ∧ (b ∈ sL κ18.1 ∧ sK κ18.1 b = 10) ∧ ∀ κ20 : CS, κ20 = (h_uI κ18.1 b 6 1, κ18.2) → post 0 κ20) κ14) κ9)) κ1) κ
theorem dX11_close_0 : decode cX11_close 0 = .ok (.aload_n 1, 1) := by decide +kernel
theorem dX11_close_1 : decode cX11_close 1 = .ok (.bipush 66, 2) := by decide +kernel
theorem dX11_close_3 : decode cX11_close 3 = .ok (.iconst 2, 1) := by decide +kernel
theorem dX11_close_4 : decode cX11_close 4 = .ok (.invokevirtual 394, 3) := by decide +kernel
theorem dX11_close_7 : decode cX11_close 7 = .ok (.l2i, 1) := by decide +kernel
theorem dX11_close_8 : decode cX11_close 8 = .ok (.iconst 1, 1) := by decide +kernel
theorem dX11_close_9 : decode cX11_close 9 = .ok (.iand, 1) := by decide +kernel
theorem dX11_close_10 : decode cX11_close 10 = .ok (.istore_n 3, 1) := by decide +kernel
theorem dX11_close_11 : decode cX11_close 11 = .ok (.aload_n 0, 1) := by decide +kernel
theorem dX11_close_12 : decode cX11_close 12 = .ok (.getfield 68, 3) := by decide +kernel
theorem dX11_close_15 : decode cX11_close 15 = .ok (.bipush 124, 2) := by decide +kernel
theorem dX11_close_17 : decode cX11_close 17 = .ok (.invokevirtual 262, 3) := by decide +kernel
theorem dX11_close_20 : decode cX11_close 20 = .ok (.iload_n 3, 1) := by decide +kernel
theorem dX11_close_21 : decode cX11_close 21 = .ok (.ifCond .eq 14, 3) := by decide +kernel
theorem dX11_close_24 : decode cX11_close 24 = .ok (.aload_n 2, 1) := by decide +kernel
theorem dX11_close_25 : decode cX11_close 25 = .ok (.getfield 564, 3) := by decide +kernel
theorem dX11_close_28 : decode cX11_close 28 = .ok (.aload_n 0, 1) := by decide +kernel
theorem dX11_close_29 : decode cX11_close 29 = .ok (.getfield 68, 3) := by decide +kernel
theorem dX11_close_32 : decode cX11_close 32 = .ok (.invokevirtual 776, 3) := by decide +kernel
theorem dX11_close_35 : decode cX11_close 35 = .ok (.aload_n 0, 1) := by decide +kernel
theorem dX11_close_36 : decode cX11_close 36 = .ok (.getfield 68, 3) := by decide +kernel
theorem dX11_close_39 : decode cX11_close 39 = .ok (.bipush 64, 2) := by decide +kernel
theorem dX11_close_41 : decode cX11_close 41 = .ok (.iconst 2, 1) := by decide +kernel
theorem dX11_close_42 : decode cX11_close 42 = .ok (.ldc2_w 782, 3) := by decide +kernel
theorem dX11_close_45 : decode cX11_close 45 = .ok (.invokevirtual 349, 3) := by decide +kernel
theorem dX11_close_48 : decode cX11_close 48 = .ok (.aload_n 0, 1) := by decide +kernel
theorem dX11_close_49 : decode cX11_close 49 = .ok (.getfield 68, 3) := by decide +kernel
theorem dX11_close_52 : decode cX11_close 52 = .ok (.bipush 66, 2) := by decide +kernel
theorem dX11_close_54 : decode cX11_close 54 = .ok (.iconst 2, 1) := by decide +kernel
theorem dX11_close_55 : decode cX11_close 55 = .ok (.iload_n 3, 1) := by decide +kernel
theorem dX11_close_56 : decode cX11_close 56 = .ok (.i2l, 1) := by decide +kernel
theorem dX11_close_57 : decode cX11_close 57 = .ok (.invokevirtual 349, 3) := by decide +kernel
theorem dX11_close_60 : decode cX11_close 60 = .ok (.aload_n 2, 1) := by decide +kernel
theorem dX11_close_61 : decode cX11_close 61 = .ok (.iconst 1, 1) := by decide +kernel
theorem dX11_close_62 : decode cX11_close 62 = .ok (.putfield 543, 3) := by decide +kernel
theorem dX11_close_65 : decode cX11_close 65 = .ok (.iconst 0, 1) := by decide +kernel
theorem dX11_close_66 : decode cX11_close 66 = .ok (.ireturn, 1) := by decide +kernel
set_option maxRecDepth 100000 in
set_option maxHeartbeats 4000000 in
theorem c_X11_close (l : Launch) (D : va_G) (t : Nat → ClassId) (G : GE) (κ : CS) (h : Nat) (a1 : Option Nat) (a2 : Option Nat) (post : Int32 → CS → Prop) (hw : F_X11_close G h a1 a2 post κ) (sz : Nat) : CMi l D t yX11_close cX11_close 4 (some .int) 3 82 G κ sz [.ref h, va_rf a1, va_rf a2] post := by
  refine c_go (by decide) (by cases a1 <;> cases a2 <;> exact Nat.le_of_ble_eq_true rfl) ?_
  intro p e s m below meth c ls A hF hr hlk hin hAe hH hA hE hl
  unfold cB
  rw [hAe]
  clear hAe
  have hF : FX p m c cX11_close 4 s _ RX11 D t := hF
  have hx := hF.1.1
  have hb := hF.1.2.1
  have hl : lv_has ls 4 [(0, .ref h), (1, va_rf a1), (2, va_rf a2)] := (by have h2 := hl; clear hw; revert h2; cases a1 <;> cases a2 <;> exact id)
  unfold F_X11_close at hw
  refine w_aloadq_n hF dX11_close_0 rfl (lv_at hl 1 rfl) ?_
  refine lv_bipush (v := 66) hx hb dX11_close_1 (by decide) ?_
  refine lv_iconst (v := 2) hx hb dX11_close_3 (by decide) ?_
  refine cw_cVlq (q := a1) (As := [.int 66, .int 2]) (rest := []) hF hH hA hE mv_X11_394 ci_X0 (by decide) hw (fun b hw sz => c_X0_number l D t G _ b 66 2 _ hw sz) dX11_close_4 ⟨Nat.le_of_ble_eq_true rfl, Nat.le_of_ble_eq_true rfl⟩ rfl hl.1 (Nat.le_of_ble_eq_true rfl) rfl (fun z2 κ1 H locs cells slots hw hH => ?_)
  refine lv_l2i hx hb dX11_close_7 rfl ?_
  refine w_nmi hw (fun z3 hw => ?_)
  refine lv_iconst (v := 1) hx hb dX11_close_8 (by decide) ?_
  refine lv_iand hx hb dX11_close_9 ?_
  refine w_nmi hw (fun z4 hw => ?_)
  refine lv_istore_n (lv' := [(3, .int z4), (0, .ref h), (1, va_rf a1), (2, va_rf a2)]) hx hb dX11_close_10 rfl hl (by decide) (by generalize a2 = y; cases y <;> rfl) (fun ls hl => ?_)
  refine lv_aload_n hx hb dX11_close_11 rfl (lv_at hl 1 rfl) ?_
  refine cw_getPr (a := h) hF hH fk_X11_68 dX11_close_12 hw (fun z5 hw => ?_)
  refine lv_bipush (v := 124) hx hb dX11_close_15 (by decide) ?_
  refine cw_cVvq (q := z5) (As := [.int 124]) (rest := []) hF hH hA hE mv_X11_262 ci_X6 (by decide) hw (fun b hw sz => c_X6_begin l D t G _ b 124 _ hw sz) dX11_close_17 ⟨Nat.le_of_ble_eq_true rfl, Nat.le_of_ble_eq_true rfl⟩ rfl hl.1 (Nat.le_of_ble_eq_true rfl) rfl (fun κ6 H locs cells slots hw hH => ?_)
  refine lv_iload_n hx hb dX11_close_20 rfl (lv_at hl 0 rfl) ?_
  obtain ⟨K10, hK11, hw⟩ := jc_open hw
  refine cw_join (K := K10) 35 (fun (x8 : Unit) => [(3, .int z4), (2, va_rf a2), (0, .ref h)]) (fun (x8 : Unit) => []) hl hH (fun x8 κ9 ls H locs cells slots hl hw hH => ?_) (fun jn12 => ?_)
  · have hw := hK11 x8 κ9 hw
    have hl : lv_has ls 4 [(3, .int z4), (2, va_rf a2), (0, .ref h)] := hl
    refine lv_aload_n hx hb dX11_close_35 rfl (lv_at hl 2 rfl) ?_
    refine cw_getPr (a := h) hF hH fk_X11_68 dX11_close_36 hw (fun z13 hw => ?_)
    refine lv_bipush (v := 64) hx hb dX11_close_39 (by decide) ?_
    refine lv_iconst (v := 2) hx hb dX11_close_41 (by decide) ?_
    refine lv_ldc2 (v := 60) hx hb hF.1.2.2.2.1 (hF.1.2.2.2.2 _ (wc_31 19 rfl)) dX11_close_42 ?_
    refine cw_cVvq (q := z13) (As := [.int 64, .int 2, .long 60]) (rest := []) hF hH hA hE mv_X11_349 ci_X6 (by decide) hw (fun b hw sz => c_X6_put l D t G _ b 64 2 60 _ hw sz) dX11_close_45 ⟨Nat.le_of_ble_eq_true rfl, Nat.le_of_ble_eq_true rfl⟩ rfl hl.1 (Nat.le_of_ble_eq_true rfl) rfl (fun κ14 H locs cells slots hw hH => ?_)
    refine lv_aload_n hx hb dX11_close_48 rfl (lv_at hl 2 rfl) ?_
    refine cw_getPr (a := h) hF hH fk_X11_68 dX11_close_49 hw (fun z16 hw => ?_)
    refine lv_bipush (v := 66) hx hb dX11_close_52 (by decide) ?_
    refine lv_iconst (v := 2) hx hb dX11_close_54 (by decide) ?_
    refine lv_iload_n hx hb dX11_close_55 rfl (lv_at hl 0 rfl) ?_
    refine lv_i2l hx hb dX11_close_56 rfl ?_
    refine w_nml hw (fun z17 hw => ?_)
    refine cw_cVvq (q := z16) (As := [.int 66, .int 2, .long z17]) (rest := []) hF hH hA hE mv_X11_349 ci_X6 (by decide) hw (fun b hw sz => c_X6_put l D t G _ b 66 2 z17 _ hw sz) dX11_close_57 ⟨Nat.le_of_ble_eq_true rfl, Nat.le_of_ble_eq_true rfl⟩ rfl hl.1 (Nat.le_of_ble_eq_true rfl) rfl (fun κ18 H locs cells slots hw hH => ?_)
    refine w_aloadq_n hF dX11_close_60 rfl (lv_at hl 1 rfl) ?_
    refine lv_iconst (v := 1) hx hb dX11_close_61 (by decide) ?_
    refine cw_putZ (q := a2) (v := 1) hF hH fk_X11_543 dX11_close_62 rfl rfl hw (fun κ20 H locs cells slots hw hH => ?_)
    refine lv_iconst (v := 0) hx hb dX11_close_65 (by decide) ?_
    exact cw_reti hF hH ⟨rfl, rfl⟩ hr rfl hlk dX11_close_66 hw
  · skip
    refine w_if_eq (tgt := 35) hF dX11_close_21 rfl hw (fun hw => ?_) (fun hw => ?_)
    · have hl : lv_has ls 4 [(3, .int z4), (2, va_rf a2), (0, .ref h)] := lv_sub hl [0, 3, 1] rfl
      exact jn12 () κ6 ls _ _ _ _ hl hw hH
    · refine w_aloadq_n hF dX11_close_24 rfl (lv_at hl 3 rfl) ?_
      refine cw_getP (q := a2) hF hH fk_X11_564 dX11_close_25 hw (fun z21 hw => ?_)
      refine lv_aload_n hx hb dX11_close_28 rfl (lv_at hl 1 rfl) ?_
      refine cw_getPr (a := h) hF hH fk_X11_68 dX11_close_29 hw (fun z22 hw => ?_)
      refine cw_cVvq (q := z21) (As := [va_rf z22]) (rest := []) hF hH hA hE mv_X11_776 ci_X4 (by decide) hw (fun b hw sz => c_X4_tellAll l D t G _ b z22 _ hw sz) dX11_close_32 ⟨Nat.le_of_ble_eq_true rfl, Nat.le_of_ble_eq_true rfl⟩ rfl hl.1 (Nat.le_of_ble_eq_true rfl) rfl (fun κ23 H locs cells slots hw hH => ?_)
      have hl : lv_has ls 4 [(3, .int z4), (2, va_rf a2), (0, .ref h)] := lv_sub hl [0, 3, 1] rfl
      exact jn12 () κ23 ls _ _ _ _ hl hw hH

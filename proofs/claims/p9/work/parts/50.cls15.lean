/-! the class, lifted: 15 -/
set_option maxRecDepth 100000 in
def F_X11_outs (G : GE) (h : Nat) (a1 : Int32) (post : Int32 → CS → Prop) (κ : CS) : Prop := (h ∈ sL κ.1 ∧ sK κ.1 h = 1) ∧ F_X11_connection G h a1 (fun (z2 : Option Nat) (κ1 : CS) => jc (fun (K5 : Int32 → CS → Prop) => ((¬ z2 = none) → ∃ b : Nat, z2 = some b ∧ (b ∈ sL κ1.1 ∧ sK κ1.1 b = 3) ∧ ∀ z8 : Option Nat, z8 = sP κ1.1 b 4 → ∃ b : Nat, z8 = some b ∧ (b ∈ sL κ1.1 ∧ sK κ1.1 b = 2) ∧ ∀ z9 : Int32, z9 = sI κ1.1 b 1 → K5 z9 κ1) ∧ ((z2 = none) → K5 (-1) κ1)) (fun (x3 : Int32) (κ4 : CS) => post x3 κ4)) κ
theorem dX11_outs_0 : decode cX11_outs 0 = .ok (.aload_n 0, 1) := by decide +kernel
theorem dX11_outs_1 : decode cX11_outs 1 = .ok (.iload_n 1, 1) := by decide +kernel
theorem dX11_outs_2 : decode cX11_outs 2 = .ok (.invokevirtual 108, 3) := by decide +kernel
theorem dX11_outs_5 : decode cX11_outs 5 = .ok (.astore_n 2, 1) := by decide +kernel
theorem dX11_outs_6 : decode cX11_outs 6 = .ok (.aload_n 2, 1) := by decide +kernel
theorem dX11_outs_7 : decode cX11_outs 7 = .ok (.ifnonnull 7, 3) := by decide +kernel
theorem dX11_outs_10 : decode cX11_outs 10 = .ok (.iconst (-1), 1) := by decide +kernel
theorem dX11_outs_11 : decode cX11_outs 11 = .ok (.goto 10, 3) := by decide +kernel
theorem dX11_outs_14 : decode cX11_outs 14 = .ok (.aload_n 2, 1) := by decide +kernel
theorem dX11_outs_15 : decode cX11_outs 15 = .ok (.getfield 201, 3) := by decide +kernel
theorem dX11_outs_18 : decode cX11_outs 18 = .ok (.getfield 85, 3) := by decide +kernel
theorem dX11_outs_21 : decode cX11_outs 21 = .ok (.ireturn, 1) := by decide +kernel
set_option maxRecDepth 100000 in
set_option maxHeartbeats 4000000 in
theorem c_X11_outs (l : Launch) (D : va_G) (t : Nat → ClassId) (G : GE) (κ : CS) (h : Nat) (a1 : Int32) (post : Int32 → CS → Prop) (hw : F_X11_outs G h a1 post κ) (sz : Nat) : CMi l D t yX11_outs cX11_outs 3 (some .int) 1 35 G κ sz [.ref h, .int a1] post := by
  refine c_go (by decide) (Nat.le_of_ble_eq_true rfl) ?_
  intro p e s m below meth c ls A hF hr hlk hin hAe hH hA hE hl
  unfold cB
  rw [hAe]
  clear hAe
  have hF : FX p m c cX11_outs 3 s _ RX11 D t := hF
  have hx := hF.1.1
  have hb := hF.1.2.1
  have hl : lv_has ls 3 [(0, .ref h), (1, .int a1)] := hl
  unfold F_X11_outs at hw
  refine lv_aload_n hx hb dX11_outs_0 rfl (lv_at hl 0 rfl) ?_
  refine lv_iload_n hx hb dX11_outs_1 rfl (lv_at hl 1 rfl) ?_
  refine cw_cVq (b := h) (As := [.int a1]) (rest := []) hF hH hA hE mv_X11_108 ci_X11 (by decide) (fun sz => c_X11_connection l D t G _ h a1 _ hw.2 sz) dX11_outs_2 hw.1 ⟨Nat.le_of_ble_eq_true rfl, Nat.le_of_ble_eq_true rfl⟩ rfl hl.1 (Nat.le_of_ble_eq_true rfl) rfl (fun z2 κ1 H locs cells slots hw hH => ?_)
  refine w_astoreq_n (lv' := [(2, va_rf z2), (0, .ref h), (1, .int a1)]) hF dX11_outs_5 rfl hl (by decide) rfl (fun ls hl => ?_)
  refine w_aloadq_n hF dX11_outs_6 rfl (lv_at hl 0 rfl) ?_
  obtain ⟨K5, hK6, hw⟩ := jc_open hw
  refine cw_join (K := K5) 21 (fun (x3 : Int32) => []) (fun (x3 : Int32) => [.int x3]) hl hH (fun x3 κ4 ls H locs cells slots hl hw hH => ?_) (fun jn7 => ?_)
  · have hw := hK6 x3 κ4 hw
    have hl : lv_has ls 3 [] := hl
    exact cw_reti hF hH ⟨rfl, rfl⟩ hr rfl hlk dX11_outs_21 hw
  · skip
    refine cw_ifnonnull (q := z2) (tgt := 14) hF dX11_outs_7 rfl hw (fun hw => ?_) (fun hw => ?_)
    · refine w_aloadq_n hF dX11_outs_14 rfl (lv_at hl 0 rfl) ?_
      refine cw_getP (q := z2) hF hH fk_X11_201 dX11_outs_15 hw (fun z8 hw => ?_)
      refine cw_getI (q := z8) hF hH fk_X11_85 dX11_outs_18 hw (fun z9 hw => ?_)
      have hl : lv_has ls 3 [] := lv_sub hl [] rfl
      exact jn7 z9 κ1 ls _ _ _ _ hl hw hH
    · refine lv_iconst (v := (-1)) hx hb dX11_outs_10 (by decide) ?_
      refine lv_goto (tgt := 21) hx hb dX11_outs_11 rfl ?_
      have hl : lv_has ls 3 [] := lv_sub hl [] rfl
      exact jn7 (-1) κ1 ls _ _ _ _ hl hw hH
set_option maxRecDepth 100000 in
def F_X11_out (G : GE) (h : Nat) (a1 : Int32) (a2 : Int32) (post : Int32 → CS → Prop) (κ : CS) : Prop := (h ∈ sL κ.1 ∧ sK κ.1 h = 1) ∧ F_X11_connection G h a1 (fun (z2 : Option Nat) (κ1 : CS) => jc (fun (K5 : Unit → CS → Prop) => ((z2 = none) → K5 () κ1) ∧ ((¬ z2 = none) → ((a2.toInt < 0) → K5 () κ1) ∧ ((0 ≤ a2.toInt) → ∃ b : Nat, z2 = some b ∧ (b ∈ sL κ1.1 ∧ sK κ1.1 b = 3) ∧ ∀ z8 : Option Nat, z8 = sP κ1.1 b 4 → ∃ b : Nat, z8 = some b ∧ (b ∈ sL κ1.1 ∧ sK κ1.1 b = 2) ∧ ∀ z9 : Int32, z9 = sI κ1.1 b 1 → ((a2.toInt < z9.toInt) → ∃ b : Nat, z2 = some b ∧ (b ∈ sL κ1.1 ∧ sK κ1.1 b = 3) ∧ ∀ z10 : Option Nat, z10 = sP κ1.1 b 4 → ∃ b : Nat, z10 = some b ∧ (b ∈ sL κ1.1 ∧ sK κ1.1 b = 2) ∧ F_X6_number G b a2 1 (fun (z12 : Int64) (κ11 : CS) => ∀ z13 : Int32, z13 = (z12 : Int64).toInt32 → post z13 κ11) κ1) ∧ ((z9.toInt ≤ a2.toInt) → K5 () κ1)))) (fun (x3 : Unit) (κ4 : CS) => post (-1) κ4)) κ
theorem dX11_out_0 : decode cX11_out 0 = .ok (.aload_n 0, 1) := by decide +kernel
theorem dX11_out_1 : decode cX11_out 1 = .ok (.iload_n 1, 1) := by decide +kernel
theorem dX11_out_2 : decode cX11_out 2 = .ok (.invokevirtual 108, 3) := by decide +kernel
theorem dX11_out_5 : decode cX11_out 5 = .ok (.astore_n 3, 1) := by decide +kernel
theorem dX11_out_6 : decode cX11_out 6 = .ok (.aload_n 3, 1) := by decide +kernel
theorem dX11_out_7 : decode cX11_out 7 = .ok (.ifnull 18, 3) := by decide +kernel
theorem dX11_out_10 : decode cX11_out 10 = .ok (.iload_n 2, 1) := by decide +kernel
theorem dX11_out_11 : decode cX11_out 11 = .ok (.ifCond .lt 14, 3) := by decide +kernel
theorem dX11_out_14 : decode cX11_out 14 = .ok (.iload_n 2, 1) := by decide +kernel
theorem dX11_out_15 : decode cX11_out 15 = .ok (.aload_n 3, 1) := by decide +kernel
theorem dX11_out_16 : decode cX11_out 16 = .ok (.getfield 201, 3) := by decide +kernel
theorem dX11_out_19 : decode cX11_out 19 = .ok (.getfield 85, 3) := by decide +kernel
theorem dX11_out_22 : decode cX11_out 22 = .ok (.if_icmp .lt 5, 3) := by decide +kernel
theorem dX11_out_25 : decode cX11_out 25 = .ok (.iconst (-1), 1) := by decide +kernel
theorem dX11_out_26 : decode cX11_out 26 = .ok (.ireturn, 1) := by decide +kernel
theorem dX11_out_27 : decode cX11_out 27 = .ok (.aload_n 3, 1) := by decide +kernel
theorem dX11_out_28 : decode cX11_out 28 = .ok (.getfield 201, 3) := by decide +kernel
theorem dX11_out_31 : decode cX11_out 31 = .ok (.iload_n 2, 1) := by decide +kernel
theorem dX11_out_32 : decode cX11_out 32 = .ok (.iconst 1, 1) := by decide +kernel
theorem dX11_out_33 : decode cX11_out 33 = .ok (.invokevirtual 204, 3) := by decide +kernel
theorem dX11_out_36 : decode cX11_out 36 = .ok (.l2i, 1) := by decide +kernel
theorem dX11_out_37 : decode cX11_out 37 = .ok (.ireturn, 1) := by decide +kernel
set_option maxRecDepth 100000 in
set_option maxHeartbeats 4000000 in
theorem c_X11_out (l : Launch) (D : va_G) (t : Nat → ClassId) (G : GE) (κ : CS) (h : Nat) (a1 : Int32) (a2 : Int32) (post : Int32 → CS → Prop) (hw : F_X11_out G h a1 a2 post κ) (sz : Nat) : CMi l D t yX11_out cX11_out 4 (some .int) 1 40 G κ sz [.ref h, .int a1, .int a2] post := by
  refine c_go (by decide) (Nat.le_of_ble_eq_true rfl) ?_
  intro p e s m below meth c ls A hF hr hlk hin hAe hH hA hE hl
  unfold cB
  rw [hAe]
  clear hAe
  have hF : FX p m c cX11_out 4 s _ RX11 D t := hF
  have hx := hF.1.1
  have hb := hF.1.2.1
  have hl : lv_has ls 4 [(0, .ref h), (1, .int a1), (2, .int a2)] := hl
  unfold F_X11_out at hw
  refine lv_aload_n hx hb dX11_out_0 rfl (lv_at hl 0 rfl) ?_
  refine lv_iload_n hx hb dX11_out_1 rfl (lv_at hl 1 rfl) ?_
  refine cw_cVq (b := h) (As := [.int a1]) (rest := []) hF hH hA hE mv_X11_108 ci_X11 (by decide) (fun sz => c_X11_connection l D t G _ h a1 _ hw.2 sz) dX11_out_2 hw.1 ⟨Nat.le_of_ble_eq_true rfl, Nat.le_of_ble_eq_true rfl⟩ rfl hl.1 (Nat.le_of_ble_eq_true rfl) rfl (fun z2 κ1 H locs cells slots hw hH => ?_)
  refine w_astoreq_n (lv' := [(3, va_rf z2), (0, .ref h), (1, .int a1), (2, .int a2)]) hF dX11_out_5 rfl hl (by decide) rfl (fun ls hl => ?_)
  refine w_aloadq_n hF dX11_out_6 rfl (lv_at hl 0 rfl) ?_
  obtain ⟨K5, hK6, hw⟩ := jc_open hw
  refine cw_join (K := K5) 25 (fun (x3 : Unit) => []) (fun (x3 : Unit) => []) hl hH (fun x3 κ4 ls H locs cells slots hl hw hH => ?_) (fun jn7 => ?_)
  · have hw := hK6 x3 κ4 hw
    have hl : lv_has ls 4 [] := hl
    refine lv_iconst (v := (-1)) hx hb dX11_out_25 (by decide) ?_
    exact cw_reti hF hH ⟨rfl, rfl⟩ hr rfl hlk dX11_out_26 hw
  · skip
    refine cw_ifnull (q := z2) (tgt := 25) hF dX11_out_7 rfl hw (fun hw => ?_) (fun hw => ?_)
    · have hl : lv_has ls 4 [] := lv_sub hl [] rfl
      exact jn7 () κ1 ls _ _ _ _ hl hw hH
    · refine lv_iload_n hx hb dX11_out_10 rfl (lv_at hl 3 rfl) ?_
      refine w_if_lt (tgt := 25) hF dX11_out_11 rfl hw (fun hw => ?_) (fun hw => ?_)
      · have hl : lv_has ls 4 [] := lv_sub hl [] rfl
        exact jn7 () κ1 ls _ _ _ _ hl hw hH
      · refine lv_iload_n hx hb dX11_out_14 rfl (lv_at hl 3 rfl) ?_
        refine w_aloadq_n hF dX11_out_15 rfl (lv_at hl 0 rfl) ?_
        refine cw_getP (q := z2) hF hH fk_X11_201 dX11_out_16 hw (fun z8 hw => ?_)
        refine cw_getI (q := z8) hF hH fk_X11_85 dX11_out_19 hw (fun z9 hw => ?_)
        refine w_icmp_lt (tgt := 27) hF dX11_out_22 rfl hw (fun hw => ?_) (fun hw => ?_)
        · refine w_aloadq_n hF dX11_out_27 rfl (lv_at hl 0 rfl) ?_
          refine cw_getP (q := z2) hF hH fk_X11_201 dX11_out_28 hw (fun z10 hw => ?_)
          refine lv_iload_n hx hb dX11_out_31 rfl (lv_at hl 3 rfl) ?_
          refine lv_iconst (v := 1) hx hb dX11_out_32 (by decide) ?_
          refine cw_cVlq (q := z10) (As := [.int a2, .int 1]) (rest := []) hF hH hA hE mv_X11_204 ci_X6 (by decide) hw (fun b hw sz => c_X6_number l D t G _ b a2 1 _ hw sz) dX11_out_33 ⟨Nat.le_of_ble_eq_true rfl, Nat.le_of_ble_eq_true rfl⟩ rfl hl.1 (Nat.le_of_ble_eq_true rfl) rfl (fun z12 κ11 H locs cells slots hw hH => ?_)
          refine lv_l2i hx hb dX11_out_36 rfl ?_
          refine w_nmi hw (fun z13 hw => ?_)
          exact cw_reti hF hH ⟨rfl, rfl⟩ hr rfl hlk dX11_out_37 hw
        · have hl : lv_has ls 4 [] := lv_sub hl [] rfl
          exact jn7 () κ1 ls _ _ _ _ hl hw hH
set_option maxRecDepth 100000 in
def F_X11_drop (G : GE) (h : Nat) (a1 : Int32) (post : Int32 → CS → Prop) (κ : CS) : Prop := (h ∈ sL κ.1 ∧ sK κ.1 h = 1) ∧ F_X11_connection G h a1 (fun (z2 : Option Nat) (κ1 : CS) => ((¬ z2 = none) → ∃ b : Nat, z2 = some b ∧ (b ∈ sL κ1.1 ∧ sK κ1.1 b = 3) ∧ ∀ z3 : Option Nat, z3 = sP κ1.1 b 4 → ∃ b : Nat, z3 = some b ∧ (b ∈ sL κ1.1 ∧ sK κ1.1 b = 2) ∧ ∀ z4 : Int32, z4 = sI κ1.1 b 1 → ∃ b : Nat, z2 = some b ∧ (b ∈ sL κ1.1 ∧ sK κ1.1 b = 3) ∧ ∀ z5 : Option Nat, z5 = sP κ1.1 b 4 → ∃ b : Nat, z5 = some b ∧ (b ∈ sL κ1.1 ∧ sK κ1.1 b = 2) ∧ ∀ κ6 : CS, κ6 = (h_uI κ1.1 b 1 0, κ1.2) → post z4 κ6) ∧ ((z2 = none) → post (-1) κ1)) κ
theorem dX11_drop_0 : decode cX11_drop 0 = .ok (.aload_n 0, 1) := by decide +kernel
theorem dX11_drop_1 : decode cX11_drop 1 = .ok (.iload_n 1, 1) := by decide +kernel
theorem dX11_drop_2 : decode cX11_drop 2 = .ok (.invokevirtual 108, 3) := by decide +kernel
theorem dX11_drop_5 : decode cX11_drop 5 = .ok (.astore_n 2, 1) := by decide +kernel
theorem dX11_drop_6 : decode cX11_drop 6 = .ok (.aload_n 2, 1) := by decide +kernel
theorem dX11_drop_7 : decode cX11_drop 7 = .ok (.ifnonnull 5, 3) := by decide +kernel
theorem dX11_drop_10 : decode cX11_drop 10 = .ok (.iconst (-1), 1) := by decide +kernel
theorem dX11_drop_11 : decode cX11_drop 11 = .ok (.ireturn, 1) := by decide +kernel
theorem dX11_drop_12 : decode cX11_drop 12 = .ok (.aload_n 2, 1) := by decide +kernel
theorem dX11_drop_13 : decode cX11_drop 13 = .ok (.getfield 201, 3) := by decide +kernel
theorem dX11_drop_16 : decode cX11_drop 16 = .ok (.getfield 85, 3) := by decide +kernel
theorem dX11_drop_19 : decode cX11_drop 19 = .ok (.istore_n 3, 1) := by decide +kernel
theorem dX11_drop_20 : decode cX11_drop 20 = .ok (.aload_n 2, 1) := by decide +kernel
theorem dX11_drop_21 : decode cX11_drop 21 = .ok (.getfield 201, 3) := by decide +kernel
theorem dX11_drop_24 : decode cX11_drop 24 = .ok (.iconst 0, 1) := by decide +kernel
theorem dX11_drop_25 : decode cX11_drop 25 = .ok (.putfield 85, 3) := by decide +kernel
theorem dX11_drop_28 : decode cX11_drop 28 = .ok (.iload_n 3, 1) := by decide +kernel
theorem dX11_drop_29 : decode cX11_drop 29 = .ok (.ireturn, 1) := by decide +kernel
set_option maxRecDepth 100000 in
set_option maxHeartbeats 4000000 in
theorem c_X11_drop (l : Launch) (D : va_G) (t : Nat → ClassId) (G : GE) (κ : CS) (h : Nat) (a1 : Int32) (post : Int32 → CS → Prop) (hw : F_X11_drop G h a1 post κ) (sz : Nat) : CMi l D t yX11_drop cX11_drop 4 (some .int) 1 35 G κ sz [.ref h, .int a1] post := by
  refine c_go (by decide) (Nat.le_of_ble_eq_true rfl) ?_
  intro p e s m below meth c ls A hF hr hlk hin hAe hH hA hE hl
  unfold cB
  rw [hAe]
  clear hAe
  have hF : FX p m c cX11_drop 4 s _ RX11 D t := hF
  have hx := hF.1.1
  have hb := hF.1.2.1
  have hl : lv_has ls 4 [(0, .ref h), (1, .int a1)] := hl
  unfold F_X11_drop at hw
  refine lv_aload_n hx hb dX11_drop_0 rfl (lv_at hl 0 rfl) ?_
  refine lv_iload_n hx hb dX11_drop_1 rfl (lv_at hl 1 rfl) ?_
  refine cw_cVq (b := h) (As := [.int a1]) (rest := []) hF hH hA hE mv_X11_108 ci_X11 (by decide) (fun sz => c_X11_connection l D t G _ h a1 _ hw.2 sz) dX11_drop_2 hw.1 ⟨Nat.le_of_ble_eq_true rfl, Nat.le_of_ble_eq_true rfl⟩ rfl hl.1 (Nat.le_of_ble_eq_true rfl) rfl (fun z2 κ1 H locs cells slots hw hH => ?_)
  refine w_astoreq_n (lv' := [(2, va_rf z2), (0, .ref h), (1, .int a1)]) hF dX11_drop_5 rfl hl (by decide) rfl (fun ls hl => ?_)
  refine w_aloadq_n hF dX11_drop_6 rfl (lv_at hl 0 rfl) ?_
  refine cw_ifnonnull (q := z2) (tgt := 12) hF dX11_drop_7 rfl hw (fun hw => ?_) (fun hw => ?_)
  · refine w_aloadq_n hF dX11_drop_12 rfl (lv_at hl 0 rfl) ?_
    refine cw_getP (q := z2) hF hH fk_X11_201 dX11_drop_13 hw (fun z3 hw => ?_)
    refine cw_getI (q := z3) hF hH fk_X11_85 dX11_drop_16 hw (fun z4 hw => ?_)
    refine lv_istore_n (lv' := [(3, .int z4), (2, va_rf z2), (0, .ref h), (1, .int a1)]) hx hb dX11_drop_19 rfl hl (by decide) (by generalize z2 = y; cases y <;> rfl) (fun ls hl => ?_)
    refine w_aloadq_n hF dX11_drop_20 rfl (lv_at hl 1 rfl) ?_
    refine cw_getP (q := z2) hF hH fk_X11_201 dX11_drop_21 hw (fun z5 hw => ?_)
    refine lv_iconst (v := 0) hx hb dX11_drop_24 (by decide) ?_
    refine cw_putI (q := z5) (v := 0) hF hH fk_X11_85 dX11_drop_25 rfl rfl rfl hw (fun κ6 H locs cells slots hw hH => ?_)
    refine lv_iload_n hx hb dX11_drop_28 rfl (lv_at hl 0 rfl) ?_
    exact cw_reti hF hH ⟨rfl, rfl⟩ hr rfl hlk dX11_drop_29 hw
  · refine lv_iconst (v := (-1)) hx hb dX11_drop_10 (by decide) ?_
    exact cw_reti hF hH ⟨rfl, rfl⟩ hr rfl hlk dX11_drop_11 hw
set_option maxRecDepth 100000 in
def F_X11_told (G : GE) (h : Nat) (a1 : Int32) (post : Int32 → CS → Prop) (κ : CS) : Prop := ((a1.toInt < 0 ∨ 8 < a1.toInt) → post (-1) κ) ∧ ((a1.toInt = 0) → (h ∈ sL κ.1 ∧ sK κ.1 h = 1) ∧ ∀ z1 : Int64, z1 = sJ κ.1 h 7 → ∀ z2 : Int32, z2 = (z1 : Int64).toInt32 → post z2 κ) ∧ ((a1.toInt = 1) → (h ∈ sL κ.1 ∧ sK κ.1 h = 1) ∧ ∀ z3 : Int32, z3 = sI κ.1 h 6 → post z3 κ) ∧ ((a1.toInt = 2) → (h ∈ sL κ.1 ∧ sK κ.1 h = 1) ∧ ∀ z4 : Option Nat, z4 = sP κ.1 h 3 → ∃ b : Nat, z4 = some b ∧ (b ∈ sL κ.1 ∧ sK κ.1 b = 6) ∧ ∀ z5 : Int32, z5 = sI κ.1 b 1 → post z5 κ) ∧ ((a1.toInt = 3) → (h ∈ sL κ.1 ∧ sK κ.1 h = 1) ∧ ∀ z6 : Option Nat, z6 = sP κ.1 h 10 → ∃ b : Nat, z6 = some b ∧ (b ∈ sL κ.1 ∧ sK κ.1 b = 7) ∧ F_Jx4a65c_size_8abf5 G b  (fun (z8 : Int32) (κ7 : CS) => post z8 κ7) κ) ∧ ((a1.toInt = 4) → (h ∈ sL κ.1 ∧ sK κ.1 h = 1) ∧ ∀ z9 : Option Nat, z9 = sP κ.1 h 11 → ∃ b : Nat, z9 = some b ∧ (b ∈ sL κ.1 ∧ sK κ.1 b = 7) ∧ F_Jx4a65c_size_8abf5 G b  (fun (z11 : Int32) (κ10 : CS) => post z11 κ10) κ) ∧ ((a1.toInt = 5) → (h ∈ sL κ.1 ∧ sK κ.1 h = 1) ∧ ∀ z12 : Option Nat, z12 = sP κ.1 h 12 → ∃ b : Nat, z12 = some b ∧ (b ∈ sL κ.1 ∧ sK κ.1 b = 7) ∧ F_Jx4a65c_size_8abf5 G b  (fun (z14 : Int32) (κ13 : CS) => post z14 κ13) κ) ∧ ((a1.toInt = 6) → (h ∈ sL κ.1 ∧ sK κ.1 h = 1) ∧ ∀ z15 : Option Nat, z15 = sP κ.1 h 8 → ∃ b : Nat, z15 = some b ∧ (b ∈ sL κ.1 ∧ sK κ.1 b = 7) ∧ F_Jx4a65c_size_8abf5 G b  (fun (z17 : Int32) (κ16 : CS) => post z17 κ16) κ) ∧ ((a1.toInt = 7) → (h ∈ sL κ.1 ∧ sK κ.1 h = 1) ∧ ∀ z18 : Option Nat, z18 = sP κ.1 h 9 → ∃ b : Nat, z18 = some b ∧ (b ∈ sL κ.1 ∧ sK κ.1 b = 7) ∧ F_Jx4a65c_size_8abf5 G b  (fun (z20 : Int32) (κ19 : CS) => post z20 κ19) κ) ∧ ((a1.toInt = 8) → (h ∈ sL κ.1 ∧ sK κ.1 h = 1) ∧ ∀ z21 : Option Nat, z21 = sP κ.1 h 4 → ∃ b : Nat, z21 = some b ∧ (b ∈ sL κ.1 ∧ sK κ.1 b = 6) ∧ ∀ z22 : Int32, z22 = sI κ.1 b 1 → post z22 κ)
theorem dX11_told_0 : decode cX11_told 0 = .ok (.iload_n 1, 1) := by decide +kernel
theorem dX11_told_1 : decode cX11_told 1 = .ok (.tableswitch 118 0 8 #[51, 57, 62, 70, 78, 86, 94, 102, 110], 51) := by decide +kernel
theorem dX11_told_52 : decode cX11_told 52 = .ok (.aload_n 0, 1) := by decide +kernel
theorem dX11_told_53 : decode cX11_told 53 = .ok (.getfield 157, 3) := by decide +kernel
theorem dX11_told_56 : decode cX11_told 56 = .ok (.l2i, 1) := by decide +kernel
theorem dX11_told_57 : decode cX11_told 57 = .ok (.ireturn, 1) := by decide +kernel
theorem dX11_told_58 : decode cX11_told 58 = .ok (.aload_n 0, 1) := by decide +kernel
theorem dX11_told_59 : decode cX11_told 59 = .ok (.getfield 182, 3) := by decide +kernel
theorem dX11_told_62 : decode cX11_told 62 = .ok (.ireturn, 1) := by decide +kernel
theorem dX11_told_63 : decode cX11_told 63 = .ok (.aload_n 0, 1) := by decide +kernel
theorem dX11_told_64 : decode cX11_told 64 = .ok (.getfield 29, 3) := by decide +kernel
theorem dX11_told_67 : decode cX11_told 67 = .ok (.getfield 101, 3) := by decide +kernel
theorem dX11_told_70 : decode cX11_told 70 = .ok (.ireturn, 1) := by decide +kernel
theorem dX11_told_71 : decode cX11_told 71 = .ok (.aload_n 0, 1) := by decide +kernel
theorem dX11_told_72 : decode cX11_told 72 = .ok (.getfield 52, 3) := by decide +kernel
theorem dX11_told_75 : decode cX11_told 75 = .ok (.invokevirtual 161, 3) := by decide +kernel
theorem dX11_told_78 : decode cX11_told 78 = .ok (.ireturn, 1) := by decide +kernel
theorem dX11_told_79 : decode cX11_told 79 = .ok (.aload_n 0, 1) := by decide +kernel
theorem dX11_told_80 : decode cX11_told 80 = .ok (.getfield 55, 3) := by decide +kernel
theorem dX11_told_83 : decode cX11_told 83 = .ok (.invokevirtual 161, 3) := by decide +kernel
theorem dX11_told_86 : decode cX11_told 86 = .ok (.ireturn, 1) := by decide +kernel
theorem dX11_told_87 : decode cX11_told 87 = .ok (.aload_n 0, 1) := by decide +kernel
theorem dX11_told_88 : decode cX11_told 88 = .ok (.getfield 58, 3) := by decide +kernel
theorem dX11_told_91 : decode cX11_told 91 = .ok (.invokevirtual 161, 3) := by decide +kernel
theorem dX11_told_94 : decode cX11_told 94 = .ok (.ireturn, 1) := by decide +kernel
theorem dX11_told_95 : decode cX11_told 95 = .ok (.aload_n 0, 1) := by decide +kernel
theorem dX11_told_96 : decode cX11_told 96 = .ok (.getfield 45, 3) := by decide +kernel
theorem dX11_told_99 : decode cX11_told 99 = .ok (.invokevirtual 161, 3) := by decide +kernel
theorem dX11_told_102 : decode cX11_told 102 = .ok (.ireturn, 1) := by decide +kernel
theorem dX11_told_103 : decode cX11_told 103 = .ok (.aload_n 0, 1) := by decide +kernel
theorem dX11_told_104 : decode cX11_told 104 = .ok (.getfield 49, 3) := by decide +kernel
theorem dX11_told_107 : decode cX11_told 107 = .ok (.invokevirtual 161, 3) := by decide +kernel
theorem dX11_told_110 : decode cX11_told 110 = .ok (.ireturn, 1) := by decide +kernel
theorem dX11_told_111 : decode cX11_told 111 = .ok (.aload_n 0, 1) := by decide +kernel
theorem dX11_told_112 : decode cX11_told 112 = .ok (.getfield 33, 3) := by decide +kernel
theorem dX11_told_115 : decode cX11_told 115 = .ok (.getfield 101, 3) := by decide +kernel
theorem dX11_told_118 : decode cX11_told 118 = .ok (.ireturn, 1) := by decide +kernel
theorem dX11_told_119 : decode cX11_told 119 = .ok (.iconst (-1), 1) := by decide +kernel
theorem dX11_told_120 : decode cX11_told 120 = .ok (.ireturn, 1) := by decide +kernel
set_option maxRecDepth 100000 in
set_option maxHeartbeats 4000000 in
theorem c_X11_told (l : Launch) (D : va_G) (t : Nat → ClassId) (G : GE) (κ : CS) (h : Nat) (a1 : Int32) (post : Int32 → CS → Prop) (hw : F_X11_told G h a1 post κ) (sz : Nat) : CMi l D t yX11_told cX11_told 2 (some .int) 1 34 G κ sz [.ref h, .int a1] post := by
  refine c_go (by decide) (Nat.le_of_ble_eq_true rfl) ?_
  intro p e s m below meth c ls A hF hr hlk hin hAe hH hA hE hl
  unfold cB
  rw [hAe]
  clear hAe
  have hF : FX p m c cX11_told 2 s _ RX11 D t := hF
  have hx := hF.1.1
  have hb := hF.1.2.1
  have hl : lv_has ls 2 [(0, .ref h), (1, .int a1)] := hl
  unfold F_X11_told at hw
  refine lv_iload_n hx hb dX11_told_0 rfl (lv_at hl 1 rfl) ?_
  by_cases ho : a1.toInt < 0 ∨ 8 < a1.toInt
  · have hw := hw.1 ho
    refine lv_tableOut (tgt := 119) hx hb dX11_told_1 ho rfl ?_
    refine lv_iconst (v := (-1)) hx hb dX11_told_119 (by decide) ?_
    exact cw_reti hF hH ⟨rfl, rfl⟩ hr rfl hlk dX11_told_120 hw
  · rcases (show a1.toInt = 0 ∨ a1.toInt = 1 ∨ a1.toInt = 2 ∨ a1.toInt = 3 ∨ a1.toInt = 4 ∨ a1.toInt = 5 ∨ a1.toInt = 6 ∨ a1.toInt = 7 ∨ a1.toInt = 8 by omega) with zt | zt | zt | zt | zt | zt | zt | zt | zt
    · have hw := hw.2.1 zt
      have hoff : (#[51, 57, 62, 70, 78, 86, 94, 102, 110] : Array Int)[(a1.toInt - 0).toNat]? = some 51 := by rw [zt]; rfl
      refine lv_tableIn (off := 51) (tgt := 52) hx hb dX11_told_1 (fun q => ho (Or.inl q)) (fun q => ho (Or.inr q)) hoff rfl ?_
      refine lv_aload_n hx hb dX11_told_52 rfl (lv_at hl 0 rfl) ?_
      refine cw_getJr (a := h) hF hH fk_X11_157 dX11_told_53 hw (fun z1 hw => ?_)
      refine lv_l2i hx hb dX11_told_56 rfl ?_
      refine w_nmi hw (fun z2 hw => ?_)
      exact cw_reti hF hH ⟨rfl, rfl⟩ hr rfl hlk dX11_told_57 hw
    · have hw := hw.2.2.1 zt
      have hoff : (#[51, 57, 62, 70, 78, 86, 94, 102, 110] : Array Int)[(a1.toInt - 0).toNat]? = some 57 := by rw [zt]; rfl
      refine lv_tableIn (off := 57) (tgt := 58) hx hb dX11_told_1 (fun q => ho (Or.inl q)) (fun q => ho (Or.inr q)) hoff rfl ?_
      refine lv_aload_n hx hb dX11_told_58 rfl (lv_at hl 0 rfl) ?_
      refine cw_getIr (a := h) hF hH fk_X11_182 dX11_told_59 hw (fun z3 hw => ?_)
      exact cw_reti hF hH ⟨rfl, rfl⟩ hr rfl hlk dX11_told_62 hw
    · have hw := hw.2.2.2.1 zt
      have hoff : (#[51, 57, 62, 70, 78, 86, 94, 102, 110] : Array Int)[(a1.toInt - 0).toNat]? = some 62 := by rw [zt]; rfl
      refine lv_tableIn (off := 62) (tgt := 63) hx hb dX11_told_1 (fun q => ho (Or.inl q)) (fun q => ho (Or.inr q)) hoff rfl ?_
      refine lv_aload_n hx hb dX11_told_63 rfl (lv_at hl 0 rfl) ?_
      refine cw_getPr (a := h) hF hH fk_X11_29 dX11_told_64 hw (fun z4 hw => ?_)
      refine cw_getI (q := z4) hF hH fk_X11_101 dX11_told_67 hw (fun z5 hw => ?_)
      exact cw_reti hF hH ⟨rfl, rfl⟩ hr rfl hlk dX11_told_70 hw
    · have hw := hw.2.2.2.2.1 zt
      have hoff : (#[51, 57, 62, 70, 78, 86, 94, 102, 110] : Array Int)[(a1.toInt - 0).toNat]? = some 70 := by rw [zt]; rfl
      refine lv_tableIn (off := 70) (tgt := 71) hx hb dX11_told_1 (fun q => ho (Or.inl q)) (fun q => ho (Or.inr q)) hoff rfl ?_
      refine lv_aload_n hx hb dX11_told_71 rfl (lv_at hl 0 rfl) ?_
      refine cw_getPr (a := h) hF hH fk_X11_52 dX11_told_72 hw (fun z6 hw => ?_)
      refine cw_cViq (q := z6) (As := []) (rest := []) hF hH hA hE mv_X11_161 ci_Jx4a65c (by decide) hw (fun b hw sz => c_Jx4a65c_size_8abf5 l D t G _ b  _ hw sz) dX11_told_75 ⟨Nat.le_of_ble_eq_true rfl, Nat.le_of_ble_eq_true rfl⟩ rfl hl.1 (Nat.le_of_ble_eq_true rfl) rfl (fun z8 κ7 H locs cells slots hw hH => ?_)
      exact cw_reti hF hH ⟨rfl, rfl⟩ hr rfl hlk dX11_told_78 hw
    · have hw := hw.2.2.2.2.2.1 zt
      have hoff : (#[51, 57, 62, 70, 78, 86, 94, 102, 110] : Array Int)[(a1.toInt - 0).toNat]? = some 78 := by rw [zt]; rfl
      refine lv_tableIn (off := 78) (tgt := 79) hx hb dX11_told_1 (fun q => ho (Or.inl q)) (fun q => ho (Or.inr q)) hoff rfl ?_
      refine lv_aload_n hx hb dX11_told_79 rfl (lv_at hl 0 rfl) ?_
      refine cw_getPr (a := h) hF hH fk_X11_55 dX11_told_80 hw (fun z9 hw => ?_)
      refine cw_cViq (q := z9) (As := []) (rest := []) hF hH hA hE mv_X11_161 ci_Jx4a65c (by decide) hw (fun b hw sz => c_Jx4a65c_size_8abf5 l D t G _ b  _ hw sz) dX11_told_83 ⟨Nat.le_of_ble_eq_true rfl, Nat.le_of_ble_eq_true rfl⟩ rfl hl.1 (Nat.le_of_ble_eq_true rfl) rfl (fun z11 κ10 H locs cells slots hw hH => ?_)
      exact cw_reti hF hH ⟨rfl, rfl⟩ hr rfl hlk dX11_told_86 hw
    · have hw := hw.2.2.2.2.2.2.1 zt
      have hoff : (#[51, 57, 62, 70, 78, 86, 94, 102, 110] : Array Int)[(a1.toInt - 0).toNat]? = some 86 := by rw [zt]; rfl
      refine lv_tableIn (off := 86) (tgt := 87) hx hb dX11_told_1 (fun q => ho (Or.inl q)) (fun q => ho (Or.inr q)) hoff rfl ?_
      refine lv_aload_n hx hb dX11_told_87 rfl (lv_at hl 0 rfl) ?_
      refine cw_getPr (a := h) hF hH fk_X11_58 dX11_told_88 hw (fun z12 hw => ?_)
      refine cw_cViq (q := z12) (As := []) (rest := []) hF hH hA hE mv_X11_161 ci_Jx4a65c (by decide) hw (fun b hw sz => c_Jx4a65c_size_8abf5 l D t G _ b  _ hw sz) dX11_told_91 ⟨Nat.le_of_ble_eq_true rfl, Nat.le_of_ble_eq_true rfl⟩ rfl hl.1 (Nat.le_of_ble_eq_true rfl) rfl (fun z14 κ13 H locs cells slots hw hH => ?_)
      exact cw_reti hF hH ⟨rfl, rfl⟩ hr rfl hlk dX11_told_94 hw
    · have hw := hw.2.2.2.2.2.2.2.1 zt
      have hoff : (#[51, 57, 62, 70, 78, 86, 94, 102, 110] : Array Int)[(a1.toInt - 0).toNat]? = some 94 := by rw [zt]; rfl
      refine lv_tableIn (off := 94) (tgt := 95) hx hb dX11_told_1 (fun q => ho (Or.inl q)) (fun q => ho (Or.inr q)) hoff rfl ?_
      refine lv_aload_n hx hb dX11_told_95 rfl (lv_at hl 0 rfl) ?_
      refine cw_getPr (a := h) hF hH fk_X11_45 dX11_told_96 hw (fun z15 hw => ?_)
      refine cw_cViq (q := z15) (As := []) (rest := []) hF hH hA hE mv_X11_161 ci_Jx4a65c (by decide) hw (fun b hw sz => c_Jx4a65c_size_8abf5 l D t G _ b  _ hw sz) dX11_told_99 ⟨Nat.le_of_ble_eq_true rfl, Nat.le_of_ble_eq_true rfl⟩ rfl hl.1 (Nat.le_of_ble_eq_true rfl) rfl (fun z17 κ16 H locs cells slots hw hH => ?_)
      exact cw_reti hF hH ⟨rfl, rfl⟩ hr rfl hlk dX11_told_102 hw
    · have hw := hw.2.2.2.2.2.2.2.2.1 zt
      have hoff : (#[51, 57, 62, 70, 78, 86, 94, 102, 110] : Array Int)[(a1.toInt - 0).toNat]? = some 102 := by rw [zt]; rfl
      refine lv_tableIn (off := 102) (tgt := 103) hx hb dX11_told_1 (fun q => ho (Or.inl q)) (fun q => ho (Or.inr q)) hoff rfl ?_
      refine lv_aload_n hx hb dX11_told_103 rfl (lv_at hl 0 rfl) ?_
      refine cw_getPr (a := h) hF hH fk_X11_49 dX11_told_104 hw (fun z18 hw => ?_)
      refine cw_cViq (q := z18) (As := []) (rest := []) hF hH hA hE mv_X11_161 ci_Jx4a65c (by decide) hw (fun b hw sz => c_Jx4a65c_size_8abf5 l D t G _ b  _ hw sz) dX11_told_107 ⟨Nat.le_of_ble_eq_true rfl, Nat.le_of_ble_eq_true rfl⟩ rfl hl.1 (Nat.le_of_ble_eq_true rfl) rfl (fun z20 κ19 H locs cells slots hw hH => ?_)
      exact cw_reti hF hH ⟨rfl, rfl⟩ hr rfl hlk dX11_told_110 hw
    · have hw := hw.2.2.2.2.2.2.2.2.2 zt
      have hoff : (#[51, 57, 62, 70, 78, 86, 94, 102, 110] : Array Int)[(a1.toInt - 0).toNat]? = some 110 := by rw [zt]; rfl
      refine lv_tableIn (off := 110) (tgt := 111) hx hb dX11_told_1 (fun q => ho (Or.inl q)) (fun q => ho (Or.inr q)) hoff rfl ?_
      refine lv_aload_n hx hb dX11_told_111 rfl (lv_at hl 0 rfl) ?_
      refine cw_getPr (a := h) hF hH fk_X11_33 dX11_told_112 hw (fun z21 hw => ?_)
      refine cw_getI (q := z21) hF hH fk_X11_101 dX11_told_115 hw (fun z22 hw => ?_)
      exact cw_reti hF hH ⟨rfl, rfl⟩ hr rfl hlk dX11_told_118 hw

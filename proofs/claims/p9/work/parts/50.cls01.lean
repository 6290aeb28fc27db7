/-! the class, lifted: 1 -/
set_option maxRecDepth 100000 in
def F_X6_init (G : GE) (h : Nat) (post : CS → Prop) (κ : CS) : Prop := (0 ≤ (64 : Int32).toInt ∧ (64 : Int32).toInt ≤ 1000000) ∧ ((64 : Int32).toInt.toNat + 12 ≤ κ.2) ∧ ∀ o2 : Nat, o2 ∉ sL κ.1 → ∀ κ3 : CS, κ3 = (h_uN κ.1 o2 20 (64 : Int32).toInt.toNat, κ.2 - ((64 : Int32).toInt.toNat + 12)) → (h ∈ sL κ3.1 ∧ sK κ3.1 h = 2) ∧ ∀ κ4 : CS, κ4 = (h_uP κ3.1 h 0 (some o2), κ3.2) → post κ4
theorem dX6_init_0 : decode cX6_init 0 = .ok (.aload_n 0, 1) := by decide +kernel
theorem dX6_init_1 : decode cX6_init 1 = .ok (.invokespecial 1, 3) := by decide +kernel
theorem dX6_init_4 : decode cX6_init 4 = .ok (.aload_n 0, 1) := by decide +kernel
theorem dX6_init_5 : decode cX6_init 5 = .ok (.bipush 64, 2) := by decide +kernel
theorem dX6_init_7 : decode cX6_init 7 = .ok (.newarray .byte, 2) := by decide +kernel
theorem dX6_init_9 : decode cX6_init 9 = .ok (.putfield 7, 3) := by decide +kernel
theorem dX6_init_12 : decode cX6_init 12 = .ok (.return_, 1) := by decide +kernel
set_option maxRecDepth 100000 in
set_option maxHeartbeats 4000000 in
theorem c_X6_init (l : Launch) (D : va_G) (t : Nat → ClassId) (G : GE) (κ : CS) (h : Nat) (post : CS → Prop) (hw : F_X6_init G h post κ) (sz : Nat) : CMv l D t yX6_init cX6_init 1 1 30 G κ sz [.ref h] post := by
  refine c_go (by decide) (Nat.le_of_ble_eq_true rfl) ?_
  intro p e s m below meth c ls A hF hr hlk hin hAe hH hA hE hl
  unfold cB
  rw [hAe]
  clear hAe
  have hF : FX p m c cX6_init 1 s _ RX6 D t := hF
  have hx := hF.1.1
  have hb := hF.1.2.1
  have hl : lv_has ls 1 [(0, .ref h)] := hl
  unfold F_X6_init at hw
  refine lv_aload_n hx hb dX6_init_0 rfl (lv_at hl 0 rfl) ?_
  refine W.objInit hx hb hF.1.2.2.2.1 (hF.1.2.2.2.2 _ (wc_6 23 rfl)) (hF.1.2.2.2.2 _ (wc_5 1 rfl)) (hF.1.2.2.2.2 _ (wc_5 0 rfl)) rfl (hl.1.trans hF.1.2.2.1.symm) rfl dX6_init_1 (Nat.le_of_ble_eq_true rfl) (Nat.le_of_ble_eq_true rfl) ?_
  refine lv_aload_n hx hb dX6_init_4 rfl (lv_at hl 0 rfl) ?_
  refine lv_bipush (v := 64) hx hb dX6_init_5 (by decide) ?_
  refine cw_newarr_byte hF hH hA (wc_5 11 rfl) dX6_init_7 hw (fun o2 κ3 H locs cells slots hw hH => ?_)
  refine cw_putPr (a := h) (v := (some o2)) hF hH fk_X6_7 dX6_init_9 rfl rfl hw (fun κ4 H locs cells slots hw hH => ?_)
  exact cw_retv hF hH ⟨rfl, rfl⟩ hr hlk dX6_init_12 hw
set_option maxRecDepth 100000 in
def F_X2_init (G : GE) (h : Nat) (post : CS → Prop) (κ : CS) : Prop := (2 + 12 ≤ κ.2) ∧ ∀ o2 : Nat, o2 ∉ sL κ.1 → ∀ κ3 : CS, κ3 = (h_uN κ.1 o2 2 0, κ.2 - (2 + 12)) → F_X6_init G o2  (fun (κ4 : CS) => (h ∈ sL κ4.1 ∧ sK κ4.1 h = 3) ∧ ∀ κ6 : CS, κ6 = (h_uP κ4.1 h 2 (some o2), κ4.2) → (2 + 12 ≤ κ6.2) ∧ ∀ o7 : Nat, o7 ∉ sL κ6.1 → ∀ κ8 : CS, κ8 = (h_uN κ6.1 o7 2 0, κ6.2 - (2 + 12)) → F_X6_init G o7  (fun (κ9 : CS) => (h ∈ sL κ9.1 ∧ sK κ9.1 h = 3) ∧ ∀ κ11 : CS, κ11 = (h_uP κ9.1 h 4 (some o7), κ9.2) → (0 ≤ (16 : Int32).toInt ∧ (16 : Int32).toInt ≤ 1000000) ∧ ((16 : Int32).toInt.toNat + 12 ≤ κ11.2) ∧ ∀ o12 : Nat, o12 ∉ sL κ11.1 → ∀ κ13 : CS, κ13 = (h_uN κ11.1 o12 22 (16 : Int32).toInt.toNat, κ11.2 - ((16 : Int32).toInt.toNat + 12)) → (h ∈ sL κ13.1 ∧ sK κ13.1 h = 3) ∧ ∀ κ14 : CS, κ14 = (h_uP κ13.1 h 5 (some o12), κ13.2) → post κ14) κ8) κ3
theorem dX2_init_0 : decode cX2_init 0 = .ok (.aload_n 0, 1) := by decide +kernel
theorem dX2_init_1 : decode cX2_init 1 = .ok (.invokespecial 3, 3) := by decide +kernel
theorem dX2_init_4 : decode cX2_init 4 = .ok (.aload_n 0, 1) := by decide +kernel
theorem dX2_init_5 : decode cX2_init 5 = .ok (.new 9, 3) := by decide +kernel
theorem dX2_init_8 : decode cX2_init 8 = .ok (.dup, 1) := by decide +kernel
theorem dX2_init_9 : decode cX2_init 9 = .ok (.invokespecial 11, 3) := by decide +kernel
theorem dX2_init_12 : decode cX2_init 12 = .ok (.putfield 12, 3) := by decide +kernel
theorem dX2_init_15 : decode cX2_init 15 = .ok (.aload_n 0, 1) := by decide +kernel
theorem dX2_init_16 : decode cX2_init 16 = .ok (.new 9, 3) := by decide +kernel
theorem dX2_init_19 : decode cX2_init 19 = .ok (.dup, 1) := by decide +kernel
theorem dX2_init_20 : decode cX2_init 20 = .ok (.invokespecial 11, 3) := by decide +kernel
theorem dX2_init_23 : decode cX2_init 23 = .ok (.putfield 18, 3) := by decide +kernel
theorem dX2_init_26 : decode cX2_init 26 = .ok (.aload_n 0, 1) := by decide +kernel
theorem dX2_init_27 : decode cX2_init 27 = .ok (.bipush 16, 2) := by decide +kernel
theorem dX2_init_29 : decode cX2_init 29 = .ok (.newarray .long, 2) := by decide +kernel
theorem dX2_init_31 : decode cX2_init 31 = .ok (.putfield 21, 3) := by decide +kernel
theorem dX2_init_34 : decode cX2_init 34 = .ok (.return_, 1) := by decide +kernel
set_option maxRecDepth 100000 in
set_option maxHeartbeats 4000000 in
theorem c_X2_init (l : Launch) (D : va_G) (t : Nat → ClassId) (G : GE) (κ : CS) (h : Nat) (post : CS → Prop) (hw : F_X2_init G h post κ) (sz : Nat) : CMv l D t yX2_init cX2_init 1 2 50 G κ sz [.ref h] post := by
  refine c_go (by decide) (Nat.le_of_ble_eq_true rfl) ?_
  intro p e s m below meth c ls A hF hr hlk hin hAe hH hA hE hl
  unfold cB
  rw [hAe]
  clear hAe
  have hF : FX p m c cX2_init 1 s _ RX2 D t := hF
  have hx := hF.1.1
  have hb := hF.1.2.1
  have hl : lv_has ls 1 [(0, .ref h)] := hl
  unfold F_X2_init at hw
  refine lv_aload_n hx hb dX2_init_0 rfl (lv_at hl 0 rfl) ?_
  refine W.objInit hx hb hF.1.2.2.2.1 (hF.1.2.2.2.2 _ (wc_5 24 rfl)) (hF.1.2.2.2.2 _ (wc_5 1 rfl)) (hF.1.2.2.2.2 _ (wc_5 0 rfl)) rfl (hl.1.trans hF.1.2.2.1.symm) rfl dX2_init_1 (Nat.le_of_ble_eq_true rfl) (Nat.le_of_ble_eq_true rfl) ?_
  refine lv_aload_n hx hb dX2_init_4 rfl (lv_at hl 0 rfl) ?_
  refine cw_new hF hH hA ci_X6 (by decide) rfl df_X6 dX2_init_5 (wc_5 25 rfl) (wc_5 26 rfl) (wc_5 6 rfl) hw (fun o2 κ3 H locs cells slots hw hH => ?_)
  refine lv_dup hx hb dX2_init_8 rfl ?_
  refine cw_cIN (b := o2) (As := []) (rest := [.ref o2, .ref h]) hF hH hA hE min_X2_11 (fun sz => c_X6_init l D t G _ o2  _ hw sz) dX2_init_9 ⟨Nat.le_of_ble_eq_true rfl, Nat.le_of_ble_eq_true rfl⟩ rfl hl.1 (Nat.le_of_ble_eq_true rfl) rfl (fun κ4 H locs cells slots hw hH => ?_)
  refine cw_putFP (a := h) (v := (some o2)) hF hH fk_X2_12 dX2_init_12 hin rfl rfl rfl hw (fun κ6 H locs cells slots hw hH => ?_)
  refine lv_aload_n hx hb dX2_init_15 rfl (lv_at hl 0 rfl) ?_
  refine cw_new hF hH hA ci_X6 (by decide) rfl df_X6 dX2_init_16 (wc_5 25 rfl) (wc_5 26 rfl) (wc_5 6 rfl) hw (fun o7 κ8 H locs cells slots hw hH => ?_)
  refine lv_dup hx hb dX2_init_19 rfl ?_
  refine cw_cIN (b := o7) (As := []) (rest := [.ref o7, .ref h]) hF hH hA hE min_X2_11 (fun sz => c_X6_init l D t G _ o7  _ hw sz) dX2_init_20 ⟨Nat.le_of_ble_eq_true rfl, Nat.le_of_ble_eq_true rfl⟩ rfl hl.1 (Nat.le_of_ble_eq_true rfl) rfl (fun κ9 H locs cells slots hw hH => ?_)
  refine cw_putFP (a := h) (v := (some o7)) hF hH fk_X2_18 dX2_init_23 hin rfl rfl rfl hw (fun κ11 H locs cells slots hw hH => ?_)
  refine lv_aload_n hx hb dX2_init_26 rfl (lv_at hl 0 rfl) ?_
  refine lv_bipush (v := 16) hx hb dX2_init_27 (by decide) ?_
  refine cw_newarr_long hF hH hA (wc_10 26 rfl) dX2_init_29 hw (fun o12 κ13 H locs cells slots hw hH => ?_)
  refine cw_putFP (a := h) (v := (some o12)) hF hH fk_X2_21 dX2_init_31 hin rfl rfl rfl hw (fun κ14 H locs cells slots hw hH => ?_)
  exact cw_retv hF hH ⟨rfl, rfl⟩ hr hlk dX2_init_34 hw
set_option maxRecDepth 100000 in
def F_X2_begin (G : GE) (h : Nat) (post : CS → Prop) (κ : CS) : Prop := (0 ≤ (1 : Int32).toInt ∧ (1 : Int32).toInt ≤ 1) ∧ (h ∈ sL κ.1 ∧ sK κ.1 h = 3) ∧ ∀ κ1 : CS, κ1 = (h_uI κ.1 h 0 1, κ.2) → (0 ≤ (0 : Int32).toInt ∧ (0 : Int32).toInt ≤ 1) ∧ (h ∈ sL κ1.1 ∧ sK κ1.1 h = 3) ∧ ∀ κ2 : CS, κ2 = (h_uI κ1.1 h 1 0, κ1.2) → (h ∈ sL κ2.1 ∧ sK κ2.1 h = 3) ∧ ∀ z3 : Option Nat, z3 = sP κ2.1 h 2 → ∃ b : Nat, z3 = some b ∧ (b ∈ sL κ2.1 ∧ sK κ2.1 b = 2) ∧ ∀ κ4 : CS, κ4 = (h_uI κ2.1 b 1 0, κ2.2) → (h ∈ sL κ4.1 ∧ sK κ4.1 h = 3) ∧ ∀ z5 : Option Nat, z5 = sP κ4.1 h 4 → ∃ b : Nat, z5 = some b ∧ (b ∈ sL κ4.1 ∧ sK κ4.1 b = 2) ∧ ∀ κ6 : CS, κ6 = (h_uI κ4.1 b 1 0, κ4.2) → (h ∈ sL κ6.1 ∧ sK κ6.1 h = 3) ∧ ∀ z7 : Option Nat, z7 = sP κ6.1 h 5 → ∃ b : Nat, z7 = some b ∧ (b ∈ sL κ6.1 ∧ sK κ6.1 b = 22) ∧ (0 ≤ (0 : Int32).toInt ∧ (0 : Int32).toInt < (sN κ6.1 b : Int)) ∧ ∀ κ8 : CS, κ8 = (h_uJ κ6.1 b (0 : Int32).toInt.toNat 0, κ6.2) → (h ∈ sL κ8.1 ∧ sK κ8.1 h = 3) ∧ ∀ κ9 : CS, κ9 = (h_uI κ8.1 h 6 1, κ8.2) → (h ∈ sL κ9.1 ∧ sK κ9.1 h = 3) ∧ ∀ κ10 : CS, κ10 = (h_uJ κ9.1 h 7 0, κ9.2) → post κ10
theorem dX2_begin_0 : decode cX2_begin 0 = .ok (.aload_n 0, 1) := by decide +kernel
theorem dX2_begin_1 : decode cX2_begin 1 = .ok (.iconst 1, 1) := by decide +kernel
theorem dX2_begin_2 : decode cX2_begin 2 = .ok (.putfield 25, 3) := by decide +kernel
theorem dX2_begin_5 : decode cX2_begin 5 = .ok (.aload_n 0, 1) := by decide +kernel
theorem dX2_begin_6 : decode cX2_begin 6 = .ok (.iconst 0, 1) := by decide +kernel
theorem dX2_begin_7 : decode cX2_begin 7 = .ok (.putfield 29, 3) := by decide +kernel
theorem dX2_begin_10 : decode cX2_begin 10 = .ok (.aload_n 0, 1) := by decide +kernel
theorem dX2_begin_11 : decode cX2_begin 11 = .ok (.getfield 12, 3) := by decide +kernel
theorem dX2_begin_14 : decode cX2_begin 14 = .ok (.iconst 0, 1) := by decide +kernel
theorem dX2_begin_15 : decode cX2_begin 15 = .ok (.putfield 32, 3) := by decide +kernel
theorem dX2_begin_18 : decode cX2_begin 18 = .ok (.aload_n 0, 1) := by decide +kernel
theorem dX2_begin_19 : decode cX2_begin 19 = .ok (.getfield 18, 3) := by decide +kernel
theorem dX2_begin_22 : decode cX2_begin 22 = .ok (.iconst 0, 1) := by decide +kernel
theorem dX2_begin_23 : decode cX2_begin 23 = .ok (.putfield 32, 3) := by decide +kernel
theorem dX2_begin_26 : decode cX2_begin 26 = .ok (.aload_n 0, 1) := by decide +kernel
theorem dX2_begin_27 : decode cX2_begin 27 = .ok (.getfield 21, 3) := by decide +kernel
theorem dX2_begin_30 : decode cX2_begin 30 = .ok (.iconst 0, 1) := by decide +kernel
theorem dX2_begin_31 : decode cX2_begin 31 = .ok (.lconst 0, 1) := by decide +kernel
theorem dX2_begin_32 : decode cX2_begin 32 = .ok (.lastore, 1) := by decide +kernel
theorem dX2_begin_33 : decode cX2_begin 33 = .ok (.aload_n 0, 1) := by decide +kernel
theorem dX2_begin_34 : decode cX2_begin 34 = .ok (.iconst 1, 1) := by decide +kernel
theorem dX2_begin_35 : decode cX2_begin 35 = .ok (.putfield 36, 3) := by decide +kernel
theorem dX2_begin_38 : decode cX2_begin 38 = .ok (.aload_n 0, 1) := by decide +kernel
theorem dX2_begin_39 : decode cX2_begin 39 = .ok (.lconst 0, 1) := by decide +kernel
theorem dX2_begin_40 : decode cX2_begin 40 = .ok (.putfield 39, 3) := by decide +kernel
theorem dX2_begin_43 : decode cX2_begin 43 = .ok (.return_, 1) := by decide +kernel
set_option maxRecDepth 100000 in
set_option maxHeartbeats 4000000 in
theorem c_X2_begin (l : Launch) (D : va_G) (t : Nat → ClassId) (G : GE) (κ : CS) (h : Nat) (post : CS → Prop) (hw : F_X2_begin G h post κ) (sz : Nat) : CMv l D t yX2_begin cX2_begin 1 0 14 G κ sz [.ref h] post := by
  refine c_go (by decide) (Nat.le_of_ble_eq_true rfl) ?_
  intro p e s m below meth c ls A hF hr hlk hin hAe hH hA hE hl
  unfold cB
  rw [hAe]
  clear hAe
  have hF : FX p m c cX2_begin 1 s _ RX2 D t := hF
  have hx := hF.1.1
  have hb := hF.1.2.1
  have hl : lv_has ls 1 [(0, .ref h)] := hl
  unfold F_X2_begin at hw
  refine lv_aload_n hx hb dX2_begin_0 rfl (lv_at hl 0 rfl) ?_
  refine lv_iconst (v := 1) hx hb dX2_begin_1 (by decide) ?_
  refine cw_putZr (a := h) (v := 1) hF hH fk_X2_25 dX2_begin_2 rfl rfl hw (fun κ1 H locs cells slots hw hH => ?_)
  refine lv_aload_n hx hb dX2_begin_5 rfl (lv_at hl 0 rfl) ?_
  refine lv_iconst (v := 0) hx hb dX2_begin_6 (by decide) ?_
  refine cw_putZr (a := h) (v := 0) hF hH fk_X2_29 dX2_begin_7 rfl rfl hw (fun κ2 H locs cells slots hw hH => ?_)
  refine lv_aload_n hx hb dX2_begin_10 rfl (lv_at hl 0 rfl) ?_
  refine cw_getPr (a := h) hF hH fk_X2_12 dX2_begin_11 hw (fun z3 hw => ?_)
  refine lv_iconst (v := 0) hx hb dX2_begin_14 (by decide) ?_
  refine cw_putI (q := z3) (v := 0) hF hH fk_X2_32 dX2_begin_15 rfl rfl rfl hw (fun κ4 H locs cells slots hw hH => ?_)
  refine lv_aload_n hx hb dX2_begin_18 rfl (lv_at hl 0 rfl) ?_
  refine cw_getPr (a := h) hF hH fk_X2_18 dX2_begin_19 hw (fun z5 hw => ?_)
  refine lv_iconst (v := 0) hx hb dX2_begin_22 (by decide) ?_
  refine cw_putI (q := z5) (v := 0) hF hH fk_X2_32 dX2_begin_23 rfl rfl rfl hw (fun κ6 H locs cells slots hw hH => ?_)
  refine lv_aload_n hx hb dX2_begin_26 rfl (lv_at hl 0 rfl) ?_
  refine cw_getPr (a := h) hF hH fk_X2_21 dX2_begin_27 hw (fun z7 hw => ?_)
  refine lv_iconst (v := 0) hx hb dX2_begin_30 (by decide) ?_
  refine lv_lconst (v := 0) hx hb dX2_begin_31 (by decide) ?_
  refine cw_last (q := z7) hF hH dX2_begin_32 hw (fun κ8 H locs cells slots hw hH => ?_)
  refine lv_aload_n hx hb dX2_begin_33 rfl (lv_at hl 0 rfl) ?_
  refine lv_iconst (v := 1) hx hb dX2_begin_34 (by decide) ?_
  refine cw_putIr (a := h) (v := 1) hF hH fk_X2_36 dX2_begin_35 rfl rfl rfl hw (fun κ9 H locs cells slots hw hH => ?_)
  refine lv_aload_n hx hb dX2_begin_38 rfl (lv_at hl 0 rfl) ?_
  refine lv_lconst (v := 0) hx hb dX2_begin_39 (by decide) ?_
  refine cw_putJr (a := h) (v := 0) hF hH fk_X2_39 dX2_begin_40 rfl rfl rfl hw (fun κ10 H locs cells slots hw hH => ?_)
  exact cw_retv hF hH ⟨rfl, rfl⟩ hr hlk dX2_begin_43 hw
set_option maxRecDepth 100000 in
def F_X2_vanish (G : GE) (h : Nat) (post : CS → Prop) (κ : CS) : Prop := (0 ≤ (0 : Int32).toInt ∧ (0 : Int32).toInt ≤ 1) ∧ (h ∈ sL κ.1 ∧ sK κ.1 h = 3) ∧ ∀ κ1 : CS, κ1 = (h_uI κ.1 h 0 0, κ.2) → (h ∈ sL κ1.1 ∧ sK κ1.1 h = 3) ∧ ∀ z2 : Option Nat, z2 = sP κ1.1 h 2 → ∃ b : Nat, z2 = some b ∧ (b ∈ sL κ1.1 ∧ sK κ1.1 b = 2) ∧ ∀ κ3 : CS, κ3 = (h_uI κ1.1 b 1 0, κ1.2) → (h ∈ sL κ3.1 ∧ sK κ3.1 h = 3) ∧ ∀ z4 : Option Nat, z4 = sP κ3.1 h 4 → ∃ b : Nat, z4 = some b ∧ (b ∈ sL κ3.1 ∧ sK κ3.1 b = 2) ∧ ∀ κ5 : CS, κ5 = (h_uI κ3.1 b 1 0, κ3.2) → post κ5
theorem dX2_vanish_0 : decode cX2_vanish 0 = .ok (.aload_n 0, 1) := by decide +kernel
theorem dX2_vanish_1 : decode cX2_vanish 1 = .ok (.iconst 0, 1) := by decide +kernel
theorem dX2_vanish_2 : decode cX2_vanish 2 = .ok (.putfield 25, 3) := by decide +kernel
theorem dX2_vanish_5 : decode cX2_vanish 5 = .ok (.aload_n 0, 1) := by decide +kernel
theorem dX2_vanish_6 : decode cX2_vanish 6 = .ok (.getfield 12, 3) := by decide +kernel
theorem dX2_vanish_9 : decode cX2_vanish 9 = .ok (.iconst 0, 1) := by decide +kernel
theorem dX2_vanish_10 : decode cX2_vanish 10 = .ok (.putfield 32, 3) := by decide +kernel
theorem dX2_vanish_13 : decode cX2_vanish 13 = .ok (.aload_n 0, 1) := by decide +kernel
theorem dX2_vanish_14 : decode cX2_vanish 14 = .ok (.getfield 18, 3) := by decide +kernel
theorem dX2_vanish_17 : decode cX2_vanish 17 = .ok (.iconst 0, 1) := by decide +kernel
theorem dX2_vanish_18 : decode cX2_vanish 18 = .ok (.putfield 32, 3) := by decide +kernel
theorem dX2_vanish_21 : decode cX2_vanish 21 = .ok (.return_, 1) := by decide +kernel
set_option maxRecDepth 100000 in
set_option maxHeartbeats 4000000 in
theorem c_X2_vanish (l : Launch) (D : va_G) (t : Nat → ClassId) (G : GE) (κ : CS) (h : Nat) (post : CS → Prop) (hw : F_X2_vanish G h post κ) (sz : Nat) : CMv l D t yX2_vanish cX2_vanish 1 0 14 G κ sz [.ref h] post := by
  refine c_go (by decide) (Nat.le_of_ble_eq_true rfl) ?_
  intro p e s m below meth c ls A hF hr hlk hin hAe hH hA hE hl
  unfold cB
  rw [hAe]
  clear hAe
  have hF : FX p m c cX2_vanish 1 s _ RX2 D t := hF
  have hx := hF.1.1
  have hb := hF.1.2.1
  have hl : lv_has ls 1 [(0, .ref h)] := hl
  unfold F_X2_vanish at hw
  refine lv_aload_n hx hb dX2_vanish_0 rfl (lv_at hl 0 rfl) ?_
  refine lv_iconst (v := 0) hx hb dX2_vanish_1 (by decide) ?_
  refine cw_putZr (a := h) (v := 0) hF hH fk_X2_25 dX2_vanish_2 rfl rfl hw (fun κ1 H locs cells slots hw hH => ?_)
  refine lv_aload_n hx hb dX2_vanish_5 rfl (lv_at hl 0 rfl) ?_
  refine cw_getPr (a := h) hF hH fk_X2_12 dX2_vanish_6 hw (fun z2 hw => ?_)
  refine lv_iconst (v := 0) hx hb dX2_vanish_9 (by decide) ?_
  refine cw_putI (q := z2) (v := 0) hF hH fk_X2_32 dX2_vanish_10 rfl rfl rfl hw (fun κ3 H locs cells slots hw hH => ?_)
  refine lv_aload_n hx hb dX2_vanish_13 rfl (lv_at hl 0 rfl) ?_
  refine cw_getPr (a := h) hF hH fk_X2_18 dX2_vanish_14 hw (fun z4 hw => ?_)
  refine lv_iconst (v := 0) hx hb dX2_vanish_17 (by decide) ?_
  refine cw_putI (q := z4) (v := 0) hF hH fk_X2_32 dX2_vanish_18 rfl rfl rfl hw (fun κ5 H locs cells slots hw hH => ?_)
  exact cw_retv hF hH ⟨rfl, rfl⟩ hr hlk dX2_vanish_21 hw
set_option maxRecDepth 100000 in
def F_X2_frame (G : GE) (h : Nat) (post : Int32 → CS → Prop) (κ : CS) : Prop := (h ∈ sL κ.1 ∧ sK κ.1 h = 3) ∧ ∀ z1 : Option Nat, z1 = sP κ.1 h 2 → ∃ b : Nat, z1 = some b ∧ (b ∈ sL κ.1 ∧ sK κ.1 b = 2) ∧ ∀ z2 : Int32, z2 = sI κ.1 b 1 → jc (fun (K5 : Unit → CS → Prop) => ((¬ z2.toInt = (4 : Int32).toInt) → K5 () κ) ∧ ((z2.toInt = (4 : Int32).toInt) → (h ∈ sL κ.1 ∧ sK κ.1 h = 3) ∧ ∀ z25 : Option Nat, z25 = sP κ.1 h 2 → ∃ b : Nat, z25 = some b ∧ (b ∈ sL κ.1 ∧ sK κ.1 b = 2) ∧ F_X6_number G b 1 1 (fun (z27 : Int64) (κ26 : CS) => ∀ z28 : Int64, z28 = z27 <<< ((16 : Int32).toInt64 &&& 63) → (h ∈ sL κ26.1 ∧ sK κ26.1 h = 3) ∧ ∀ z29 : Option Nat, z29 = sP κ26.1 h 2 → ∃ b : Nat, z29 = some b ∧ (b ∈ sL κ26.1 ∧ sK κ26.1 b = 2) ∧ F_X6_number G b 2 1 (fun (z31 : Int64) (κ30 : CS) => ∀ z32 : Int64, z32 = z31 <<< ((8 : Int32).toInt64 &&& 63) → ∀ z33 : Int64, z33 = z28 ||| z32 → (h ∈ sL κ30.1 ∧ sK κ30.1 h = 3) ∧ ∀ z34 : Option Nat, z34 = sP κ30.1 h 2 → ∃ b : Nat, z34 = some b ∧ (b ∈ sL κ30.1 ∧ sK κ30.1 b = 2) ∧ F_X6_number G b 3 1 (fun (z36 : Int64) (κ35 : CS) => ∀ z37 : Int64, z37 = z33 ||| z36 → (h ∈ sL κ35.1 ∧ sK κ35.1 h = 3) ∧ ∀ κ38 : CS, κ38 = (h_uJ κ35.1 h 3 z37, κ35.2) → (h ∈ sL κ38.1 ∧ sK κ38.1 h = 3) ∧ ∀ z39 : Option Nat, z39 = sP κ38.1 h 2 → ∃ b : Nat, z39 = some b ∧ (b ∈ sL κ38.1 ∧ sK κ38.1 b = 2) ∧ F_X6_number G b 0 1 (fun (z41 : Int64) (κ40 : CS) => jc (fun (K44 : Unit → CS → Prop) => ((¬ z41.toInt = (0 : Int64).toInt) → K44 () κ40) ∧ ((z41.toInt = (0 : Int64).toInt) → (h ∈ sL κ40.1 ∧ sK κ40.1 h = 3) ∧ ∀ z47 : Int64, z47 = sJ κ40.1 h 3 → ((z47.toInt < (64 : Int64).toInt) → K44 () κ40) ∧ (((64 : Int64).toInt ≤ z47.toInt) → (h ∈ sL κ40.1 ∧ sK κ40.1 h = 3) ∧ ∀ z48 : Int64, z48 = sJ κ40.1 h 3 → ((z48.toInt ≤ (4000 : Int64).toInt) → K5 () κ40) ∧ (((4000 : Int64).toInt < z48.toInt) → K44 () κ40)))) (fun (x42 : Unit) (κ43 : CS) => post 2 κ43)) κ38) κ30) κ26) κ)) (fun (x3 : Unit) (κ4 : CS) => (h ∈ sL κ4.1 ∧ sK κ4.1 h = 3) ∧ ∀ z8 : Option Nat, z8 = sP κ4.1 h 2 → ∃ b : Nat, z8 = some b ∧ (b ∈ sL κ4.1 ∧ sK κ4.1 b = 2) ∧ ∀ z9 : Int32, z9 = sI κ4.1 b 1 → jc (fun (K12 : Int32 → CS → Prop) => jc (fun (K17 : Unit → CS → Prop) => ((z9.toInt < (4 : Int32).toInt) → K17 () κ4) ∧ (((4 : Int32).toInt ≤ z9.toInt) → (h ∈ sL κ4.1 ∧ sK κ4.1 h = 3) ∧ ∀ z20 : Option Nat, z20 = sP κ4.1 h 2 → ∃ b : Nat, z20 = some b ∧ (b ∈ sL κ4.1 ∧ sK κ4.1 b = 2) ∧ ∀ z21 : Int32, z21 = sI κ4.1 b 1 → ∀ z22 : Int64, z22 = (z21 : Int32).toInt64 → (h ∈ sL κ4.1 ∧ sK κ4.1 h = 3) ∧ ∀ z23 : Int64, z23 = sJ κ4.1 h 3 → ∀ z24 : Int64, z24 = 4 + z23 → ((z24.toInt ≤ z22.toInt) → K12 1 κ4) ∧ ((z22.toInt < z24.toInt) → K17 () κ4))) (fun (x15 : Unit) (κ16 : CS) => K12 0 κ16)) (fun (x10 : Int32) (κ11 : CS) => post x10 κ11))
theorem dX2_frame_0 : decode cX2_frame 0 = .ok (.aload_n 0, 1) := by decide +kernel
theorem dX2_frame_1 : decode cX2_frame 1 = .ok (.getfield 12, 3) := by decide +kernel
theorem dX2_frame_4 : decode cX2_frame 4 = .ok (.getfield 32, 3) := by decide +kernel
theorem dX2_frame_7 : decode cX2_frame 7 = .ok (.iconst 4, 1) := by decide +kernel
theorem dX2_frame_8 : decode cX2_frame 8 = .ok (.if_icmp .ne 80, 3) := by decide +kernel
theorem dX2_frame_11 : decode cX2_frame 11 = .ok (.aload_n 0, 1) := by decide +kernel
theorem dX2_frame_12 : decode cX2_frame 12 = .ok (.aload_n 0, 1) := by decide +kernel
theorem dX2_frame_13 : decode cX2_frame 13 = .ok (.getfield 12, 3) := by decide +kernel
theorem dX2_frame_16 : decode cX2_frame 16 = .ok (.iconst 1, 1) := by decide +kernel
theorem dX2_frame_17 : decode cX2_frame 17 = .ok (.iconst 1, 1) := by decide +kernel
theorem dX2_frame_18 : decode cX2_frame 18 = .ok (.invokevirtual 43, 3) := by decide +kernel
theorem dX2_frame_21 : decode cX2_frame 21 = .ok (.bipush 16, 2) := by decide +kernel
theorem dX2_frame_23 : decode cX2_frame 23 = .ok (.lshl, 1) := by decide +kernel
theorem dX2_frame_24 : decode cX2_frame 24 = .ok (.aload_n 0, 1) := by decide +kernel
theorem dX2_frame_25 : decode cX2_frame 25 = .ok (.getfield 12, 3) := by decide +kernel
theorem dX2_frame_28 : decode cX2_frame 28 = .ok (.iconst 2, 1) := by decide +kernel
theorem dX2_frame_29 : decode cX2_frame 29 = .ok (.iconst 1, 1) := by decide +kernel
theorem dX2_frame_30 : decode cX2_frame 30 = .ok (.invokevirtual 43, 3) := by decide +kernel
theorem dX2_frame_33 : decode cX2_frame 33 = .ok (.bipush 8, 2) := by decide +kernel
theorem dX2_frame_35 : decode cX2_frame 35 = .ok (.lshl, 1) := by decide +kernel
theorem dX2_frame_36 : decode cX2_frame 36 = .ok (.lor, 1) := by decide +kernel
theorem dX2_frame_37 : decode cX2_frame 37 = .ok (.aload_n 0, 1) := by decide +kernel
theorem dX2_frame_38 : decode cX2_frame 38 = .ok (.getfield 12, 3) := by decide +kernel
theorem dX2_frame_41 : decode cX2_frame 41 = .ok (.iconst 3, 1) := by decide +kernel
theorem dX2_frame_42 : decode cX2_frame 42 = .ok (.iconst 1, 1) := by decide +kernel
theorem dX2_frame_43 : decode cX2_frame 43 = .ok (.invokevirtual 43, 3) := by decide +kernel
theorem dX2_frame_46 : decode cX2_frame 46 = .ok (.lor, 1) := by decide +kernel
theorem dX2_frame_47 : decode cX2_frame 47 = .ok (.putfield 47, 3) := by decide +kernel
theorem dX2_frame_50 : decode cX2_frame 50 = .ok (.aload_n 0, 1) := by decide +kernel
theorem dX2_frame_51 : decode cX2_frame 51 = .ok (.getfield 12, 3) := by decide +kernel
theorem dX2_frame_54 : decode cX2_frame 54 = .ok (.iconst 0, 1) := by decide +kernel
theorem dX2_frame_55 : decode cX2_frame 55 = .ok (.iconst 1, 1) := by decide +kernel
theorem dX2_frame_56 : decode cX2_frame 56 = .ok (.invokevirtual 43, 3) := by decide +kernel
theorem dX2_frame_59 : decode cX2_frame 59 = .ok (.lconst 0, 1) := by decide +kernel
theorem dX2_frame_60 : decode cX2_frame 60 = .ok (.lcmp, 1) := by decide +kernel
theorem dX2_frame_61 : decode cX2_frame 61 = .ok (.ifCond .ne 25, 3) := by decide +kernel
theorem dX2_frame_64 : decode cX2_frame 64 = .ok (.aload_n 0, 1) := by decide +kernel
theorem dX2_frame_65 : decode cX2_frame 65 = .ok (.getfield 47, 3) := by decide +kernel
theorem dX2_frame_68 : decode cX2_frame 68 = .ok (.ldc2_w 50, 3) := by decide +kernel
theorem dX2_frame_71 : decode cX2_frame 71 = .ok (.lcmp, 1) := by decide +kernel
theorem dX2_frame_72 : decode cX2_frame 72 = .ok (.ifCond .lt 14, 3) := by decide +kernel
theorem dX2_frame_75 : decode cX2_frame 75 = .ok (.aload_n 0, 1) := by decide +kernel
theorem dX2_frame_76 : decode cX2_frame 76 = .ok (.getfield 47, 3) := by decide +kernel
theorem dX2_frame_79 : decode cX2_frame 79 = .ok (.ldc2_w 52, 3) := by decide +kernel
theorem dX2_frame_82 : decode cX2_frame 82 = .ok (.lcmp, 1) := by decide +kernel
theorem dX2_frame_83 : decode cX2_frame 83 = .ok (.ifCond .le 5, 3) := by decide +kernel
theorem dX2_frame_86 : decode cX2_frame 86 = .ok (.iconst 2, 1) := by decide +kernel
theorem dX2_frame_87 : decode cX2_frame 87 = .ok (.ireturn, 1) := by decide +kernel
theorem dX2_frame_88 : decode cX2_frame 88 = .ok (.aload_n 0, 1) := by decide +kernel
theorem dX2_frame_89 : decode cX2_frame 89 = .ok (.getfield 12, 3) := by decide +kernel
theorem dX2_frame_92 : decode cX2_frame 92 = .ok (.getfield 32, 3) := by decide +kernel
theorem dX2_frame_95 : decode cX2_frame 95 = .ok (.iconst 4, 1) := by decide +kernel
theorem dX2_frame_96 : decode cX2_frame 96 = .ok (.if_icmp .lt 23, 3) := by decide +kernel
theorem dX2_frame_99 : decode cX2_frame 99 = .ok (.aload_n 0, 1) := by decide +kernel
theorem dX2_frame_100 : decode cX2_frame 100 = .ok (.getfield 12, 3) := by decide +kernel
theorem dX2_frame_103 : decode cX2_frame 103 = .ok (.getfield 32, 3) := by decide +kernel
theorem dX2_frame_106 : decode cX2_frame 106 = .ok (.i2l, 1) := by decide +kernel
theorem dX2_frame_107 : decode cX2_frame 107 = .ok (.ldc2_w 54, 3) := by decide +kernel
theorem dX2_frame_110 : decode cX2_frame 110 = .ok (.aload_n 0, 1) := by decide +kernel
theorem dX2_frame_111 : decode cX2_frame 111 = .ok (.getfield 47, 3) := by decide +kernel
theorem dX2_frame_114 : decode cX2_frame 114 = .ok (.ladd, 1) := by decide +kernel
theorem dX2_frame_115 : decode cX2_frame 115 = .ok (.lcmp, 1) := by decide +kernel
theorem dX2_frame_116 : decode cX2_frame 116 = .ok (.ifCond .ge 7, 3) := by decide +kernel
theorem dX2_frame_119 : decode cX2_frame 119 = .ok (.iconst 0, 1) := by decide +kernel
theorem dX2_frame_120 : decode cX2_frame 120 = .ok (.goto 4, 3) := by decide +kernel
theorem dX2_frame_123 : decode cX2_frame 123 = .ok (.iconst 1, 1) := by decide +kernel
theorem dX2_frame_124 : decode cX2_frame 124 = .ok (.ireturn, 1) := by decide +kernel
set_option maxRecDepth 100000 in
set_option maxHeartbeats 4000000 in
theorem c_X2_frame (l : Launch) (D : va_G) (t : Nat → ClassId) (G : GE) (κ : CS) (h : Nat) (post : Int32 → CS → Prop) (hw : F_X2_frame G h post κ) (sz : Nat) : CMi l D t yX2_frame cX2_frame 1 (some .int) 1 40 G κ sz [.ref h] post := by
  refine c_go (by decide) (Nat.le_of_ble_eq_true rfl) ?_
  intro p e s m below meth c ls A hF hr hlk hin hAe hH hA hE hl
  unfold cB
  rw [hAe]
  clear hAe
  have hF : FX p m c cX2_frame 1 s _ RX2 D t := hF
  have hx := hF.1.1
  have hb := hF.1.2.1
  have hl : lv_has ls 1 [(0, .ref h)] := hl
  unfold F_X2_frame at hw
  refine lv_aload_n hx hb dX2_frame_0 rfl (lv_at hl 0 rfl) ?_
  refine cw_getPr (a := h) hF hH fk_X2_12 dX2_frame_1 hw (fun z1 hw => ?_)
  refine cw_getI (q := z1) hF hH fk_X2_32 dX2_frame_4 hw (fun z2 hw => ?_)
  refine lv_iconst (v := 4) hx hb dX2_frame_7 (by decide) ?_
  obtain ⟨K5, hK6, hw⟩ := jc_open hw
  refine cw_join (K := K5) 88 (fun (x3 : Unit) => [(0, .ref h)]) (fun (x3 : Unit) => []) hl hH (fun x3 κ4 ls H locs cells slots hl hw hH => ?_) (fun jn7 => ?_)
  · have hw := hK6 x3 κ4 hw
    have hl : lv_has ls 1 [(0, .ref h)] := hl
    refine lv_aload_n hx hb dX2_frame_88 rfl (lv_at hl 0 rfl) ?_
    refine cw_getPr (a := h) hF hH fk_X2_12 dX2_frame_89 hw (fun z8 hw => ?_)
    refine cw_getI (q := z8) hF hH fk_X2_32 dX2_frame_92 hw (fun z9 hw => ?_)
    refine lv_iconst (v := 4) hx hb dX2_frame_95 (by decide) ?_
    obtain ⟨K12, hK13, hw⟩ := jc_open hw
    refine cw_join (K := K12) 124 (fun (x10 : Int32) => []) (fun (x10 : Int32) => [.int x10]) hl hH (fun x10 κ11 ls H locs cells slots hl hw hH => ?_) (fun jn14 => ?_)
    · have hw := hK13 x10 κ11 hw
      have hl : lv_has ls 1 [] := hl
      exact cw_reti hF hH ⟨rfl, rfl⟩ hr rfl hlk dX2_frame_124 hw
    · skip
      obtain ⟨K17, hK18, hw⟩ := jc_open hw
      refine cw_join (K := K17) 119 (fun (x15 : Unit) => []) (fun (x15 : Unit) => []) hl hH (fun x15 κ16 ls H locs cells slots hl hw hH => ?_) (fun jn19 => ?_)
      · have hw := hK18 x15 κ16 hw
        have hl : lv_has ls 1 [] := hl
        refine lv_iconst (v := 0) hx hb dX2_frame_119 (by decide) ?_
        refine lv_goto (tgt := 124) hx hb dX2_frame_120 rfl ?_
        exact jn14 0 κ16 ls _ _ _ _ hl hw hH
      · skip
        refine w_icmp_lt (tgt := 119) hF dX2_frame_96 rfl hw (fun hw => ?_) (fun hw => ?_)
        · have hl : lv_has ls 1 [] := lv_sub hl [] rfl
          exact jn19 () κ4 ls _ _ _ _ hl hw hH
        · refine lv_aload_n hx hb dX2_frame_99 rfl (lv_at hl 0 rfl) ?_
          refine cw_getPr (a := h) hF hH fk_X2_12 dX2_frame_100 hw (fun z20 hw => ?_)
          refine cw_getI (q := z20) hF hH fk_X2_32 dX2_frame_103 hw (fun z21 hw => ?_)
          refine lv_i2l hx hb dX2_frame_106 rfl ?_
          refine w_nml hw (fun z22 hw => ?_)
          refine lv_ldc2 (v := 4) hx hb hF.1.2.2.2.1 (hF.1.2.2.2.2 _ (wc_20 22 rfl)) dX2_frame_107 ?_
          refine lv_aload_n hx hb dX2_frame_110 rfl (lv_at hl 0 rfl) ?_
          refine cw_getJr (a := h) hF hH fk_X2_47 dX2_frame_111 hw (fun z23 hw => ?_)
          refine lv_ladd hx hb dX2_frame_114 ?_
          refine w_nml hw (fun z24 hw => ?_)
          refine w_lif_ge (tgt := 123) hF dX2_frame_115 dX2_frame_116 rfl hw (fun hw => ?_) (fun hw => ?_)
          · refine lv_iconst (v := 1) hx hb dX2_frame_123 (by decide) ?_
            have hl : lv_has ls 1 [] := lv_sub hl [] rfl
            exact jn14 1 κ4 ls _ _ _ _ hl hw hH
          · have hl : lv_has ls 1 [] := lv_sub hl [] rfl
            exact jn19 () κ4 ls _ _ _ _ hl hw hH
  · skip
    refine w_icmp_ne (tgt := 88) hF dX2_frame_8 rfl hw (fun hw => ?_) (fun hw => ?_)
    · exact jn7 () κ ls _ _ _ _ hl hw hH
    · refine lv_aload_n hx hb dX2_frame_11 rfl (lv_at hl 0 rfl) ?_
      refine lv_aload_n hx hb dX2_frame_12 rfl (lv_at hl 0 rfl) ?_
      refine cw_getPr (a := h) hF hH fk_X2_12 dX2_frame_13 hw (fun z25 hw => ?_)
      refine lv_iconst (v := 1) hx hb dX2_frame_16 (by decide) ?_
      refine lv_iconst (v := 1) hx hb dX2_frame_17 (by decide) ?_
      refine cw_cVlq (q := z25) (As := [.int 1, .int 1]) (rest := [.ref h]) hF hH hA hE mv_X2_43 ci_X6 (by decide) hw (fun b hw sz => c_X6_number l D t G _ b 1 1 _ hw sz) dX2_frame_18 ⟨Nat.le_of_ble_eq_true rfl, Nat.le_of_ble_eq_true rfl⟩ rfl hl.1 (Nat.le_of_ble_eq_true rfl) rfl (fun z27 κ26 H locs cells slots hw hH => ?_)
      refine lv_bipush (v := 16) hx hb dX2_frame_21 (by decide) ?_
      refine lv_lshl hx hb dX2_frame_23 rfl ?_
      refine w_nml hw (fun z28 hw => ?_)
      refine lv_aload_n hx hb dX2_frame_24 rfl (lv_at hl 0 rfl) ?_
      refine cw_getPr (a := h) hF hH fk_X2_12 dX2_frame_25 hw (fun z29 hw => ?_)
      refine lv_iconst (v := 2) hx hb dX2_frame_28 (by decide) ?_
      refine lv_iconst (v := 1) hx hb dX2_frame_29 (by decide) ?_
      refine cw_cVlq (q := z29) (As := [.int 2, .int 1]) (rest := [.long z28, .ref h]) hF hH hA hE mv_X2_43 ci_X6 (by decide) hw (fun b hw sz => c_X6_number l D t G _ b 2 1 _ hw sz) dX2_frame_30 ⟨Nat.le_of_ble_eq_true rfl, Nat.le_of_ble_eq_true rfl⟩ rfl hl.1 (Nat.le_of_ble_eq_true rfl) rfl (fun z31 κ30 H locs cells slots hw hH => ?_)
      refine lv_bipush (v := 8) hx hb dX2_frame_33 (by decide) ?_
      refine lv_lshl hx hb dX2_frame_35 rfl ?_
      refine w_nml hw (fun z32 hw => ?_)
      refine lv_lor hx hb dX2_frame_36 ?_
      refine w_nml hw (fun z33 hw => ?_)
      refine lv_aload_n hx hb dX2_frame_37 rfl (lv_at hl 0 rfl) ?_
      refine cw_getPr (a := h) hF hH fk_X2_12 dX2_frame_38 hw (fun z34 hw => ?_)
      refine lv_iconst (v := 3) hx hb dX2_frame_41 (by decide) ?_
      refine lv_iconst (v := 1) hx hb dX2_frame_42 (by decide) ?_
      refine cw_cVlq (q := z34) (As := [.int 3, .int 1]) (rest := [.long z33, .ref h]) hF hH hA hE mv_X2_43 ci_X6 (by decide) hw (fun b hw sz => c_X6_number l D t G _ b 3 1 _ hw sz) dX2_frame_43 ⟨Nat.le_of_ble_eq_true rfl, Nat.le_of_ble_eq_true rfl⟩ rfl hl.1 (Nat.le_of_ble_eq_true rfl) rfl (fun z36 κ35 H locs cells slots hw hH => ?_)
      refine lv_lor hx hb dX2_frame_46 ?_
      refine w_nml hw (fun z37 hw => ?_)
      refine cw_putJr (a := h) (v := z37) hF hH fk_X2_47 dX2_frame_47 rfl rfl rfl hw (fun κ38 H locs cells slots hw hH => ?_)
      refine lv_aload_n hx hb dX2_frame_50 rfl (lv_at hl 0 rfl) ?_
      refine cw_getPr (a := h) hF hH fk_X2_12 dX2_frame_51 hw (fun z39 hw => ?_)
      refine lv_iconst (v := 0) hx hb dX2_frame_54 (by decide) ?_
      refine lv_iconst (v := 1) hx hb dX2_frame_55 (by decide) ?_
      refine cw_cVlq (q := z39) (As := [.int 0, .int 1]) (rest := []) hF hH hA hE mv_X2_43 ci_X6 (by decide) hw (fun b hw sz => c_X6_number l D t G _ b 0 1 _ hw sz) dX2_frame_56 ⟨Nat.le_of_ble_eq_true rfl, Nat.le_of_ble_eq_true rfl⟩ rfl hl.1 (Nat.le_of_ble_eq_true rfl) rfl (fun z41 κ40 H locs cells slots hw hH => ?_)
      refine lv_lconst (v := 0) hx hb dX2_frame_59 (by decide) ?_
      obtain ⟨K44, hK45, hw⟩ := jc_open hw
      refine cw_join (K := K44) 86 (fun (x42 : Unit) => []) (fun (x42 : Unit) => []) hl hH (fun x42 κ43 ls H locs cells slots hl hw hH => ?_) (fun jn46 => ?_)
      · have hw := hK45 x42 κ43 hw
        have hl : lv_has ls 1 [] := hl
        refine lv_iconst (v := 2) hx hb dX2_frame_86 (by decide) ?_
        exact cw_reti hF hH ⟨rfl, rfl⟩ hr rfl hlk dX2_frame_87 hw
      · skip
        refine w_lif_ne (tgt := 86) hF dX2_frame_60 dX2_frame_61 rfl hw (fun hw => ?_) (fun hw => ?_)
        · have hl : lv_has ls 1 [] := lv_sub hl [] rfl
          exact jn46 () κ40 ls _ _ _ _ hl hw hH
        · refine lv_aload_n hx hb dX2_frame_64 rfl (lv_at hl 0 rfl) ?_
          refine cw_getJr (a := h) hF hH fk_X2_47 dX2_frame_65 hw (fun z47 hw => ?_)
          refine lv_ldc2 (v := 64) hx hb hF.1.2.2.2.1 (hF.1.2.2.2.2 _ (wc_20 20 rfl)) dX2_frame_68 ?_
          refine w_lif_lt (tgt := 86) hF dX2_frame_71 dX2_frame_72 rfl hw (fun hw => ?_) (fun hw => ?_)
          · have hl : lv_has ls 1 [] := lv_sub hl [] rfl
            exact jn46 () κ40 ls _ _ _ _ hl hw hH
          · refine lv_aload_n hx hb dX2_frame_75 rfl (lv_at hl 0 rfl) ?_
            refine cw_getJr (a := h) hF hH fk_X2_47 dX2_frame_76 hw (fun z48 hw => ?_)
            refine lv_ldc2 (v := 4000) hx hb hF.1.2.2.2.1 (hF.1.2.2.2.2 _ (wc_20 21 rfl)) dX2_frame_79 ?_
            refine w_lif_le (tgt := 88) hF dX2_frame_82 dX2_frame_83 rfl hw (fun hw => ?_) (fun hw => ?_)
            · exact jn7 () κ40 ls _ _ _ _ hl hw hH
            · have hl : lv_has ls 1 [] := lv_sub hl [] rfl
              exact jn46 () κ40 ls _ _ _ _ hl hw hH
set_option maxRecDepth 100000 in
def F_X2_admits (G : GE) (h : Nat) (a1 : Int32) (a2 : Int64) (post : Int32 → CS → Prop) (κ : CS) : Prop := (h ∈ sL κ.1 ∧ sK κ.1 h = 3) ∧ ∀ z1 : Int32, z1 = sI κ.1 h 1 → jc (fun (K4 : Int32 → CS → Prop) => ((¬ a1.toInt = 0) → K4 0 κ) ∧ ((a1.toInt = 0) → K4 1 κ)) (fun (x2 : Int32) (κ3 : CS) => ((¬ z1.toInt = x2.toInt) → ((¬ a1.toInt = (12 : Int32).toInt) → lc (fun (K9 : Int32 → CS → Prop) (x7 : Int32) (κ8 : CS) => (h ∈ sL κ8.1 ∧ sK κ8.1 h = 3) ∧ ∀ z11 : Int32, z11 = sI κ8.1 h 6 → jc (fun (K14 : Unit → CS → Prop) => ((z11.toInt ≤ x7.toInt) → K14 () κ8) ∧ ((x7.toInt < z11.toInt) → (h ∈ sL κ8.1 ∧ sK κ8.1 h = 3) ∧ ∀ z17 : Option Nat, z17 = sP κ8.1 h 5 → ∃ n : Nat, AL G κ8 z17 n ∧ ∀ z18 : Int32, z18 = nI n → ((z18.toInt ≤ x7.toInt) → K14 () κ8) ∧ ((x7.toInt < z18.toInt) → (h ∈ sL κ8.1 ∧ sK κ8.1 h = 3) ∧ ∀ z19 : Option Nat, z19 = sP κ8.1 h 5 → ∃ b : Nat, z19 = some b ∧ (b ∈ sL κ8.1 ∧ sK κ8.1 b = 22) ∧ (0 ≤ x7.toInt ∧ x7.toInt < (sN κ8.1 b : Int)) ∧ ∀ z20 : Int64, z20 = sJ κ8.1 b x7.toInt.toNat → ((¬ z20.toInt = a2.toInt) → ∀ z21 : Int32, z21 = x7 + 1 → K9 z21 κ8) ∧ ((z20.toInt = a2.toInt) → (h ∈ sL κ8.1 ∧ sK κ8.1 h = 3) ∧ ∀ z22 : Int32, z22 = sI κ8.1 h 6 → ∀ z23 : Int32, z23 = z22 - 1 → (h ∈ sL κ8.1 ∧ sK κ8.1 h = 3) ∧ ∀ κ24 : CS, κ24 = (h_uI κ8.1 h 6 z23, κ8.2) → (h ∈ sL κ24.1 ∧ sK κ24.1 h = 3) ∧ ∀ z25 : Option Nat, z25 = sP κ24.1 h 5 → (h ∈ sL κ24.1 ∧ sK κ24.1 h = 3) ∧ ∀ z26 : Option Nat, z26 = sP κ24.1 h 5 → (h ∈ sL κ24.1 ∧ sK κ24.1 h = 3) ∧ ∀ z27 : Int32, z27 = sI κ24.1 h 6 → ∃ b : Nat, z26 = some b ∧ (b ∈ sL κ24.1 ∧ sK κ24.1 b = 22) ∧ (0 ≤ z27.toInt ∧ z27.toInt < (sN κ24.1 b : Int)) ∧ ∀ z28 : Int64, z28 = sJ κ24.1 b z27.toInt.toNat → ∃ b : Nat, z25 = some b ∧ (b ∈ sL κ24.1 ∧ sK κ24.1 b = 22) ∧ (0 ≤ x7.toInt ∧ x7.toInt < (sN κ24.1 b : Int)) ∧ ∀ κ29 : CS, κ29 = (h_uJ κ24.1 b x7.toInt.toNat z28, κ24.2) → (0 ≤ (1 : Int32).toInt ∧ (1 : Int32).toInt ≤ 1) ∧ post 1 κ29)))) (fun (x12 : Unit) (κ13 : CS) => (0 ≤ (0 : Int32).toInt ∧ (0 : Int32).toInt ≤ 1) ∧ post 0 κ13)) 0 κ3) ∧ ((a1.toInt = (12 : Int32).toInt) → (0 ≤ (1 : Int32).toInt ∧ (1 : Int32).toInt ≤ 1) ∧ post 1 κ3)) ∧ ((z1.toInt = x2.toInt) → (0 ≤ (0 : Int32).toInt ∧ (0 : Int32).toInt ≤ 1) ∧ post 0 κ3))
theorem dX2_admits_0 : decode cX2_admits 0 = .ok (.aload_n 0, 1) := by decide +kernel
theorem dX2_admits_1 : decode cX2_admits 1 = .ok (.getfield 29, 3) := by decide +kernel
theorem dX2_admits_4 : decode cX2_admits 4 = .ok (.iload_n 1, 1) := by decide +kernel
theorem dX2_admits_5 : decode cX2_admits 5 = .ok (.ifCond .ne 7, 3) := by decide +kernel
theorem dX2_admits_8 : decode cX2_admits 8 = .ok (.iconst 1, 1) := by decide +kernel
theorem dX2_admits_9 : decode cX2_admits 9 = .ok (.goto 4, 3) := by decide +kernel
theorem dX2_admits_12 : decode cX2_admits 12 = .ok (.iconst 0, 1) := by decide +kernel
theorem dX2_admits_13 : decode cX2_admits 13 = .ok (.if_icmp .ne 5, 3) := by decide +kernel
theorem dX2_admits_16 : decode cX2_admits 16 = .ok (.iconst 0, 1) := by decide +kernel
theorem dX2_admits_17 : decode cX2_admits 17 = .ok (.ireturn, 1) := by decide +kernel
theorem dX2_admits_18 : decode cX2_admits 18 = .ok (.iload_n 1, 1) := by decide +kernel
theorem dX2_admits_19 : decode cX2_admits 19 = .ok (.bipush 12, 2) := by decide +kernel
theorem dX2_admits_21 : decode cX2_admits 21 = .ok (.if_icmp .ne 5, 3) := by decide +kernel
theorem dX2_admits_24 : decode cX2_admits 24 = .ok (.iconst 1, 1) := by decide +kernel
theorem dX2_admits_25 : decode cX2_admits 25 = .ok (.ireturn, 1) := by decide +kernel
theorem dX2_admits_26 : decode cX2_admits 26 = .ok (.iconst 0, 1) := by decide +kernel
theorem dX2_admits_27 : decode cX2_admits 27 = .ok (.istore 4, 2) := by decide +kernel
theorem dX2_admits_29 : decode cX2_admits 29 = .ok (.iload 4, 2) := by decide +kernel
theorem dX2_admits_31 : decode cX2_admits 31 = .ok (.aload_n 0, 1) := by decide +kernel
theorem dX2_admits_32 : decode cX2_admits 32 = .ok (.getfield 36, 3) := by decide +kernel
theorem dX2_admits_35 : decode cX2_admits 35 = .ok (.if_icmp .ge 59, 3) := by decide +kernel
theorem dX2_admits_38 : decode cX2_admits 38 = .ok (.iload 4, 2) := by decide +kernel
theorem dX2_admits_40 : decode cX2_admits 40 = .ok (.aload_n 0, 1) := by decide +kernel
theorem dX2_admits_41 : decode cX2_admits 41 = .ok (.getfield 21, 3) := by decide +kernel
theorem dX2_admits_44 : decode cX2_admits 44 = .ok (.arraylength, 1) := by decide +kernel
theorem dX2_admits_45 : decode cX2_admits 45 = .ok (.if_icmp .ge 49, 3) := by decide +kernel
theorem dX2_admits_48 : decode cX2_admits 48 = .ok (.aload_n 0, 1) := by decide +kernel
theorem dX2_admits_49 : decode cX2_admits 49 = .ok (.getfield 21, 3) := by decide +kernel
theorem dX2_admits_52 : decode cX2_admits 52 = .ok (.iload 4, 2) := by decide +kernel
theorem dX2_admits_54 : decode cX2_admits 54 = .ok (.laload, 1) := by decide +kernel
theorem dX2_admits_55 : decode cX2_admits 55 = .ok (.lload_n 2, 1) := by decide +kernel
theorem dX2_admits_56 : decode cX2_admits 56 = .ok (.lcmp, 1) := by decide +kernel
theorem dX2_admits_57 : decode cX2_admits 57 = .ok (.ifCond .ne 31, 3) := by decide +kernel
theorem dX2_admits_60 : decode cX2_admits 60 = .ok (.aload_n 0, 1) := by decide +kernel
theorem dX2_admits_61 : decode cX2_admits 61 = .ok (.dup, 1) := by decide +kernel
theorem dX2_admits_62 : decode cX2_admits 62 = .ok (.getfield 36, 3) := by decide +kernel
theorem dX2_admits_65 : decode cX2_admits 65 = .ok (.iconst 1, 1) := by decide +kernel
theorem dX2_admits_66 : decode cX2_admits 66 = .ok (.isub, 1) := by decide +kernel
theorem dX2_admits_67 : decode cX2_admits 67 = .ok (.putfield 36, 3) := by decide +kernel
theorem dX2_admits_70 : decode cX2_admits 70 = .ok (.aload_n 0, 1) := by decide +kernel
theorem dX2_admits_71 : decode cX2_admits 71 = .ok (.getfield 21, 3) := by decide +kernel
theorem dX2_admits_74 : decode cX2_admits 74 = .ok (.iload 4, 2) := by decide +kernel
theorem dX2_admits_76 : decode cX2_admits 76 = .ok (.aload_n 0, 1) := by decide +kernel
theorem dX2_admits_77 : decode cX2_admits 77 = .ok (.getfield 21, 3) := by decide +kernel
theorem dX2_admits_80 : decode cX2_admits 80 = .ok (.aload_n 0, 1) := by decide +kernel
theorem dX2_admits_81 : decode cX2_admits 81 = .ok (.getfield 36, 3) := by decide +kernel
theorem dX2_admits_84 : decode cX2_admits 84 = .ok (.laload, 1) := by decide +kernel
theorem dX2_admits_85 : decode cX2_admits 85 = .ok (.lastore, 1) := by decide +kernel
theorem dX2_admits_86 : decode cX2_admits 86 = .ok (.iconst 1, 1) := by decide +kernel
theorem dX2_admits_87 : decode cX2_admits 87 = .ok (.ireturn, 1) := by decide +kernel
theorem dX2_admits_88 : decode cX2_admits 88 = .ok (.iinc 4 1, 3) := by decide +kernel
theorem dX2_admits_91 : decode cX2_admits 91 = .ok (.goto (-62), 3) := by decide +kernel
theorem dX2_admits_94 : decode cX2_admits 94 = .ok (.iconst 0, 1) := by decide +kernel
theorem dX2_admits_95 : decode cX2_admits 95 = .ok (.ireturn, 1) := by decide +kernel
set_option maxRecDepth 100000 in
set_option maxHeartbeats 4000000 in
theorem c_X2_admits (l : Launch) (D : va_G) (t : Nat → ClassId) (G : GE) (κ : CS) (h : Nat) (a1 : Int32) (a2 : Int64) (post : Int32 → CS → Prop) (hw : F_X2_admits G h a1 a2 post κ) (sz : Nat) : CMi l D t yX2_admits cX2_admits 5 (some .boolean) 0 14 G κ sz [.ref h, .int a1, .long a2] post := by
  refine c_go (by decide) (Nat.le_of_ble_eq_true rfl) ?_
  intro p e s m below meth c ls A hF hr hlk hin hAe hH hA hE hl
  unfold cB
  rw [hAe]
  clear hAe
  have hF : FX p m c cX2_admits 5 s _ RX2 D t := hF
  have hx := hF.1.1
  have hb := hF.1.2.1
  have hl : lv_has ls 5 [(0, .ref h), (1, .int a1), (2, .long a2)] := hl
  unfold F_X2_admits at hw
  refine lv_aload_n hx hb dX2_admits_0 rfl (lv_at hl 0 rfl) ?_
  refine cw_getIr (a := h) hF hH fk_X2_29 dX2_admits_1 hw (fun z1 hw => ?_)
  refine lv_iload_n hx hb dX2_admits_4 rfl (lv_at hl 1 rfl) ?_
  obtain ⟨K4, hK5, hw⟩ := jc_open hw
  refine cw_join (K := K4) 13 (fun (x2 : Int32) => [(2, .long a2), (1, .int a1), (0, .ref h)]) (fun (x2 : Int32) => [.int x2, .int z1]) hl hH (fun x2 κ3 ls H locs cells slots hl hw hH => ?_) (fun jn6 => ?_)
  · have hw := hK5 x2 κ3 hw
    have hl : lv_has ls 5 [(2, .long a2), (1, .int a1), (0, .ref h)] := hl
    refine w_icmp_ne (tgt := 18) hF dX2_admits_13 rfl hw (fun hw => ?_) (fun hw => ?_)
    · refine lv_iload_n hx hb dX2_admits_18 rfl (lv_at hl 1 rfl) ?_
      refine lv_bipush (v := 12) hx hb dX2_admits_19 (by decide) ?_
      refine w_icmp_ne (tgt := 26) hF dX2_admits_21 rfl hw (fun hw => ?_) (fun hw => ?_)
      · refine lv_iconst (v := 0) hx hb dX2_admits_26 (by decide) ?_
        refine lv_istore (lv' := [(4, .int 0), (2, .long a2), (1, .int a1), (0, .ref h)]) hx hb dX2_admits_27 hl (by decide) rfl (fun ls hl => ?_)
        have hl : lv_has ls 5 [(4, .int 0), (2, .long a2), (0, .ref h)] := lv_sub hl [0, 1, 3] rfl
        refine cw_loop (β := Int32) (fun x7 => [(4, .int x7), (2, .long a2), (0, .ref h)]) 0 hl hw hH (fun K9 x7 κ8 ls H locs cells slots hl hw hH ih10 => ?_)
        have hl : lv_has ls 5 [(4, .int x7), (2, .long a2), (0, .ref h)] := hl
        refine lv_iload hx hb dX2_admits_29 (lv_at hl 0 rfl) ?_
        refine lv_aload_n hx hb dX2_admits_31 rfl (lv_at hl 2 rfl) ?_
        refine cw_getIr (a := h) hF hH fk_X2_36 dX2_admits_32 hw (fun z11 hw => ?_)
        obtain ⟨K14, hK15, hw⟩ := jc_open hw
        refine cw_join (K := K14) 94 (fun (x12 : Unit) => []) (fun (x12 : Unit) => []) hl hH (fun x12 κ13 ls H locs cells slots hl hw hH => ?_) (fun jn16 => ?_)
        · have hw := hK15 x12 κ13 hw
          have hl : lv_has ls 5 [] := hl
          refine lv_iconst (v := 0) hx hb dX2_admits_94 (by decide) ?_
          exact cw_retz hF hH ⟨rfl, rfl⟩ hr hlk dX2_admits_95 hw
        · skip
          refine w_icmp_ge (tgt := 94) hF dX2_admits_35 rfl hw (fun hw => ?_) (fun hw => ?_)
          · have hl : lv_has ls 5 [] := lv_sub hl [] rfl
            exact jn16 () κ8 ls _ _ _ _ hl hw hH
          · refine lv_iload hx hb dX2_admits_38 (lv_at hl 0 rfl) ?_
            refine lv_aload_n hx hb dX2_admits_40 rfl (lv_at hl 2 rfl) ?_
            refine cw_getPr (a := h) hF hH fk_X2_21 dX2_admits_41 hw (fun z17 hw => ?_)
            refine cw_alen (q := z17) hF hH hE dX2_admits_44 hw (fun z18 hw => ?_)
            refine w_icmp_ge (tgt := 94) hF dX2_admits_45 rfl hw (fun hw => ?_) (fun hw => ?_)
            · have hl : lv_has ls 5 [] := lv_sub hl [] rfl
              exact jn16 () κ8 ls _ _ _ _ hl hw hH
            · refine lv_aload_n hx hb dX2_admits_48 rfl (lv_at hl 2 rfl) ?_
              refine cw_getPr (a := h) hF hH fk_X2_21 dX2_admits_49 hw (fun z19 hw => ?_)
              refine lv_iload hx hb dX2_admits_52 (lv_at hl 0 rfl) ?_
              refine cw_lald (q := z19) hF hH dX2_admits_54 hw (fun z20 hw => ?_)
              refine lv_lload_n hx hb dX2_admits_55 rfl (lv_at hl 1 rfl) ?_
              refine w_lif_ne (tgt := 88) hF dX2_admits_56 dX2_admits_57 rfl hw (fun hw => ?_) (fun hw => ?_)
              · obtain ⟨z21, ez21⟩ : ∃ z : Int32, z = x7 + 1 := ⟨_, rfl⟩
                have hw := hw z21 ez21
                refine lv_iinc (lv' := [(4, .int z21), (2, .long a2), (0, .ref h)]) (k := 0) (v := z21) hx hb dX2_admits_88 hl rfl ez21.symm (by decide) rfl (fun ls hl => ?_)
                refine lv_goto (tgt := 29) hx hb dX2_admits_91 rfl ?_
                exact ih10 z21 κ8 ls _ _ _ _ hl hw hH
              · refine lv_aload_n hx hb dX2_admits_60 rfl (lv_at hl 2 rfl) ?_
                refine lv_dup hx hb dX2_admits_61 rfl ?_
                refine cw_getIr (a := h) hF hH fk_X2_36 dX2_admits_62 hw (fun z22 hw => ?_)
                refine lv_iconst (v := 1) hx hb dX2_admits_65 (by decide) ?_
                refine lv_isub hx hb dX2_admits_66 ?_
                refine w_nmi hw (fun z23 hw => ?_)
                refine cw_putIr (a := h) (v := z23) hF hH fk_X2_36 dX2_admits_67 rfl rfl rfl hw (fun κ24 H locs cells slots hw hH => ?_)
                refine lv_aload_n hx hb dX2_admits_70 rfl (lv_at hl 2 rfl) ?_
                refine cw_getPr (a := h) hF hH fk_X2_21 dX2_admits_71 hw (fun z25 hw => ?_)
                refine lv_iload hx hb dX2_admits_74 (lv_at hl 0 rfl) ?_
                refine lv_aload_n hx hb dX2_admits_76 rfl (lv_at hl 2 rfl) ?_
                refine cw_getPr (a := h) hF hH fk_X2_21 dX2_admits_77 hw (fun z26 hw => ?_)
                refine lv_aload_n hx hb dX2_admits_80 rfl (lv_at hl 2 rfl) ?_
                refine cw_getIr (a := h) hF hH fk_X2_36 dX2_admits_81 hw (fun z27 hw => ?_)
                refine cw_lald (q := z26) hF hH dX2_admits_84 hw (fun z28 hw => ?_)
                refine cw_last (q := z25) hF hH dX2_admits_85 hw (fun κ29 H locs cells slots hw hH => ?_)
                refine lv_iconst (v := 1) hx hb dX2_admits_86 (by decide) ?_
                exact cw_retz hF hH ⟨rfl, rfl⟩ hr hlk dX2_admits_87 hw
      · refine lv_iconst (v := 1) hx hb dX2_admits_24 (by decide) ?_
        exact cw_retz hF hH ⟨rfl, rfl⟩ hr hlk dX2_admits_25 hw
    · refine lv_iconst (v := 0) hx hb dX2_admits_16 (by decide) ?_
      exact cw_retz hF hH ⟨rfl, rfl⟩ hr hlk dX2_admits_17 hw
  · skip
    refine w_if_ne (tgt := 12) hF dX2_admits_5 rfl hw (fun hw => ?_) (fun hw => ?_)
    · refine lv_iconst (v := 0) hx hb dX2_admits_12 (by decide) ?_
      have hl : lv_has ls 5 [(2, .long a2), (1, .int a1), (0, .ref h)] := lv_sub hl [2, 1, 0] rfl
      exact jn6 0 κ ls _ _ _ _ hl hw hH
    · refine lv_iconst (v := 1) hx hb dX2_admits_8 (by decide) ?_
      refine lv_goto (tgt := 13) hx hb dX2_admits_9 rfl ?_
      have hl : lv_has ls 5 [(2, .long a2), (1, .int a1), (0, .ref h)] := lv_sub hl [2, 1, 0] rfl
      exact jn6 1 κ ls _ _ _ _ hl hw hH
set_option maxRecDepth 100000 in
def F_X2_grant (G : GE) (h : Nat) (a1 : Int32) (post : Int32 → CS → Prop) (κ : CS) : Prop := ∀ z2 : Int32, z2.toInt = max ((1 : Int32).toInt) a1.toInt → (h ∈ sL κ.1 ∧ sK κ.1 h = 3) ∧ ∀ z3 : Option Nat, z3 = sP κ.1 h 5 → ∃ n : Nat, AL G κ z3 n ∧ ∀ z4 : Int32, z4 = nI n → (h ∈ sL κ.1 ∧ sK κ.1 h = 3) ∧ ∀ z5 : Int32, z5 = sI κ.1 h 6 → ∀ z6 : Int32, z6 = z4 - z5 → ∀ z8 : Int32, z8.toInt = min z2.toInt z6.toInt → ∀ z10 : Int32, z10.toInt = max ((0 : Int32).toInt) z8.toInt → lc (fun (K13 : Int32 → CS → Prop) (x11 : Int32) (κ12 : CS) => ((z10.toInt ≤ x11.toInt) → post z10 κ12) ∧ ((x11.toInt < z10.toInt) → (h ∈ sL κ12.1 ∧ sK κ12.1 h = 3) ∧ ∀ z15 : Int64, z15 = sJ κ12.1 h 7 → ∀ z16 : Int64, z16 = z15 + 1 → (h ∈ sL κ12.1 ∧ sK κ12.1 h = 3) ∧ ∀ κ17 : CS, κ17 = (h_uJ κ12.1 h 7 z16, κ12.2) → (h ∈ sL κ17.1 ∧ sK κ17.1 h = 3) ∧ ∀ z18 : Option Nat, z18 = sP κ17.1 h 5 → (h ∈ sL κ17.1 ∧ sK κ17.1 h = 3) ∧ ∀ z19 : Int32, z19 = sI κ17.1 h 6 → (h ∈ sL κ17.1 ∧ sK κ17.1 h = 3) ∧ ∀ z20 : Int64, z20 = sJ κ17.1 h 7 → ∃ b : Nat, z18 = some b ∧ (b ∈ sL κ17.1 ∧ sK κ17.1 b = 22) ∧ (0 ≤ z19.toInt ∧ z19.toInt < (sN κ17.1 b : Int)) ∧ ∀ κ21 : CS, κ21 = (h_uJ κ17.1 b z19.toInt.toNat z20, κ17.2) → (h ∈ sL κ21.1 ∧ sK κ21.1 h = 3) ∧ ∀ z22 : Int32, z22 = sI κ21.1 h 6 → ∀ z23 : Int32, z23 = z22 + 1 → (h ∈ sL κ21.1 ∧ sK κ21.1 h = 3) ∧ ∀ κ24 : CS, κ24 = (h_uI κ21.1 h 6 z23, κ21.2) → ∀ z25 : Int32, z25 = x11 + 1 → K13 z25 κ24)) 0 κ
theorem dX2_grant_0 : decode cX2_grant 0 = .ok (.iconst 0, 1) := by decide +kernel
theorem dX2_grant_1 : decode cX2_grant 1 = .ok (.iconst 1, 1) := by decide +kernel
theorem dX2_grant_2 : decode cX2_grant 2 = .ok (.iload_n 1, 1) := by decide +kernel
theorem dX2_grant_3 : decode cX2_grant 3 = .ok (.invokestatic 56, 3) := by decide +kernel
theorem dX2_grant_6 : decode cX2_grant 6 = .ok (.aload_n 0, 1) := by decide +kernel
theorem dX2_grant_7 : decode cX2_grant 7 = .ok (.getfield 21, 3) := by decide +kernel
theorem dX2_grant_10 : decode cX2_grant 10 = .ok (.arraylength, 1) := by decide +kernel
theorem dX2_grant_11 : decode cX2_grant 11 = .ok (.aload_n 0, 1) := by decide +kernel
theorem dX2_grant_12 : decode cX2_grant 12 = .ok (.getfield 36, 3) := by decide +kernel
theorem dX2_grant_15 : decode cX2_grant 15 = .ok (.isub, 1) := by decide +kernel
theorem dX2_grant_16 : decode cX2_grant 16 = .ok (.invokestatic 62, 3) := by decide +kernel
theorem dX2_grant_19 : decode cX2_grant 19 = .ok (.invokestatic 56, 3) := by decide +kernel
theorem dX2_grant_22 : decode cX2_grant 22 = .ok (.istore_n 2, 1) := by decide +kernel
theorem dX2_grant_23 : decode cX2_grant 23 = .ok (.iconst 0, 1) := by decide +kernel
theorem dX2_grant_24 : decode cX2_grant 24 = .ok (.istore_n 3, 1) := by decide +kernel
theorem dX2_grant_25 : decode cX2_grant 25 = .ok (.iload_n 3, 1) := by decide +kernel
theorem dX2_grant_26 : decode cX2_grant 26 = .ok (.iload_n 2, 1) := by decide +kernel
theorem dX2_grant_27 : decode cX2_grant 27 = .ok (.if_icmp .ge 42, 3) := by decide +kernel
theorem dX2_grant_30 : decode cX2_grant 30 = .ok (.aload_n 0, 1) := by decide +kernel
theorem dX2_grant_31 : decode cX2_grant 31 = .ok (.dup, 1) := by decide +kernel
theorem dX2_grant_32 : decode cX2_grant 32 = .ok (.getfield 39, 3) := by decide +kernel
theorem dX2_grant_35 : decode cX2_grant 35 = .ok (.lconst 1, 1) := by decide +kernel
theorem dX2_grant_36 : decode cX2_grant 36 = .ok (.ladd, 1) := by decide +kernel
theorem dX2_grant_37 : decode cX2_grant 37 = .ok (.putfield 39, 3) := by decide +kernel
theorem dX2_grant_40 : decode cX2_grant 40 = .ok (.aload_n 0, 1) := by decide +kernel
theorem dX2_grant_41 : decode cX2_grant 41 = .ok (.getfield 21, 3) := by decide +kernel
theorem dX2_grant_44 : decode cX2_grant 44 = .ok (.aload_n 0, 1) := by decide +kernel
theorem dX2_grant_45 : decode cX2_grant 45 = .ok (.getfield 36, 3) := by decide +kernel
theorem dX2_grant_48 : decode cX2_grant 48 = .ok (.aload_n 0, 1) := by decide +kernel
theorem dX2_grant_49 : decode cX2_grant 49 = .ok (.getfield 39, 3) := by decide +kernel
theorem dX2_grant_52 : decode cX2_grant 52 = .ok (.lastore, 1) := by decide +kernel
theorem dX2_grant_53 : decode cX2_grant 53 = .ok (.aload_n 0, 1) := by decide +kernel
theorem dX2_grant_54 : decode cX2_grant 54 = .ok (.dup, 1) := by decide +kernel
theorem dX2_grant_55 : decode cX2_grant 55 = .ok (.getfield 36, 3) := by decide +kernel
theorem dX2_grant_58 : decode cX2_grant 58 = .ok (.iconst 1, 1) := by decide +kernel
theorem dX2_grant_59 : decode cX2_grant 59 = .ok (.iadd, 1) := by decide +kernel
theorem dX2_grant_60 : decode cX2_grant 60 = .ok (.putfield 36, 3) := by decide +kernel
theorem dX2_grant_63 : decode cX2_grant 63 = .ok (.iinc 3 1, 3) := by decide +kernel
theorem dX2_grant_66 : decode cX2_grant 66 = .ok (.goto (-41), 3) := by decide +kernel
theorem dX2_grant_69 : decode cX2_grant 69 = .ok (.iload_n 2, 1) := by decide +kernel
theorem dX2_grant_70 : decode cX2_grant 70 = .ok (.ireturn, 1) := by decide +kernel
set_option maxRecDepth 100000 in
set_option maxHeartbeats 4000000 in
theorem c_X2_grant (l : Launch) (D : va_G) (t : Nat → ClassId) (G : GE) (κ : CS) (h : Nat) (a1 : Int32) (post : Int32 → CS → Prop) (hw : F_X2_grant G h a1 post κ) (sz : Nat) : CMi l D t yX2_grant cX2_grant 4 (some .int) 1 40 G κ sz [.ref h, .int a1] post := by
  refine c_go (by decide) (Nat.le_of_ble_eq_true rfl) ?_
  intro p e s m below meth c ls A hF hr hlk hin hAe hH hA hE hl
  unfold cB
  rw [hAe]
  clear hAe
  have hF : FX p m c cX2_grant 4 s _ RX2 D t := hF
  have hx := hF.1.1
  have hb := hF.1.2.1
  have hl : lv_has ls 4 [(0, .ref h), (1, .int a1)] := hl
  unfold F_X2_grant at hw
  refine lv_iconst (v := 0) hx hb dX2_grant_0 (by decide) ?_
  refine lv_iconst (v := 1) hx hb dX2_grant_1 (by decide) ?_
  refine lv_iload_n hx hb dX2_grant_2 rfl (lv_at hl 1 rfl) ?_
  refine cw_mmax hF hH hl.1 (wc_36 0 rfl) (wc_10 1 rfl) (wc_5 5 rfl) (wc_10 0 rfl) (Nat.le_of_ble_eq_true rfl) (Nat.le_of_ble_eq_true rfl) dX2_grant_3 hw (fun z2 hw => ?_)
  refine lv_aload_n hx hb dX2_grant_6 rfl (lv_at hl 0 rfl) ?_
  refine cw_getPr (a := h) hF hH fk_X2_21 dX2_grant_7 hw (fun z3 hw => ?_)
  refine cw_alen (q := z3) hF hH hE dX2_grant_10 hw (fun z4 hw => ?_)
  refine lv_aload_n hx hb dX2_grant_11 rfl (lv_at hl 0 rfl) ?_
  refine cw_getIr (a := h) hF hH fk_X2_36 dX2_grant_12 hw (fun z5 hw => ?_)
  refine lv_isub hx hb dX2_grant_15 ?_
  refine w_nmi hw (fun z6 hw => ?_)
  refine cw_mmin hF hH hl.1 (wc_36 1 rfl) (wc_10 25 rfl) (wc_5 5 rfl) (wc_10 24 rfl) (Nat.le_of_ble_eq_true rfl) (Nat.le_of_ble_eq_true rfl) dX2_grant_16 hw (fun z8 hw => ?_)
  refine cw_mmax hF hH hl.1 (wc_36 0 rfl) (wc_10 1 rfl) (wc_5 5 rfl) (wc_10 0 rfl) (Nat.le_of_ble_eq_true rfl) (Nat.le_of_ble_eq_true rfl) dX2_grant_19 hw (fun z10 hw => ?_)
  refine lv_istore_n (lv' := [(2, .int z10), (0, .ref h), (1, .int a1)]) hx hb dX2_grant_22 rfl hl (by decide) rfl (fun ls hl => ?_)
  refine lv_iconst (v := 0) hx hb dX2_grant_23 (by decide) ?_
  refine lv_istore_n (lv' := [(3, .int 0), (2, .int z10), (0, .ref h), (1, .int a1)]) hx hb dX2_grant_24 rfl hl (by decide) rfl (fun ls hl => ?_)
  have hl : lv_has ls 4 [(3, .int 0), (2, .int z10), (0, .ref h)] := lv_sub hl [0, 1, 2] rfl
  refine cw_loop (β := Int32) (fun x11 => [(3, .int x11), (2, .int z10), (0, .ref h)]) 0 hl hw hH (fun K13 x11 κ12 ls H locs cells slots hl hw hH ih14 => ?_)
  have hl : lv_has ls 4 [(3, .int x11), (2, .int z10), (0, .ref h)] := hl
  refine lv_iload_n hx hb dX2_grant_25 rfl (lv_at hl 0 rfl) ?_
  refine lv_iload_n hx hb dX2_grant_26 rfl (lv_at hl 1 rfl) ?_
  refine w_icmp_ge (tgt := 69) hF dX2_grant_27 rfl hw (fun hw => ?_) (fun hw => ?_)
  · refine lv_iload_n hx hb dX2_grant_69 rfl (lv_at hl 1 rfl) ?_
    exact cw_reti hF hH ⟨rfl, rfl⟩ hr rfl hlk dX2_grant_70 hw
  · refine lv_aload_n hx hb dX2_grant_30 rfl (lv_at hl 2 rfl) ?_
    refine lv_dup hx hb dX2_grant_31 rfl ?_
    refine cw_getJr (a := h) hF hH fk_X2_39 dX2_grant_32 hw (fun z15 hw => ?_)
    refine lv_lconst (v := 1) hx hb dX2_grant_35 (by decide) ?_
    refine lv_ladd hx hb dX2_grant_36 ?_
    refine w_nml hw (fun z16 hw => ?_)
    refine cw_putJr (a := h) (v := z16) hF hH fk_X2_39 dX2_grant_37 rfl rfl rfl hw (fun κ17 H locs cells slots hw hH => ?_)
    refine lv_aload_n hx hb dX2_grant_40 rfl (lv_at hl 2 rfl) ?_
    refine cw_getPr (a := h) hF hH fk_X2_21 dX2_grant_41 hw (fun z18 hw => ?_)
    refine lv_aload_n hx hb dX2_grant_44 rfl (lv_at hl 2 rfl) ?_
    refine cw_getIr (a := h) hF hH fk_X2_36 dX2_grant_45 hw (fun z19 hw => ?_)
    refine lv_aload_n hx hb dX2_grant_48 rfl (lv_at hl 2 rfl) ?_
    refine cw_getJr (a := h) hF hH fk_X2_39 dX2_grant_49 hw (fun z20 hw => ?_)
    refine cw_last (q := z18) hF hH dX2_grant_52 hw (fun κ21 H locs cells slots hw hH => ?_)
    refine lv_aload_n hx hb dX2_grant_53 rfl (lv_at hl 2 rfl) ?_
    refine lv_dup hx hb dX2_grant_54 rfl ?_
    refine cw_getIr (a := h) hF hH fk_X2_36 dX2_grant_55 hw (fun z22 hw => ?_)
    refine lv_iconst (v := 1) hx hb dX2_grant_58 (by decide) ?_
    refine lv_iadd hx hb dX2_grant_59 ?_
    refine w_nmi hw (fun z23 hw => ?_)
    refine cw_putIr (a := h) (v := z23) hF hH fk_X2_36 dX2_grant_60 rfl rfl rfl hw (fun κ24 H locs cells slots hw hH => ?_)
    obtain ⟨z25, ez25⟩ : ∃ z : Int32, z = x11 + 1 := ⟨_, rfl⟩
    have hw := hw z25 ez25
    refine lv_iinc (lv' := [(3, .int z25), (2, .int z10), (0, .ref h)]) (k := 0) (v := z25) hx hb dX2_grant_63 hl rfl ez25.symm (by decide) rfl (fun ls hl => ?_)
    refine lv_goto (tgt := 25) hx hb dX2_grant_66 rfl ?_
    exact ih14 z25 κ24 ls _ _ _ _ hl hw hH
set_option maxRecDepth 100000 in
def F_X2_tellFile (G : GE) (h : Nat) (a1 : Int64) (a3 : Int64) (post : CS → Prop) (κ : CS) : Prop := (0 ≤ (1 : Int32).toInt ∧ (1 : Int32).toInt ≤ 1) ∧ (h ∈ sL κ.1 ∧ sK κ.1 h = 3) ∧ ∀ κ1 : CS, κ1 = (h_uI κ.1 h 12 1, κ.2) → (h ∈ sL κ1.1 ∧ sK κ1.1 h = 3) ∧ ∀ κ2 : CS, κ2 = (h_uJ κ1.1 h 13 a1, κ1.2) → (h ∈ sL κ2.1 ∧ sK κ2.1 h = 3) ∧ ∀ κ3 : CS, κ3 = (h_uJ κ2.1 h 14 a3, κ2.2) → post κ3
theorem dX2_tellFile_0 : decode cX2_tellFile 0 = .ok (.aload_n 0, 1) := by decide +kernel
theorem dX2_tellFile_1 : decode cX2_tellFile 1 = .ok (.iconst 1, 1) := by decide +kernel
theorem dX2_tellFile_2 : decode cX2_tellFile 2 = .ok (.putfield 65, 3) := by decide +kernel
theorem dX2_tellFile_5 : decode cX2_tellFile 5 = .ok (.aload_n 0, 1) := by decide +kernel
theorem dX2_tellFile_6 : decode cX2_tellFile 6 = .ok (.lload_n 1, 1) := by decide +kernel
theorem dX2_tellFile_7 : decode cX2_tellFile 7 = .ok (.putfield 68, 3) := by decide +kernel
theorem dX2_tellFile_10 : decode cX2_tellFile 10 = .ok (.aload_n 0, 1) := by decide +kernel
theorem dX2_tellFile_11 : decode cX2_tellFile 11 = .ok (.lload_n 3, 1) := by decide +kernel
theorem dX2_tellFile_12 : decode cX2_tellFile 12 = .ok (.putfield 71, 3) := by decide +kernel
theorem dX2_tellFile_15 : decode cX2_tellFile 15 = .ok (.return_, 1) := by decide +kernel
set_option maxRecDepth 100000 in
set_option maxHeartbeats 4000000 in
theorem c_X2_tellFile (l : Launch) (D : va_G) (t : Nat → ClassId) (G : GE) (κ : CS) (h : Nat) (a1 : Int64) (a3 : Int64) (post : CS → Prop) (hw : F_X2_tellFile G h a1 a3 post κ) (sz : Nat) : CMv l D t yX2_tellFile cX2_tellFile 5 0 14 G κ sz [.ref h, .long a1, .long a3] post := by
  refine c_go (by decide) (Nat.le_of_ble_eq_true rfl) ?_
  intro p e s m below meth c ls A hF hr hlk hin hAe hH hA hE hl
  unfold cB
  rw [hAe]
  clear hAe
  have hF : FX p m c cX2_tellFile 5 s _ RX2 D t := hF
  have hx := hF.1.1
  have hb := hF.1.2.1
  have hl : lv_has ls 5 [(0, .ref h), (1, .long a1), (3, .long a3)] := hl
  unfold F_X2_tellFile at hw
  refine lv_aload_n hx hb dX2_tellFile_0 rfl (lv_at hl 0 rfl) ?_
  refine lv_iconst (v := 1) hx hb dX2_tellFile_1 (by decide) ?_
  refine cw_putZr (a := h) (v := 1) hF hH fk_X2_65 dX2_tellFile_2 rfl rfl hw (fun κ1 H locs cells slots hw hH => ?_)
  refine lv_aload_n hx hb dX2_tellFile_5 rfl (lv_at hl 0 rfl) ?_
  refine lv_lload_n hx hb dX2_tellFile_6 rfl (lv_at hl 1 rfl) ?_
  refine cw_putJr (a := h) (v := a1) hF hH fk_X2_68 dX2_tellFile_7 rfl rfl rfl hw (fun κ2 H locs cells slots hw hH => ?_)
  refine lv_aload_n hx hb dX2_tellFile_10 rfl (lv_at hl 0 rfl) ?_
  refine lv_lload_n hx hb dX2_tellFile_11 rfl (lv_at hl 2 rfl) ?_
  refine cw_putJr (a := h) (v := a3) hF hH fk_X2_71 dX2_tellFile_12 rfl rfl rfl hw (fun κ3 H locs cells slots hw hH => ?_)
  exact cw_retv hF hH ⟨rfl, rfl⟩ hr hlk dX2_tellFile_15 hw
set_option maxRecDepth 100000 in
def F_J7_copyOf_9075b (G : GE) (a0 : Option Nat) (a1 : Int32) (post : Option Nat → CS → Prop) (κ : CS) : Prop := ∃ n : Nat, AL G κ a0 n ∧ ∀ z1 : Int32, z1 = nI n → ((¬ a1.toInt = z1.toInt) → (0 ≤ a1.toInt ∧ a1.toInt ≤ 1000000) ∧ (a1.toInt.toNat + 12 ≤ κ.2) ∧ ∀ o2 : Nat, o2 ∉ sL κ.1 → ∀ κ3 : CS, κ3 = (h_uN κ.1 o2 20 a1.toInt.toNat, κ.2 - (a1.toInt.toNat + 12)) → ∃ n : Nat, AL G κ3 a0 n ∧ ∀ z4 : Int32, z4 = nI n → ∀ z6 : Int32, z6.toInt = min z4.toInt a1.toInt → ∃ u0 : Nat, a0 = some u0 ∧ ∃ u1 : Nat, (some o2) = some u1 ∧ (u0 ∈ sL κ3.1 ∧ sK κ3.1 u0 = 20) ∧ (u1 ∈ sL κ3.1 ∧ sK κ3.1 u1 = 20) ∧ (0 ≤ (0 : Int32).toInt ∧ 0 ≤ (0 : Int32).toInt ∧ 0 ≤ z6.toInt ∧ (0 : Int32).toInt + z6.toInt ≤ (sN κ3.1 u0 : Int) ∧ (0 : Int32).toInt + z6.toInt ≤ (sN κ3.1 u1 : Int)) ∧ (∀ j : Nat, j < z6.toInt.toNat → -128 ≤ (sI κ3.1 u0 ((0 : Int32).toInt.toNat + j)).toInt ∧ (sI κ3.1 u0 ((0 : Int32).toInt.toNat + j)).toInt ≤ 127) ∧ ∀ κ7 : CS, κ7 = (h_cpI κ3.1 u0 u1 (0 : Int32).toInt.toNat (0 : Int32).toInt.toNat z6.toInt.toNat, κ3.2) → post (some o2) κ7) ∧ ((a1.toInt = z1.toInt) → False)
theorem dJ7_copyOf_9075b_0 : decode cJ7_copyOf_9075b 0 = .ok (.iload_n 1, 1) := by decide +kernel
theorem dJ7_copyOf_9075b_1 : decode cJ7_copyOf_9075b 1 = .ok (.aload_n 0, 1) := by decide +kernel
theorem dJ7_copyOf_9075b_2 : decode cJ7_copyOf_9075b 2 = .ok (.arraylength, 1) := by decide +kernel
theorem dJ7_copyOf_9075b_3 : decode cJ7_copyOf_9075b 3 = .ok (.if_icmp .ne 11, 3) := by decide +kernel
theorem dJ7_copyOf_9075b_6 : decode cJ7_copyOf_9075b 6 = .ok (.aload_n 0, 1) := by decide +kernel
theorem dJ7_copyOf_9075b_7 : decode cJ7_copyOf_9075b 7 = .ok (.invokevirtual 310, 3) := by decide +kernel
theorem dJ7_copyOf_9075b_10 : decode cJ7_copyOf_9075b 10 = .ok (.checkcast 311, 3) := by decide +kernel
theorem dJ7_copyOf_9075b_13 : decode cJ7_copyOf_9075b 13 = .ok (.areturn, 1) := by decide +kernel
theorem dJ7_copyOf_9075b_14 : decode cJ7_copyOf_9075b 14 = .ok (.iload_n 1, 1) := by decide +kernel
theorem dJ7_copyOf_9075b_15 : decode cJ7_copyOf_9075b 15 = .ok (.newarray .byte, 2) := by decide +kernel
theorem dJ7_copyOf_9075b_17 : decode cJ7_copyOf_9075b 17 = .ok (.astore_n 2, 1) := by decide +kernel
theorem dJ7_copyOf_9075b_18 : decode cJ7_copyOf_9075b 18 = .ok (.aload_n 0, 1) := by decide +kernel
theorem dJ7_copyOf_9075b_19 : decode cJ7_copyOf_9075b 19 = .ok (.iconst 0, 1) := by decide +kernel
theorem dJ7_copyOf_9075b_20 : decode cJ7_copyOf_9075b 20 = .ok (.aload_n 2, 1) := by decide +kernel
theorem dJ7_copyOf_9075b_21 : decode cJ7_copyOf_9075b 21 = .ok (.iconst 0, 1) := by decide +kernel
theorem dJ7_copyOf_9075b_22 : decode cJ7_copyOf_9075b 22 = .ok (.aload_n 0, 1) := by decide +kernel
theorem dJ7_copyOf_9075b_23 : decode cJ7_copyOf_9075b 23 = .ok (.arraylength, 1) := by decide +kernel
theorem dJ7_copyOf_9075b_24 : decode cJ7_copyOf_9075b 24 = .ok (.iload_n 1, 1) := by decide +kernel
theorem dJ7_copyOf_9075b_25 : decode cJ7_copyOf_9075b 25 = .ok (.invokestatic 304, 3) := by decide +kernel
theorem dJ7_copyOf_9075b_28 : decode cJ7_copyOf_9075b 28 = .ok (.invokestatic 150, 3) := by decide +kernel
theorem dJ7_copyOf_9075b_31 : decode cJ7_copyOf_9075b 31 = .ok (.aload_n 2, 1) := by decide +kernel
theorem dJ7_copyOf_9075b_32 : decode cJ7_copyOf_9075b 32 = .ok (.areturn, 1) := by decide +kernel
set_option maxRecDepth 100000 in
set_option maxHeartbeats 4000000 in
theorem c_J7_copyOf_9075b (l : Launch) (D : va_G) (t : Nat → ClassId) (G : GE) (κ : CS) (a0 : Option Nat) (a1 : Int32) (post : Option Nat → CS → Prop) (hw : F_J7_copyOf_9075b G a0 a1 post κ) (sz : Nat) : CMq l D t yJ7_copyOf_9075b cJ7_copyOf_9075b 3 (some (.array .byte)) 1 40 G κ sz [va_rf a0, .int a1] post := by
  refine c_go (by decide) (by cases a0 <;> exact Nat.le_of_ble_eq_true rfl) ?_
  intro p e s m below meth c ls A hF hr hlk hin hAe hH hA hE hl
  unfold cB
  rw [hAe]
  clear hAe
  have hF : FX p m c cJ7_copyOf_9075b 3 s _ RJ7 D t := hF
  have hx := hF.1.1
  have hb := hF.1.2.1
  have hl : lv_has ls 3 [(0, va_rf a0), (1, .int a1)] := (by have h2 := hl; clear hw; revert h2; cases a0 <;> exact id)
  unfold F_J7_copyOf_9075b at hw
  refine lv_iload_n hx hb dJ7_copyOf_9075b_0 rfl (lv_at hl 1 rfl) ?_
  refine w_aloadq_n hF dJ7_copyOf_9075b_1 rfl (lv_at hl 0 rfl) ?_
  refine cw_alen (q := a0) hF hH hE dJ7_copyOf_9075b_2 hw (fun z1 hw => ?_)
  refine w_icmp_ne (tgt := 14) hF dJ7_copyOf_9075b_3 rfl hw (fun hw => ?_) (fun hw => ?_)
  · refine lv_iload_n hx hb dJ7_copyOf_9075b_14 rfl (lv_at hl 1 rfl) ?_
    refine cw_newarr_byte hF hH hA (wc_5 11 rfl) dJ7_copyOf_9075b_15 hw (fun o2 κ3 H locs cells slots hw hH => ?_)
    refine lv_astore_n (lv' := [(2, .ref o2), (0, va_rf a0), (1, .int a1)]) hx hb dJ7_copyOf_9075b_17 rfl hl (by decide) rfl (fun ls hl => ?_)
    refine w_aloadq_n hF dJ7_copyOf_9075b_18 rfl (lv_at hl 1 rfl) ?_
    refine lv_iconst (v := 0) hx hb dJ7_copyOf_9075b_19 (by decide) ?_
    refine lv_aload_n hx hb dJ7_copyOf_9075b_20 rfl (lv_at hl 0 rfl) ?_
    refine lv_iconst (v := 0) hx hb dJ7_copyOf_9075b_21 (by decide) ?_
    refine w_aloadq_n hF dJ7_copyOf_9075b_22 rfl (lv_at hl 1 rfl) ?_
    refine cw_alen (q := a0) hF hH hE dJ7_copyOf_9075b_23 hw (fun z4 hw => ?_)
    refine lv_iload_n hx hb dJ7_copyOf_9075b_24 rfl (lv_at hl 2 rfl) ?_
    refine cw_mmin hF hH hl.1 (wc_13 17 rfl) (wc_10 25 rfl) (wc_5 5 rfl) (wc_10 24 rfl) (Nat.le_of_ble_eq_true rfl) (by simp only [List.map_cons, List.map_nil, cat_rf]; exact Nat.le_of_ble_eq_true rfl) dJ7_copyOf_9075b_25 hw (fun z6 hw => ?_)
    refine cw_copyB (q0 := a0) (q1 := (some o2)) hF hH (wc_13 18 rfl) (wc_10 14 rfl) (wc_10 15 rfl) (wc_5 17 rfl) (Nat.le_of_ble_eq_true rfl) (Nat.le_of_ble_eq_true rfl) hl.1 dJ7_copyOf_9075b_28 hw (fun κ7 H locs cells slots hw hH => ?_)
    refine lv_aload_n hx hb dJ7_copyOf_9075b_31 rfl (lv_at hl 0 rfl) ?_
    exact cw_retq (v := (some o2)) hF hH ⟨rfl, rfl⟩ hr (by first | exact Or.inl ⟨_, rfl⟩ | exact Or.inr ⟨_, rfl⟩) hlk dJ7_copyOf_9075b_32 hw
  · refine w_aloadq_n hF dJ7_copyOf_9075b_6 rfl (lv_at hl 0 rfl) ?_
    exact hw.elim
set_option maxRecDepth 100000 in
def F_X2_post (G : GE) (h : Nat) (a1 : Option Nat) (post : CS → Prop) (κ : CS) : Prop := (h ∈ sL κ.1 ∧ sK κ.1 h = 3) ∧ ∀ z1 : Option Nat, z1 = sP κ.1 h 4 → ∃ b : Nat, z1 = some b ∧ (b ∈ sL κ.1 ∧ sK κ.1 b = 2) ∧ ∀ z2 : Int32, z2 = sI κ.1 b 1 → ∀ z3 : Int32, z3 = z2 + 4 → ∃ b : Nat, a1 = some b ∧ (b ∈ sL κ.1 ∧ sK κ.1 b = 2) ∧ ∀ z4 : Int32, z4 = sI κ.1 b 1 → ∀ z5 : Int32, z5 = z3 + z4 → (h ∈ sL κ.1 ∧ sK κ.1 h = 3) ∧ ∀ z6 : Int32, z6 = sI κ.1 h 0 → jc (fun (K9 : Unit → CS → Prop) => ((z6.toInt = 0) → K9 () κ) ∧ ((¬ z6.toInt = 0) → ∃ b : Nat, a1 = some b ∧ (b ∈ sL κ.1 ∧ sK κ.1 b = 2) ∧ ∀ z12 : Int32, z12 = sI κ.1 b 1 → ((z12.toInt = 0) → K9 () κ) ∧ ((¬ z12.toInt = 0) → ((z5.toInt ≤ (16000 : Int32).toInt) → (h ∈ sL κ.1 ∧ sK κ.1 h = 3) ∧ ∀ z13 : Option Nat, z13 = sP κ.1 h 4 → ∃ b : Nat, z13 = some b ∧ (b ∈ sL κ.1 ∧ sK κ.1 b = 2) ∧ ∀ z14 : Option Nat, z14 = sP κ.1 b 0 → ∃ n : Nat, AL G κ z14 n ∧ ∀ z15 : Int32, z15 = nI n → jc (fun (K18 : Unit → CS → Prop) => ((z5.toInt ≤ z15.toInt) → K18 () κ) ∧ ((z15.toInt < z5.toInt) → (h ∈ sL κ.1 ∧ sK κ.1 h = 3) ∧ ∀ z52 : Option Nat, z52 = sP κ.1 h 4 → (h ∈ sL κ.1 ∧ sK κ.1 h = 3) ∧ ∀ z53 : Option Nat, z53 = sP κ.1 h 4 → ∃ b : Nat, z53 = some b ∧ (b ∈ sL κ.1 ∧ sK κ.1 b = 2) ∧ ∀ z54 : Option Nat, z54 = sP κ.1 b 0 → ∀ z55 : Int32, z55 = 2 * z5 → F_J7_copyOf_9075b G z54 z55 (fun (z57 : Option Nat) (κ56 : CS) => ∃ b : Nat, z52 = some b ∧ (b ∈ sL κ56.1 ∧ sK κ56.1 b = 2) ∧ ∀ κ58 : CS, κ58 = (h_uP κ56.1 b 0 z57, κ56.2) → K18 () κ58) κ)) (fun (x16 : Unit) (κ17 : CS) => (h ∈ sL κ17.1 ∧ sK κ17.1 h = 3) ∧ ∀ z21 : Option Nat, z21 = sP κ17.1 h 4 → ∃ b : Nat, z21 = some b ∧ (b ∈ sL κ17.1 ∧ sK κ17.1 b = 2) ∧ ∀ z22 : Option Nat, z22 = sP κ17.1 b 0 → ∃ b : Nat, z22 = some b ∧ (b ∈ sL κ17.1 ∧ sK κ17.1 b = 20) ∧ (0 ≤ z2.toInt ∧ z2.toInt < (sN κ17.1 b : Int)) ∧ ∀ κ23 : CS, κ23 = (h_uI κ17.1 b z2.toInt.toNat (vp_nar .byte 0), κ17.2) → (h ∈ sL κ23.1 ∧ sK κ23.1 h = 3) ∧ ∀ z24 : Option Nat, z24 = sP κ23.1 h 4 → ∃ b : Nat, z24 = some b ∧ (b ∈ sL κ23.1 ∧ sK κ23.1 b = 2) ∧ ∀ z25 : Option Nat, z25 = sP κ23.1 b 0 → ∀ z26 : Int32, z26 = z2 + 1 → ∃ b : Nat, a1 = some b ∧ (b ∈ sL κ23.1 ∧ sK κ23.1 b = 2) ∧ ∀ z27 : Int32, z27 = sI κ23.1 b 1 → ∀ z28 : Int32, z28 = z27 >>> (16 &&& 31) → ∀ z29 : Int32, z29 = (z28 : Int32).toInt8.toInt32 → ∃ b : Nat, z25 = some b ∧ (b ∈ sL κ23.1 ∧ sK κ23.1 b = 20) ∧ (0 ≤ z26.toInt ∧ z26.toInt < (sN κ23.1 b : Int)) ∧ ∀ κ30 : CS, κ30 = (h_uI κ23.1 b z26.toInt.toNat (vp_nar .byte z29), κ23.2) → (h ∈ sL κ30.1 ∧ sK κ30.1 h = 3) ∧ ∀ z31 : Option Nat, z31 = sP κ30.1 h 4 → ∃ b : Nat, z31 = some b ∧ (b ∈ sL κ30.1 ∧ sK κ30.1 b = 2) ∧ ∀ z32 : Option Nat, z32 = sP κ30.1 b 0 → ∀ z33 : Int32, z33 = z2 + 2 → ∃ b : Nat, a1 = some b ∧ (b ∈ sL κ30.1 ∧ sK κ30.1 b = 2) ∧ ∀ z34 : Int32, z34 = sI κ30.1 b 1 → ∀ z35 : Int32, z35 = z34 >>> (8 &&& 31) → ∀ z36 : Int32, z36 = (z35 : Int32).toInt8.toInt32 → ∃ b : Nat, z32 = some b ∧ (b ∈ sL κ30.1 ∧ sK κ30.1 b = 20) ∧ (0 ≤ z33.toInt ∧ z33.toInt < (sN κ30.1 b : Int)) ∧ ∀ κ37 : CS, κ37 = (h_uI κ30.1 b z33.toInt.toNat (vp_nar .byte z36), κ30.2) → (h ∈ sL κ37.1 ∧ sK κ37.1 h = 3) ∧ ∀ z38 : Option Nat, z38 = sP κ37.1 h 4 → ∃ b : Nat, z38 = some b ∧ (b ∈ sL κ37.1 ∧ sK κ37.1 b = 2) ∧ ∀ z39 : Option Nat, z39 = sP κ37.1 b 0 → ∀ z40 : Int32, z40 = z2 + 3 → ∃ b : Nat, a1 = some b ∧ (b ∈ sL κ37.1 ∧ sK κ37.1 b = 2) ∧ ∀ z41 : Int32, z41 = sI κ37.1 b 1 → ∀ z42 : Int32, z42 = (z41 : Int32).toInt8.toInt32 → ∃ b : Nat, z39 = some b ∧ (b ∈ sL κ37.1 ∧ sK κ37.1 b = 20) ∧ (0 ≤ z40.toInt ∧ z40.toInt < (sN κ37.1 b : Int)) ∧ ∀ κ43 : CS, κ43 = (h_uI κ37.1 b z40.toInt.toNat (vp_nar .byte z42), κ37.2) → ∃ b : Nat, a1 = some b ∧ (b ∈ sL κ43.1 ∧ sK κ43.1 b = 2) ∧ ∀ z44 : Option Nat, z44 = sP κ43.1 b 0 → (h ∈ sL κ43.1 ∧ sK κ43.1 h = 3) ∧ ∀ z45 : Option Nat, z45 = sP κ43.1 h 4 → ∃ b : Nat, z45 = some b ∧ (b ∈ sL κ43.1 ∧ sK κ43.1 b = 2) ∧ ∀ z46 : Option Nat, z46 = sP κ43.1 b 0 → ∀ z47 : Int32, z47 = z2 + 4 → ∃ b : Nat, a1 = some b ∧ (b ∈ sL κ43.1 ∧ sK κ43.1 b = 2) ∧ ∀ z48 : Int32, z48 = sI κ43.1 b 1 → ∃ u0 : Nat, z44 = some u0 ∧ ∃ u1 : Nat, z46 = some u1 ∧ (u0 ∈ sL κ43.1 ∧ sK κ43.1 u0 = 20) ∧ (u1 ∈ sL κ43.1 ∧ sK κ43.1 u1 = 20) ∧ (0 ≤ (0 : Int32).toInt ∧ 0 ≤ z47.toInt ∧ 0 ≤ z48.toInt ∧ (0 : Int32).toInt + z48.toInt ≤ (sN κ43.1 u0 : Int) ∧ z47.toInt + z48.toInt ≤ (sN κ43.1 u1 : Int)) ∧ (∀ j : Nat, j < z48.toInt.toNat → -128 ≤ (sI κ43.1 u0 ((0 : Int32).toInt.toNat + j)).toInt ∧ (sI κ43.1 u0 ((0 : Int32).toInt.toNat + j)).toInt ≤ 127) ∧ ∀ κ49 : CS, κ49 = (h_cpI κ43.1 u0 u1 (0 : Int32).toInt.toNat z47.toInt.toNat z48.toInt.toNat, κ43.2) → (h ∈ sL κ49.1 ∧ sK κ49.1 h = 3) ∧ ∀ z50 : Option Nat, z50 = sP κ49.1 h 4 → ∃ b : Nat, z50 = some b ∧ (b ∈ sL κ49.1 ∧ sK κ49.1 b = 2) ∧ ∀ κ51 : CS, κ51 = (h_uI κ49.1 b 1 z5, κ49.2) → post κ51)) ∧ (((16000 : Int32).toInt < z5.toInt) → K9 () κ)))) (fun (x7 : Unit) (κ8 : CS) => post κ8)
theorem dX2_post_0 : decode cX2_post 0 = .ok (.aload_n 0, 1) := by decide +kernel
theorem dX2_post_1 : decode cX2_post 1 = .ok (.getfield 18, 3) := by decide +kernel
theorem dX2_post_4 : decode cX2_post 4 = .ok (.getfield 32, 3) := by decide +kernel
theorem dX2_post_7 : decode cX2_post 7 = .ok (.istore_n 2, 1) := by decide +kernel
theorem dX2_post_8 : decode cX2_post 8 = .ok (.iload_n 2, 1) := by decide +kernel
theorem dX2_post_9 : decode cX2_post 9 = .ok (.iconst 4, 1) := by decide +kernel
theorem dX2_post_10 : decode cX2_post 10 = .ok (.iadd, 1) := by decide +kernel
theorem dX2_post_11 : decode cX2_post 11 = .ok (.aload_n 1, 1) := by decide +kernel
theorem dX2_post_12 : decode cX2_post 12 = .ok (.getfield 32, 3) := by decide +kernel
theorem dX2_post_15 : decode cX2_post 15 = .ok (.iadd, 1) := by decide +kernel
theorem dX2_post_16 : decode cX2_post 16 = .ok (.istore_n 3, 1) := by decide +kernel
theorem dX2_post_17 : decode cX2_post 17 = .ok (.aload_n 0, 1) := by decide +kernel
theorem dX2_post_18 : decode cX2_post 18 = .ok (.getfield 25, 3) := by decide +kernel
theorem dX2_post_21 : decode cX2_post 21 = .ok (.ifCond .eq 17, 3) := by decide +kernel
theorem dX2_post_24 : decode cX2_post 24 = .ok (.aload_n 1, 1) := by decide +kernel
theorem dX2_post_25 : decode cX2_post 25 = .ok (.getfield 32, 3) := by decide +kernel
theorem dX2_post_28 : decode cX2_post 28 = .ok (.ifCond .eq 10, 3) := by decide +kernel
theorem dX2_post_31 : decode cX2_post 31 = .ok (.iload_n 3, 1) := by decide +kernel
theorem dX2_post_32 : decode cX2_post 32 = .ok (.sipush 16000, 3) := by decide +kernel
theorem dX2_post_35 : decode cX2_post 35 = .ok (.if_icmp .le 4, 3) := by decide +kernel
theorem dX2_post_38 : decode cX2_post 38 = .ok (.return_, 1) := by decide +kernel
theorem dX2_post_39 : decode cX2_post 39 = .ok (.iload_n 3, 1) := by decide +kernel
theorem dX2_post_40 : decode cX2_post 40 = .ok (.aload_n 0, 1) := by decide +kernel
theorem dX2_post_41 : decode cX2_post 41 = .ok (.getfield 18, 3) := by decide +kernel
theorem dX2_post_44 : decode cX2_post 44 = .ok (.getfield 74, 3) := by decide +kernel
theorem dX2_post_47 : decode cX2_post 47 = .ok (.arraylength, 1) := by decide +kernel
theorem dX2_post_48 : decode cX2_post 48 = .ok (.if_icmp .le 23, 3) := by decide +kernel
theorem dX2_post_51 : decode cX2_post 51 = .ok (.aload_n 0, 1) := by decide +kernel
theorem dX2_post_52 : decode cX2_post 52 = .ok (.getfield 18, 3) := by decide +kernel
theorem dX2_post_55 : decode cX2_post 55 = .ok (.aload_n 0, 1) := by decide +kernel
theorem dX2_post_56 : decode cX2_post 56 = .ok (.getfield 18, 3) := by decide +kernel
theorem dX2_post_59 : decode cX2_post 59 = .ok (.getfield 74, 3) := by decide +kernel
theorem dX2_post_62 : decode cX2_post 62 = .ok (.iconst 2, 1) := by decide +kernel
theorem dX2_post_63 : decode cX2_post 63 = .ok (.iload_n 3, 1) := by decide +kernel
theorem dX2_post_64 : decode cX2_post 64 = .ok (.imul, 1) := by decide +kernel
theorem dX2_post_65 : decode cX2_post 65 = .ok (.invokestatic 78, 3) := by decide +kernel
theorem dX2_post_68 : decode cX2_post 68 = .ok (.putfield 74, 3) := by decide +kernel
theorem dX2_post_71 : decode cX2_post 71 = .ok (.aload_n 0, 1) := by decide +kernel
theorem dX2_post_72 : decode cX2_post 72 = .ok (.getfield 18, 3) := by decide +kernel
theorem dX2_post_75 : decode cX2_post 75 = .ok (.getfield 74, 3) := by decide +kernel
theorem dX2_post_78 : decode cX2_post 78 = .ok (.iload_n 2, 1) := by decide +kernel
theorem dX2_post_79 : decode cX2_post 79 = .ok (.iconst 0, 1) := by decide +kernel
theorem dX2_post_80 : decode cX2_post 80 = .ok (.bastore, 1) := by decide +kernel
theorem dX2_post_81 : decode cX2_post 81 = .ok (.aload_n 0, 1) := by decide +kernel
theorem dX2_post_82 : decode cX2_post 82 = .ok (.getfield 18, 3) := by decide +kernel
theorem dX2_post_85 : decode cX2_post 85 = .ok (.getfield 74, 3) := by decide +kernel
theorem dX2_post_88 : decode cX2_post 88 = .ok (.iload_n 2, 1) := by decide +kernel
theorem dX2_post_89 : decode cX2_post 89 = .ok (.iconst 1, 1) := by decide +kernel
theorem dX2_post_90 : decode cX2_post 90 = .ok (.iadd, 1) := by decide +kernel
theorem dX2_post_91 : decode cX2_post 91 = .ok (.aload_n 1, 1) := by decide +kernel
theorem dX2_post_92 : decode cX2_post 92 = .ok (.getfield 32, 3) := by decide +kernel
theorem dX2_post_95 : decode cX2_post 95 = .ok (.bipush 16, 2) := by decide +kernel
theorem dX2_post_97 : decode cX2_post 97 = .ok (.ishr, 1) := by decide +kernel
theorem dX2_post_98 : decode cX2_post 98 = .ok (.i2b, 1) := by decide +kernel
theorem dX2_post_99 : decode cX2_post 99 = .ok (.bastore, 1) := by decide +kernel
theorem dX2_post_100 : decode cX2_post 100 = .ok (.aload_n 0, 1) := by decide +kernel
theorem dX2_post_101 : decode cX2_post 101 = .ok (.getfield 18, 3) := by decide +kernel
theorem dX2_post_104 : decode cX2_post 104 = .ok (.getfield 74, 3) := by decide +kernel
theorem dX2_post_107 : decode cX2_post 107 = .ok (.iload_n 2, 1) := by decide +kernel
theorem dX2_post_108 : decode cX2_post 108 = .ok (.iconst 2, 1) := by decide +kernel
theorem dX2_post_109 : decode cX2_post 109 = .ok (.iadd, 1) := by decide +kernel
theorem dX2_post_110 : decode cX2_post 110 = .ok (.aload_n 1, 1) := by decide +kernel
theorem dX2_post_111 : decode cX2_post 111 = .ok (.getfield 32, 3) := by decide +kernel
theorem dX2_post_114 : decode cX2_post 114 = .ok (.bipush 8, 2) := by decide +kernel
theorem dX2_post_116 : decode cX2_post 116 = .ok (.ishr, 1) := by decide +kernel
theorem dX2_post_117 : decode cX2_post 117 = .ok (.i2b, 1) := by decide +kernel
theorem dX2_post_118 : decode cX2_post 118 = .ok (.bastore, 1) := by decide +kernel
theorem dX2_post_119 : decode cX2_post 119 = .ok (.aload_n 0, 1) := by decide +kernel
theorem dX2_post_120 : decode cX2_post 120 = .ok (.getfield 18, 3) := by decide +kernel
theorem dX2_post_123 : decode cX2_post 123 = .ok (.getfield 74, 3) := by decide +kernel
theorem dX2_post_126 : decode cX2_post 126 = .ok (.iload_n 2, 1) := by decide +kernel
theorem dX2_post_127 : decode cX2_post 127 = .ok (.iconst 3, 1) := by decide +kernel
theorem dX2_post_128 : decode cX2_post 128 = .ok (.iadd, 1) := by decide +kernel
theorem dX2_post_129 : decode cX2_post 129 = .ok (.aload_n 1, 1) := by decide +kernel
theorem dX2_post_130 : decode cX2_post 130 = .ok (.getfield 32, 3) := by decide +kernel
theorem dX2_post_133 : decode cX2_post 133 = .ok (.i2b, 1) := by decide +kernel
theorem dX2_post_134 : decode cX2_post 134 = .ok (.bastore, 1) := by decide +kernel
theorem dX2_post_135 : decode cX2_post 135 = .ok (.aload_n 1, 1) := by decide +kernel
theorem dX2_post_136 : decode cX2_post 136 = .ok (.getfield 74, 3) := by decide +kernel
theorem dX2_post_139 : decode cX2_post 139 = .ok (.iconst 0, 1) := by decide +kernel
theorem dX2_post_140 : decode cX2_post 140 = .ok (.aload_n 0, 1) := by decide +kernel
theorem dX2_post_141 : decode cX2_post 141 = .ok (.getfield 18, 3) := by decide +kernel
theorem dX2_post_144 : decode cX2_post 144 = .ok (.getfield 74, 3) := by decide +kernel
theorem dX2_post_147 : decode cX2_post 147 = .ok (.iload_n 2, 1) := by decide +kernel
theorem dX2_post_148 : decode cX2_post 148 = .ok (.iconst 4, 1) := by decide +kernel
theorem dX2_post_149 : decode cX2_post 149 = .ok (.iadd, 1) := by decide +kernel
theorem dX2_post_150 : decode cX2_post 150 = .ok (.aload_n 1, 1) := by decide +kernel
theorem dX2_post_151 : decode cX2_post 151 = .ok (.getfield 32, 3) := by decide +kernel
theorem dX2_post_154 : decode cX2_post 154 = .ok (.invokestatic 84, 3) := by decide +kernel
theorem dX2_post_157 : decode cX2_post 157 = .ok (.aload_n 0, 1) := by decide +kernel
theorem dX2_post_158 : decode cX2_post 158 = .ok (.getfield 18, 3) := by decide +kernel
theorem dX2_post_161 : decode cX2_post 161 = .ok (.iload_n 3, 1) := by decide +kernel
theorem dX2_post_162 : decode cX2_post 162 = .ok (.putfield 32, 3) := by decide +kernel
theorem dX2_post_165 : decode cX2_post 165 = .ok (.return_, 1) := by decide +kernel
set_option maxRecDepth 100000 in
set_option maxHeartbeats 4000000 in
theorem c_X2_post (l : Launch) (D : va_G) (t : Nat → ClassId) (G : GE) (κ : CS) (h : Nat) (a1 : Option Nat) (post : CS → Prop) (hw : F_X2_post G h a1 post κ) (sz : Nat) : CMv l D t yX2_post cX2_post 4 2 62 G κ sz [.ref h, va_rf a1] post := by
  refine c_go (by decide) (by cases a1 <;> exact Nat.le_of_ble_eq_true rfl) ?_
  intro p e s m below meth c ls A hF hr hlk hin hAe hH hA hE hl
  unfold cB
  rw [hAe]
  clear hAe
  have hF : FX p m c cX2_post 4 s _ RX2 D t := hF
  have hx := hF.1.1
  have hb := hF.1.2.1
  have hl : lv_has ls 4 [(0, .ref h), (1, va_rf a1)] := (by have h2 := hl; clear hw; revert h2; cases a1 <;> exact id)
  unfold F_X2_post at hw
  refine lv_aload_n hx hb dX2_post_0 rfl (lv_at hl 0 rfl) ?_
  refine cw_getPr (a := h) hF hH fk_X2_18 dX2_post_1 hw (fun z1 hw => ?_)
  refine cw_getI (q := z1) hF hH fk_X2_32 dX2_post_4 hw (fun z2 hw => ?_)
  refine lv_istore_n (lv' := [(2, .int z2), (0, .ref h), (1, va_rf a1)]) hx hb dX2_post_7 rfl hl (by decide) (by generalize a1 = y; cases y <;> rfl) (fun ls hl => ?_)
  refine lv_iload_n hx hb dX2_post_8 rfl (lv_at hl 0 rfl) ?_
  refine lv_iconst (v := 4) hx hb dX2_post_9 (by decide) ?_
  refine lv_iadd hx hb dX2_post_10 ?_
  refine w_nmi hw (fun z3 hw => ?_)
  refine w_aloadq_n hF dX2_post_11 rfl (lv_at hl 2 rfl) ?_
  refine cw_getI (q := a1) hF hH fk_X2_32 dX2_post_12 hw (fun z4 hw => ?_)
  refine lv_iadd hx hb dX2_post_15 ?_
  refine w_nmi hw (fun z5 hw => ?_)
  refine lv_istore_n (lv' := [(3, .int z5), (2, .int z2), (0, .ref h), (1, va_rf a1)]) hx hb dX2_post_16 rfl hl (by decide) rfl (fun ls hl => ?_)
  refine lv_aload_n hx hb dX2_post_17 rfl (lv_at hl 2 rfl) ?_
  refine cw_getIr (a := h) hF hH fk_X2_25 dX2_post_18 hw (fun z6 hw => ?_)
  obtain ⟨K9, hK10, hw⟩ := jc_open hw
  refine cw_join (K := K9) 38 (fun (x7 : Unit) => []) (fun (x7 : Unit) => []) hl hH (fun x7 κ8 ls H locs cells slots hl hw hH => ?_) (fun jn11 => ?_)
  · have hw := hK10 x7 κ8 hw
    have hl : lv_has ls 4 [] := hl
    exact cw_retv hF hH ⟨rfl, rfl⟩ hr hlk dX2_post_38 hw
  · skip
    refine w_if_eq (tgt := 38) hF dX2_post_21 rfl hw (fun hw => ?_) (fun hw => ?_)
    · have hl : lv_has ls 4 [] := lv_sub hl [] rfl
      exact jn11 () κ ls _ _ _ _ hl hw hH
    · refine w_aloadq_n hF dX2_post_24 rfl (lv_at hl 3 rfl) ?_
      refine cw_getI (q := a1) hF hH fk_X2_32 dX2_post_25 hw (fun z12 hw => ?_)
      refine w_if_eq (tgt := 38) hF dX2_post_28 rfl hw (fun hw => ?_) (fun hw => ?_)
      · have hl : lv_has ls 4 [] := lv_sub hl [] rfl
        exact jn11 () κ ls _ _ _ _ hl hw hH
      · refine lv_iload_n hx hb dX2_post_31 rfl (lv_at hl 0 rfl) ?_
        refine lv_sipush (v := 16000) hx hb dX2_post_32 (by decide) ?_
        refine w_icmp_le (tgt := 39) hF dX2_post_35 rfl hw (fun hw => ?_) (fun hw => ?_)
        · refine lv_iload_n hx hb dX2_post_39 rfl (lv_at hl 0 rfl) ?_
          refine lv_aload_n hx hb dX2_post_40 rfl (lv_at hl 2 rfl) ?_
          refine cw_getPr (a := h) hF hH fk_X2_18 dX2_post_41 hw (fun z13 hw => ?_)
          refine cw_getP (q := z13) hF hH fk_X2_74 dX2_post_44 hw (fun z14 hw => ?_)
          refine cw_alen (q := z14) hF hH hE dX2_post_47 hw (fun z15 hw => ?_)
          obtain ⟨K18, hK19, hw⟩ := jc_open hw
          refine cw_join (K := K18) 71 (fun (x16 : Unit) => [(3, .int z5), (2, .int z2), (1, va_rf a1), (0, .ref h)]) (fun (x16 : Unit) => []) hl hH (fun x16 κ17 ls H locs cells slots hl hw hH => ?_) (fun jn20 => ?_)
          · have hw := hK19 x16 κ17 hw
            have hl : lv_has ls 4 [(3, .int z5), (2, .int z2), (1, va_rf a1), (0, .ref h)] := hl
            refine lv_aload_n hx hb dX2_post_71 rfl (lv_at hl 3 rfl) ?_
            refine cw_getPr (a := h) hF hH fk_X2_18 dX2_post_72 hw (fun z21 hw => ?_)
            refine cw_getP (q := z21) hF hH fk_X2_74 dX2_post_75 hw (fun z22 hw => ?_)
            refine lv_iload_n hx hb dX2_post_78 rfl (lv_at hl 1 rfl) ?_
            refine lv_iconst (v := 0) hx hb dX2_post_79 (by decide) ?_
            refine cw_bast (q := z22) hF hH dX2_post_80 hw (fun κ23 H locs cells slots hw hH => ?_)
            refine lv_aload_n hx hb dX2_post_81 rfl (lv_at hl 3 rfl) ?_
            refine cw_getPr (a := h) hF hH fk_X2_18 dX2_post_82 hw (fun z24 hw => ?_)
            refine cw_getP (q := z24) hF hH fk_X2_74 dX2_post_85 hw (fun z25 hw => ?_)
            refine lv_iload_n hx hb dX2_post_88 rfl (lv_at hl 1 rfl) ?_
            refine lv_iconst (v := 1) hx hb dX2_post_89 (by decide) ?_
            refine lv_iadd hx hb dX2_post_90 ?_
            refine w_nmi hw (fun z26 hw => ?_)
            refine w_aloadq_n hF dX2_post_91 rfl (lv_at hl 2 rfl) ?_
            refine cw_getI (q := a1) hF hH fk_X2_32 dX2_post_92 hw (fun z27 hw => ?_)
            refine lv_bipush (v := 16) hx hb dX2_post_95 (by decide) ?_
            refine lv_ishr hx hb dX2_post_97 ?_
            refine w_nmi hw (fun z28 hw => ?_)
            refine lv_i2b hx hb dX2_post_98 rfl ?_
            refine w_nmi hw (fun z29 hw => ?_)
            refine cw_bast (q := z25) hF hH dX2_post_99 hw (fun κ30 H locs cells slots hw hH => ?_)
            refine lv_aload_n hx hb dX2_post_100 rfl (lv_at hl 3 rfl) ?_
            refine cw_getPr (a := h) hF hH fk_X2_18 dX2_post_101 hw (fun z31 hw => ?_)
            refine cw_getP (q := z31) hF hH fk_X2_74 dX2_post_104 hw (fun z32 hw => ?_)
            refine lv_iload_n hx hb dX2_post_107 rfl (lv_at hl 1 rfl) ?_
            refine lv_iconst (v := 2) hx hb dX2_post_108 (by decide) ?_
            refine lv_iadd hx hb dX2_post_109 ?_
            refine w_nmi hw (fun z33 hw => ?_)
            refine w_aloadq_n hF dX2_post_110 rfl (lv_at hl 2 rfl) ?_
            refine cw_getI (q := a1) hF hH fk_X2_32 dX2_post_111 hw (fun z34 hw => ?_)
            refine lv_bipush (v := 8) hx hb dX2_post_114 (by decide) ?_
            refine lv_ishr hx hb dX2_post_116 ?_
            refine w_nmi hw (fun z35 hw => ?_)
            refine lv_i2b hx hb dX2_post_117 rfl ?_
            refine w_nmi hw (fun z36 hw => ?_)
            refine cw_bast (q := z32) hF hH dX2_post_118 hw (fun κ37 H locs cells slots hw hH => ?_)
            refine lv_aload_n hx hb dX2_post_119 rfl (lv_at hl 3 rfl) ?_
            refine cw_getPr (a := h) hF hH fk_X2_18 dX2_post_120 hw (fun z38 hw => ?_)
            refine cw_getP (q := z38) hF hH fk_X2_74 dX2_post_123 hw (fun z39 hw => ?_)
            refine lv_iload_n hx hb dX2_post_126 rfl (lv_at hl 1 rfl) ?_
            refine lv_iconst (v := 3) hx hb dX2_post_127 (by decide) ?_
            refine lv_iadd hx hb dX2_post_128 ?_
            refine w_nmi hw (fun z40 hw => ?_)
            refine w_aloadq_n hF dX2_post_129 rfl (lv_at hl 2 rfl) ?_
            refine cw_getI (q := a1) hF hH fk_X2_32 dX2_post_130 hw (fun z41 hw => ?_)
            refine lv_i2b hx hb dX2_post_133 rfl ?_
            refine w_nmi hw (fun z42 hw => ?_)
            refine cw_bast (q := z39) hF hH dX2_post_134 hw (fun κ43 H locs cells slots hw hH => ?_)
            refine w_aloadq_n hF dX2_post_135 rfl (lv_at hl 2 rfl) ?_
            refine cw_getP (q := a1) hF hH fk_X2_74 dX2_post_136 hw (fun z44 hw => ?_)
            refine lv_iconst (v := 0) hx hb dX2_post_139 (by decide) ?_
            refine lv_aload_n hx hb dX2_post_140 rfl (lv_at hl 3 rfl) ?_
            refine cw_getPr (a := h) hF hH fk_X2_18 dX2_post_141 hw (fun z45 hw => ?_)
            refine cw_getP (q := z45) hF hH fk_X2_74 dX2_post_144 hw (fun z46 hw => ?_)
            refine lv_iload_n hx hb dX2_post_147 rfl (lv_at hl 1 rfl) ?_
            refine lv_iconst (v := 4) hx hb dX2_post_148 (by decide) ?_
            refine lv_iadd hx hb dX2_post_149 ?_
            refine w_nmi hw (fun z47 hw => ?_)
            refine w_aloadq_n hF dX2_post_150 rfl (lv_at hl 2 rfl) ?_
            refine cw_getI (q := a1) hF hH fk_X2_32 dX2_post_151 hw (fun z48 hw => ?_)
            refine cw_copyB (q0 := z44) (q1 := z46) hF hH (wc_15 5 rfl) (wc_10 14 rfl) (wc_10 15 rfl) (wc_5 17 rfl) (Nat.le_of_ble_eq_true rfl) (Nat.le_of_ble_eq_true rfl) hl.1 dX2_post_154 hw (fun κ49 H locs cells slots hw hH => ?_)
            refine lv_aload_n hx hb dX2_post_157 rfl (lv_at hl 3 rfl) ?_
            refine cw_getPr (a := h) hF hH fk_X2_18 dX2_post_158 hw (fun z50 hw => ?_)
            refine lv_iload_n hx hb dX2_post_161 rfl (lv_at hl 0 rfl) ?_
            refine cw_putI (q := z50) (v := z5) hF hH fk_X2_32 dX2_post_162 rfl rfl rfl hw (fun κ51 H locs cells slots hw hH => ?_)
            exact cw_retv hF hH ⟨rfl, rfl⟩ hr hlk dX2_post_165 hw
          · skip
            refine w_icmp_le (tgt := 71) hF dX2_post_48 rfl hw (fun hw => ?_) (fun hw => ?_)
            · have hl : lv_has ls 4 [(3, .int z5), (2, .int z2), (1, va_rf a1), (0, .ref h)] := lv_sub hl [0, 1, 3, 2] rfl
              exact jn20 () κ ls _ _ _ _ hl hw hH
            · refine lv_aload_n hx hb dX2_post_51 rfl (lv_at hl 2 rfl) ?_
              refine cw_getPr (a := h) hF hH fk_X2_18 dX2_post_52 hw (fun z52 hw => ?_)
              refine lv_aload_n hx hb dX2_post_55 rfl (lv_at hl 2 rfl) ?_
              refine cw_getPr (a := h) hF hH fk_X2_18 dX2_post_56 hw (fun z53 hw => ?_)
              refine cw_getP (q := z53) hF hH fk_X2_74 dX2_post_59 hw (fun z54 hw => ?_)
              refine lv_iconst (v := 2) hx hb dX2_post_62 (by decide) ?_
              refine lv_iload_n hx hb dX2_post_63 rfl (lv_at hl 0 rfl) ?_
              refine lv_imul hx hb dX2_post_64 ?_
              refine w_nmi hw (fun z55 hw => ?_)
              refine cw_cSq (As := [va_rf z54, .int z55]) (rest := [va_rf z52]) hF hH hA hE ms_X2_78 (fun sz => c_J7_copyOf_9075b l D t G _ z54 z55 _ hw sz) dX2_post_65 ⟨Nat.le_of_ble_eq_true rfl, Nat.le_of_ble_eq_true rfl⟩ rfl hl.1 (by simp only [List.map_cons, List.map_nil, cat_rf]; exact Nat.le_of_ble_eq_true rfl) rfl (fun z57 κ56 H locs cells slots hw hH => ?_)
              refine cw_putP (q := z52) (v := z57) hF hH fk_X2_74 dX2_post_68 rfl rfl hw (fun κ58 H locs cells slots hw hH => ?_)
              have hl : lv_has ls 4 [(3, .int z5), (2, .int z2), (1, va_rf a1), (0, .ref h)] := lv_sub hl [0, 1, 3, 2] rfl
              exact jn20 () κ58 ls _ _ _ _ hl hw hH
        · have hl : lv_has ls 4 [] := lv_sub hl [] rfl
          exact jn11 () κ ls _ _ _ _ hl hw hH
set_option maxRecDepth 100000 in
def F_X3_init (G : GE) (h : Nat) (a1 : Option Nat) (a2 : Int64) (a4 : Int64) (a6 : Int32) (post : CS → Prop) (κ : CS) : Prop := (h ∈ sL κ.1 ∧ sK κ.1 h = 9) ∧ ∀ κ2 : CS, κ2 = (h_uP κ.1 h 0 a1, κ.2) → (h ∈ sL κ2.1 ∧ sK κ2.1 h = 9) ∧ ∀ κ3 : CS, κ3 = (h_uJ κ2.1 h 1 a2, κ2.2) → (h ∈ sL κ3.1 ∧ sK κ3.1 h = 9) ∧ ∀ κ4 : CS, κ4 = (h_uJ κ3.1 h 2 a4, κ3.2) → (0 ≤ a6.toInt ∧ a6.toInt ≤ 1) ∧ (h ∈ sL κ4.1 ∧ sK κ4.1 h = 9) ∧ ∀ κ5 : CS, κ5 = (h_uI κ4.1 h 3 a6, κ4.2) → post κ5
theorem dX3_init_0 : decode cX3_init 0 = .ok (.aload_n 0, 1) := by decide +kernel
theorem dX3_init_1 : decode cX3_init 1 = .ok (.invokespecial 1, 3) := by decide +kernel
theorem dX3_init_4 : decode cX3_init 4 = .ok (.aload_n 0, 1) := by decide +kernel
theorem dX3_init_5 : decode cX3_init 5 = .ok (.aload_n 1, 1) := by decide +kernel
theorem dX3_init_6 : decode cX3_init 6 = .ok (.putfield 7, 3) := by decide +kernel
theorem dX3_init_9 : decode cX3_init 9 = .ok (.aload_n 0, 1) := by decide +kernel
theorem dX3_init_10 : decode cX3_init 10 = .ok (.lload_n 2, 1) := by decide +kernel
theorem dX3_init_11 : decode cX3_init 11 = .ok (.putfield 13, 3) := by decide +kernel
theorem dX3_init_14 : decode cX3_init 14 = .ok (.aload_n 0, 1) := by decide +kernel
theorem dX3_init_15 : decode cX3_init 15 = .ok (.lload 4, 2) := by decide +kernel
theorem dX3_init_17 : decode cX3_init 17 = .ok (.putfield 17, 3) := by decide +kernel
theorem dX3_init_20 : decode cX3_init 20 = .ok (.aload_n 0, 1) := by decide +kernel
theorem dX3_init_21 : decode cX3_init 21 = .ok (.iload 6, 2) := by decide +kernel
theorem dX3_init_23 : decode cX3_init 23 = .ok (.putfield 20, 3) := by decide +kernel
theorem dX3_init_26 : decode cX3_init 26 = .ok (.return_, 1) := by decide +kernel
set_option maxRecDepth 100000 in
set_option maxHeartbeats 4000000 in
theorem c_X3_init (l : Launch) (D : va_G) (t : Nat → ClassId) (G : GE) (κ : CS) (h : Nat) (a1 : Option Nat) (a2 : Int64) (a4 : Int64) (a6 : Int32) (post : CS → Prop) (hw : F_X3_init G h a1 a2 a4 a6 post κ) (sz : Nat) : CMv l D t yX3_init cX3_init 7 1 30 G κ sz [.ref h, va_rf a1, .long a2, .long a4, .int a6] post := by
  refine c_go (by decide) (by cases a1 <;> exact Nat.le_of_ble_eq_true rfl) ?_
  intro p e s m below meth c ls A hF hr hlk hin hAe hH hA hE hl
  unfold cB
  rw [hAe]
  clear hAe
  have hF : FX p m c cX3_init 7 s _ RX3 D t := hF
  have hx := hF.1.1
  have hb := hF.1.2.1
  have hl : lv_has ls 7 [(0, .ref h), (1, va_rf a1), (2, .long a2), (4, .long a4), (6, .int a6)] := (by have h2 := hl; clear hw; revert h2; cases a1 <;> exact id)
  unfold F_X3_init at hw
  refine lv_aload_n hx hb dX3_init_0 rfl (lv_at hl 0 rfl) ?_
  refine W.objInit hx hb hF.1.2.2.2.1 (hF.1.2.2.2.2 _ (wc_30 3 rfl)) (hF.1.2.2.2.2 _ (wc_5 1 rfl)) (hF.1.2.2.2.2 _ (wc_5 0 rfl)) rfl (hl.1.trans hF.1.2.2.1.symm) rfl dX3_init_1 (Nat.le_of_ble_eq_true rfl) (Nat.le_of_ble_eq_true rfl) ?_
  refine lv_aload_n hx hb dX3_init_4 rfl (lv_at hl 0 rfl) ?_
  refine w_aloadq_n hF dX3_init_5 rfl (lv_at hl 1 rfl) ?_
  refine cw_putFP (a := h) (v := a1) hF hH fk_X3_7 dX3_init_6 hin rfl rfl rfl hw (fun κ2 H locs cells slots hw hH => ?_)
  refine lv_aload_n hx hb dX3_init_9 rfl (lv_at hl 0 rfl) ?_
  refine lv_lload_n hx hb dX3_init_10 rfl (lv_at hl 2 rfl) ?_
  refine cw_putFJ (a := h) (v := a2) hF hH fk_X3_13 dX3_init_11 hin rfl rfl rfl rfl hw (fun κ3 H locs cells slots hw hH => ?_)
  refine lv_aload_n hx hb dX3_init_14 rfl (lv_at hl 0 rfl) ?_
  refine lv_lload hx hb dX3_init_15 (lv_at hl 3 rfl) ?_
  refine cw_putFJ (a := h) (v := a4) hF hH fk_X3_17 dX3_init_17 hin rfl rfl rfl rfl hw (fun κ4 H locs cells slots hw hH => ?_)
  refine lv_aload_n hx hb dX3_init_20 rfl (lv_at hl 0 rfl) ?_
  refine lv_iload hx hb dX3_init_21 (lv_at hl 4 rfl) ?_
  refine cw_putFZ (a := h) (v := a6) hF hH fk_X3_20 dX3_init_23 hin rfl rfl rfl hw (fun κ5 H locs cells slots hw hH => ?_)
  exact cw_retv hF hH ⟨rfl, rfl⟩ hr hlk dX3_init_26 hw
set_option maxRecDepth 100000 in
def F_X11_below (G : GE) (a0 : Int64) (a2 : Int64) (post : Int32 → CS → Prop) (κ : CS) : Prop := ∀ z1 : Int64, z1 = a0 ^^^ (-9223372036854775808) → ∀ z2 : Int64, z2 = a2 ^^^ (-9223372036854775808) → jc (fun (K5 : Int32 → CS → Prop) => ((z2.toInt ≤ z1.toInt) → K5 0 κ) ∧ ((z1.toInt < z2.toInt) → K5 1 κ)) (fun (x3 : Int32) (κ4 : CS) => (0 ≤ x3.toInt ∧ x3.toInt ≤ 1) ∧ post x3 κ4)
theorem dX11_below_0 : decode cX11_below 0 = .ok (.lload_n 0, 1) := by decide +kernel
theorem dX11_below_1 : decode cX11_below 1 = .ok (.ldc2_w 973, 3) := by decide +kernel
theorem dX11_below_4 : decode cX11_below 4 = .ok (.lxor, 1) := by decide +kernel
theorem dX11_below_5 : decode cX11_below 5 = .ok (.lload_n 2, 1) := by decide +kernel
theorem dX11_below_6 : decode cX11_below 6 = .ok (.ldc2_w 973, 3) := by decide +kernel
theorem dX11_below_9 : decode cX11_below 9 = .ok (.lxor, 1) := by decide +kernel
theorem dX11_below_10 : decode cX11_below 10 = .ok (.lcmp, 1) := by decide +kernel
theorem dX11_below_11 : decode cX11_below 11 = .ok (.ifCond .ge 7, 3) := by decide +kernel
theorem dX11_below_14 : decode cX11_below 14 = .ok (.iconst 1, 1) := by decide +kernel
theorem dX11_below_15 : decode cX11_below 15 = .ok (.goto 4, 3) := by decide +kernel
theorem dX11_below_18 : decode cX11_below 18 = .ok (.iconst 0, 1) := by decide +kernel
theorem dX11_below_19 : decode cX11_below 19 = .ok (.ireturn, 1) := by decide +kernel
set_option maxRecDepth 100000 in
set_option maxHeartbeats 4000000 in
theorem c_X11_below (l : Launch) (D : va_G) (t : Nat → ClassId) (G : GE) (κ : CS) (a0 : Int64) (a2 : Int64) (post : Int32 → CS → Prop) (hw : F_X11_below G a0 a2 post κ) (sz : Nat) : CMi l D t yX11_below cX11_below 4 (some .boolean) 0 14 G κ sz [.long a0, .long a2] post := by
  refine c_go (by decide) (Nat.le_of_ble_eq_true rfl) ?_
  intro p e s m below meth c ls A hF hr hlk hin hAe hH hA hE hl
  unfold cB
  rw [hAe]
  clear hAe
  have hF : FX p m c cX11_below 4 s _ RX11 D t := hF
  have hx := hF.1.1
  have hb := hF.1.2.1
  have hl : lv_has ls 4 [(0, .long a0), (2, .long a2)] := hl
  unfold F_X11_below at hw
  refine lv_lload_n hx hb dX11_below_0 rfl (lv_at hl 0 rfl) ?_
  refine lv_ldc2 (v := (-9223372036854775808)) hx hb hF.1.2.2.2.1 (hF.1.2.2.2.2 _ (wc_18 25 rfl)) dX11_below_1 ?_
  refine lv_lxor hx hb dX11_below_4 ?_
  refine w_nml hw (fun z1 hw => ?_)
  refine lv_lload_n hx hb dX11_below_5 rfl (lv_at hl 1 rfl) ?_
  refine lv_ldc2 (v := (-9223372036854775808)) hx hb hF.1.2.2.2.1 (hF.1.2.2.2.2 _ (wc_18 25 rfl)) dX11_below_6 ?_
  refine lv_lxor hx hb dX11_below_9 ?_
  refine w_nml hw (fun z2 hw => ?_)
  obtain ⟨K5, hK6, hw⟩ := jc_open hw
  refine cw_join (K := K5) 19 (fun (x3 : Int32) => []) (fun (x3 : Int32) => [.int x3]) hl hH (fun x3 κ4 ls H locs cells slots hl hw hH => ?_) (fun jn7 => ?_)
  · have hw := hK6 x3 κ4 hw
    have hl : lv_has ls 4 [] := hl
    exact cw_retz hF hH ⟨rfl, rfl⟩ hr hlk dX11_below_19 hw
  · skip
    refine w_lif_ge (tgt := 18) hF dX11_below_10 dX11_below_11 rfl hw (fun hw => ?_) (fun hw => ?_)
    · refine lv_iconst (v := 0) hx hb dX11_below_18 (by decide) ?_
      have hl : lv_has ls 4 [] := lv_sub hl [] rfl
      exact jn7 0 κ ls _ _ _ _ hl hw hH
    · refine lv_iconst (v := 1) hx hb dX11_below_14 (by decide) ?_
      refine lv_goto (tgt := 19) hx hb dX11_below_15 rfl ?_
      have hl : lv_has ls 4 [] := lv_sub hl [] rfl
      exact jn7 1 κ ls _ _ _ _ hl hw hH
set_option maxRecDepth 100000 in
def F_X3_meets (G : GE) (h : Nat) (a1 : Int64) (a3 : Int64) (post : Int32 → CS → Prop) (κ : CS) : Prop := (h ∈ sL κ.1 ∧ sK κ.1 h = 9) ∧ ∀ z1 : Int64, z1 = sJ κ.1 h 2 → jc (fun (K4 : Unit → CS → Prop) => ((z1.toInt = (0 : Int64).toInt) → K4 () κ) ∧ ((¬ z1.toInt = (0 : Int64).toInt) → ((¬ a3.toInt = (0 : Int64).toInt) → ∀ z7 : Int64, z7 = a1 + a3 → ∀ z8 : Int64, z8 = z7 - 1 → F_X11_below G z8 a1 (fun (z10 : Int32) (κ9 : CS) => (h ∈ sL κ9.1 ∧ sK κ9.1 h = 9) ∧ ∀ z11 : Int64, z11 = sJ κ9.1 h 1 → (h ∈ sL κ9.1 ∧ sK κ9.1 h = 9) ∧ ∀ z12 : Int64, z12 = sJ κ9.1 h 2 → ∀ z13 : Int64, z13 = z11 + z12 → ∀ z14 : Int64, z14 = z13 - 1 → F_X11_below G z14 a1 (fun (z16 : Int32) (κ15 : CS) => jc (fun (K19 : Int32 → CS → Prop) => jc (fun (K24 : Unit → CS → Prop) => ((¬ z16.toInt = 0) → K24 () κ15) ∧ ((z16.toInt = 0) → jc (fun (K29 : Unit → CS → Prop) => ((¬ z10.toInt = 0) → K29 () κ15) ∧ ((z10.toInt = 0) → (h ∈ sL κ15.1 ∧ sK κ15.1 h = 9) ∧ ∀ z32 : Int64, z32 = sJ κ15.1 h 1 → F_X11_below G z8 z32 (fun (z34 : Int32) (κ33 : CS) => ((¬ z34.toInt = 0) → K24 () κ33) ∧ ((z34.toInt = 0) → K29 () κ33)) κ15)) (fun (x27 : Unit) (κ28 : CS) => K19 1 κ28))) (fun (x22 : Unit) (κ23 : CS) => K19 0 κ23)) (fun (x17 : Int32) (κ18 : CS) => (0 ≤ x17.toInt ∧ x17.toInt ≤ 1) ∧ post x17 κ18)) κ9) κ) ∧ ((a3.toInt = (0 : Int64).toInt) → K4 () κ))) (fun (x2 : Unit) (κ3 : CS) => (0 ≤ (0 : Int32).toInt ∧ (0 : Int32).toInt ≤ 1) ∧ post 0 κ3)
theorem dX3_meets_0 : decode cX3_meets 0 = .ok (.aload_n 0, 1) := by decide +kernel
theorem dX3_meets_1 : decode cX3_meets 1 = .ok (.getfield 17, 3) := by decide +kernel
theorem dX3_meets_4 : decode cX3_meets 4 = .ok (.lconst 0, 1) := by decide +kernel
theorem dX3_meets_5 : decode cX3_meets 5 = .ok (.lcmp, 1) := by decide +kernel
theorem dX3_meets_6 : decode cX3_meets 6 = .ok (.ifCond .eq 9, 3) := by decide +kernel
theorem dX3_meets_9 : decode cX3_meets 9 = .ok (.lload_n 3, 1) := by decide +kernel
theorem dX3_meets_10 : decode cX3_meets 10 = .ok (.lconst 0, 1) := by decide +kernel
theorem dX3_meets_11 : decode cX3_meets 11 = .ok (.lcmp, 1) := by decide +kernel
theorem dX3_meets_12 : decode cX3_meets 12 = .ok (.ifCond .ne 5, 3) := by decide +kernel
theorem dX3_meets_15 : decode cX3_meets 15 = .ok (.iconst 0, 1) := by decide +kernel
theorem dX3_meets_16 : decode cX3_meets 16 = .ok (.ireturn, 1) := by decide +kernel
theorem dX3_meets_17 : decode cX3_meets 17 = .ok (.lload_n 1, 1) := by decide +kernel
theorem dX3_meets_18 : decode cX3_meets 18 = .ok (.lload_n 3, 1) := by decide +kernel
theorem dX3_meets_19 : decode cX3_meets 19 = .ok (.ladd, 1) := by decide +kernel
theorem dX3_meets_20 : decode cX3_meets 20 = .ok (.lconst 1, 1) := by decide +kernel
theorem dX3_meets_21 : decode cX3_meets 21 = .ok (.lsub, 1) := by decide +kernel
theorem dX3_meets_22 : decode cX3_meets 22 = .ok (.lstore 5, 2) := by decide +kernel
theorem dX3_meets_24 : decode cX3_meets 24 = .ok (.lload 5, 2) := by decide +kernel
theorem dX3_meets_26 : decode cX3_meets 26 = .ok (.lload_n 1, 1) := by decide +kernel
theorem dX3_meets_27 : decode cX3_meets 27 = .ok (.invokestatic 24, 3) := by decide +kernel
theorem dX3_meets_30 : decode cX3_meets 30 = .ok (.istore 7, 2) := by decide +kernel
theorem dX3_meets_32 : decode cX3_meets 32 = .ok (.aload_n 0, 1) := by decide +kernel
theorem dX3_meets_33 : decode cX3_meets 33 = .ok (.getfield 13, 3) := by decide +kernel
theorem dX3_meets_36 : decode cX3_meets 36 = .ok (.aload_n 0, 1) := by decide +kernel
theorem dX3_meets_37 : decode cX3_meets 37 = .ok (.getfield 17, 3) := by decide +kernel
theorem dX3_meets_40 : decode cX3_meets 40 = .ok (.ladd, 1) := by decide +kernel
theorem dX3_meets_41 : decode cX3_meets 41 = .ok (.lconst 1, 1) := by decide +kernel
theorem dX3_meets_42 : decode cX3_meets 42 = .ok (.lsub, 1) := by decide +kernel
theorem dX3_meets_43 : decode cX3_meets 43 = .ok (.lload_n 1, 1) := by decide +kernel
theorem dX3_meets_44 : decode cX3_meets 44 = .ok (.invokestatic 24, 3) := by decide +kernel
theorem dX3_meets_47 : decode cX3_meets 47 = .ok (.ifCond .ne 24, 3) := by decide +kernel
theorem dX3_meets_50 : decode cX3_meets 50 = .ok (.iload 7, 2) := by decide +kernel
theorem dX3_meets_52 : decode cX3_meets 52 = .ok (.ifCond .ne 15, 3) := by decide +kernel
theorem dX3_meets_55 : decode cX3_meets 55 = .ok (.lload 5, 2) := by decide +kernel
theorem dX3_meets_57 : decode cX3_meets 57 = .ok (.aload_n 0, 1) := by decide +kernel
theorem dX3_meets_58 : decode cX3_meets 58 = .ok (.getfield 13, 3) := by decide +kernel
theorem dX3_meets_61 : decode cX3_meets 61 = .ok (.invokestatic 24, 3) := by decide +kernel
theorem dX3_meets_64 : decode cX3_meets 64 = .ok (.ifCond .ne 7, 3) := by decide +kernel
theorem dX3_meets_67 : decode cX3_meets 67 = .ok (.iconst 1, 1) := by decide +kernel
theorem dX3_meets_68 : decode cX3_meets 68 = .ok (.goto 4, 3) := by decide +kernel
theorem dX3_meets_71 : decode cX3_meets 71 = .ok (.iconst 0, 1) := by decide +kernel
theorem dX3_meets_72 : decode cX3_meets 72 = .ok (.ireturn, 1) := by decide +kernel
set_option maxRecDepth 100000 in
set_option maxHeartbeats 4000000 in
theorem c_X3_meets (l : Launch) (D : va_G) (t : Nat → ClassId) (G : GE) (κ : CS) (h : Nat) (a1 : Int64) (a3 : Int64) (post : Int32 → CS → Prop) (hw : F_X3_meets G h a1 a3 post κ) (sz : Nat) : CMi l D t yX3_meets cX3_meets 8 (some .boolean) 1 37 G κ sz [.ref h, .long a1, .long a3] post := by
  refine c_go (by decide) (Nat.le_of_ble_eq_true rfl) ?_
  intro p e s m below meth c ls A hF hr hlk hin hAe hH hA hE hl
  unfold cB
  rw [hAe]
  clear hAe
  have hF : FX p m c cX3_meets 8 s _ RX3 D t := hF
  have hx := hF.1.1
  have hb := hF.1.2.1
  have hl : lv_has ls 8 [(0, .ref h), (1, .long a1), (3, .long a3)] := hl
  unfold F_X3_meets at hw
  refine lv_aload_n hx hb dX3_meets_0 rfl (lv_at hl 0 rfl) ?_
  refine cw_getJr (a := h) hF hH fk_X3_17 dX3_meets_1 hw (fun z1 hw => ?_)
  refine lv_lconst (v := 0) hx hb dX3_meets_4 (by decide) ?_
  obtain ⟨K4, hK5, hw⟩ := jc_open hw
  refine cw_join (K := K4) 15 (fun (x2 : Unit) => []) (fun (x2 : Unit) => []) hl hH (fun x2 κ3 ls H locs cells slots hl hw hH => ?_) (fun jn6 => ?_)
  · have hw := hK5 x2 κ3 hw
    have hl : lv_has ls 8 [] := hl
    refine lv_iconst (v := 0) hx hb dX3_meets_15 (by decide) ?_
    exact cw_retz hF hH ⟨rfl, rfl⟩ hr hlk dX3_meets_16 hw
  · skip
    refine w_lif_eq (tgt := 15) hF dX3_meets_5 dX3_meets_6 rfl hw (fun hw => ?_) (fun hw => ?_)
    · have hl : lv_has ls 8 [] := lv_sub hl [] rfl
      exact jn6 () κ ls _ _ _ _ hl hw hH
    · refine lv_lload_n hx hb dX3_meets_9 rfl (lv_at hl 2 rfl) ?_
      refine lv_lconst (v := 0) hx hb dX3_meets_10 (by decide) ?_
      refine w_lif_ne (tgt := 17) hF dX3_meets_11 dX3_meets_12 rfl hw (fun hw => ?_) (fun hw => ?_)
      · refine lv_lload_n hx hb dX3_meets_17 rfl (lv_at hl 1 rfl) ?_
        refine lv_lload_n hx hb dX3_meets_18 rfl (lv_at hl 2 rfl) ?_
        refine lv_ladd hx hb dX3_meets_19 ?_
        refine w_nml hw (fun z7 hw => ?_)
        refine lv_lconst (v := 1) hx hb dX3_meets_20 (by decide) ?_
        refine lv_lsub hx hb dX3_meets_21 ?_
        refine w_nml hw (fun z8 hw => ?_)
        refine lv_lstore (lv' := [(5, .long z8), (0, .ref h), (1, .long a1), (3, .long a3)]) hx hb dX3_meets_22 hl (by decide) rfl (fun ls hl => ?_)
        refine lv_lload hx hb dX3_meets_24 (lv_at hl 0 rfl) ?_
        refine lv_lload_n hx hb dX3_meets_26 rfl (lv_at hl 2 rfl) ?_
        refine cw_cSiN (As := [.long z8, .long a1]) (rest := []) hF hH hA hE msn_X3_24 (fun sz => c_X11_below l D t G _ z8 a1 _ hw sz) dX3_meets_27 ⟨Nat.le_of_ble_eq_true rfl, Nat.le_of_ble_eq_true rfl⟩ rfl hl.1 (Nat.le_of_ble_eq_true rfl) rfl (fun z10 κ9 H locs cells slots hw hH => ?_)
        refine lv_istore (lv' := [(7, .int z10), (5, .long z8), (0, .ref h), (1, .long a1), (3, .long a3)]) hx hb dX3_meets_30 hl (by decide) rfl (fun ls hl => ?_)
        refine lv_aload_n hx hb dX3_meets_32 rfl (lv_at hl 2 rfl) ?_
        refine cw_getJr (a := h) hF hH fk_X3_13 dX3_meets_33 hw (fun z11 hw => ?_)
        refine lv_aload_n hx hb dX3_meets_36 rfl (lv_at hl 2 rfl) ?_
        refine cw_getJr (a := h) hF hH fk_X3_17 dX3_meets_37 hw (fun z12 hw => ?_)
        refine lv_ladd hx hb dX3_meets_40 ?_
        refine w_nml hw (fun z13 hw => ?_)
        refine lv_lconst (v := 1) hx hb dX3_meets_41 (by decide) ?_
        refine lv_lsub hx hb dX3_meets_42 ?_
        refine w_nml hw (fun z14 hw => ?_)
        refine lv_lload_n hx hb dX3_meets_43 rfl (lv_at hl 3 rfl) ?_
        refine cw_cSiN (As := [.long z14, .long a1]) (rest := []) hF hH hA hE msn_X3_24 (fun sz => c_X11_below l D t G _ z14 a1 _ hw sz) dX3_meets_44 ⟨Nat.le_of_ble_eq_true rfl, Nat.le_of_ble_eq_true rfl⟩ rfl hl.1 (Nat.le_of_ble_eq_true rfl) rfl (fun z16 κ15 H locs cells slots hw hH => ?_)
        obtain ⟨K19, hK20, hw⟩ := jc_open hw
        refine cw_join (K := K19) 72 (fun (x17 : Int32) => []) (fun (x17 : Int32) => [.int x17]) hl hH (fun x17 κ18 ls H locs cells slots hl hw hH => ?_) (fun jn21 => ?_)
        · have hw := hK20 x17 κ18 hw
          have hl : lv_has ls 8 [] := hl
          exact cw_retz hF hH ⟨rfl, rfl⟩ hr hlk dX3_meets_72 hw
        · skip
          obtain ⟨K24, hK25, hw⟩ := jc_open hw
          refine cw_join (K := K24) 71 (fun (x22 : Unit) => []) (fun (x22 : Unit) => []) hl hH (fun x22 κ23 ls H locs cells slots hl hw hH => ?_) (fun jn26 => ?_)
          · have hw := hK25 x22 κ23 hw
            have hl : lv_has ls 8 [] := hl
            refine lv_iconst (v := 0) hx hb dX3_meets_71 (by decide) ?_
            exact jn21 0 κ23 ls _ _ _ _ hl hw hH
          · skip
            refine w_if_ne (tgt := 71) hF dX3_meets_47 rfl hw (fun hw => ?_) (fun hw => ?_)
            · have hl : lv_has ls 8 [] := lv_sub hl [] rfl
              exact jn26 () κ15 ls _ _ _ _ hl hw hH
            · refine lv_iload hx hb dX3_meets_50 (lv_at hl 0 rfl) ?_
              obtain ⟨K29, hK30, hw⟩ := jc_open hw
              refine cw_join (K := K29) 67 (fun (x27 : Unit) => []) (fun (x27 : Unit) => []) hl hH (fun x27 κ28 ls H locs cells slots hl hw hH => ?_) (fun jn31 => ?_)
              · have hw := hK30 x27 κ28 hw
                have hl : lv_has ls 8 [] := hl
                refine lv_iconst (v := 1) hx hb dX3_meets_67 (by decide) ?_
                refine lv_goto (tgt := 72) hx hb dX3_meets_68 rfl ?_
                exact jn21 1 κ28 ls _ _ _ _ hl hw hH
              · skip
                refine w_if_ne (tgt := 67) hF dX3_meets_52 rfl hw (fun hw => ?_) (fun hw => ?_)
                · have hl : lv_has ls 8 [] := lv_sub hl [] rfl
                  exact jn31 () κ15 ls _ _ _ _ hl hw hH
                · refine lv_lload hx hb dX3_meets_55 (lv_at hl 1 rfl) ?_
                  refine lv_aload_n hx hb dX3_meets_57 rfl (lv_at hl 2 rfl) ?_
                  refine cw_getJr (a := h) hF hH fk_X3_13 dX3_meets_58 hw (fun z32 hw => ?_)
                  refine cw_cSiN (As := [.long z8, .long z32]) (rest := []) hF hH hA hE msn_X3_24 (fun sz => c_X11_below l D t G _ z8 z32 _ hw sz) dX3_meets_61 ⟨Nat.le_of_ble_eq_true rfl, Nat.le_of_ble_eq_true rfl⟩ rfl hl.1 (Nat.le_of_ble_eq_true rfl) rfl (fun z34 κ33 H locs cells slots hw hH => ?_)
                  refine w_if_ne (tgt := 71) hF dX3_meets_64 rfl hw (fun hw => ?_) (fun hw => ?_)
                  · have hl : lv_has ls 8 [] := lv_sub hl [] rfl
                    exact jn26 () κ33 ls _ _ _ _ hl hw hH
                  · have hl : lv_has ls 8 [] := lv_sub hl [] rfl
                    exact jn31 () κ33 ls _ _ _ _ hl hw hH
      · have hl : lv_has ls 8 [] := lv_sub hl [] rfl
        exact jn6 () κ ls _ _ _ _ hl hw hH
set_option maxRecDepth 100000 in
def F_X4_init (G : GE) (h : Nat) (a1 : Int32) (post : CS → Prop) (κ : CS) : Prop := (h ∈ sL κ.1 ∧ sK κ.1 h = 5) ∧ ∀ κ2 : CS, κ2 = (h_uI κ.1 h 4 (-1), κ.2) → (0 ≤ (12 : Int32).toInt ∧ (12 : Int32).toInt ≤ 1000000) ∧ ((12 : Int32).toInt.toNat + 12 ≤ κ2.2) ∧ ∀ o3 : Nat, o3 ∉ sL κ2.1 → ∀ κ4 : CS, κ4 = (h_uN κ2.1 o3 20 (12 : Int32).toInt.toNat, κ2.2 - ((12 : Int32).toInt.toNat + 12)) → (h ∈ sL κ4.1 ∧ sK κ4.1 h = 5) ∧ ∀ κ5 : CS, κ5 = (h_uP κ4.1 h 5 (some o3), κ4.2) → (0 ≤ (0 : Int32).toInt ∧ (0 : Int32).toInt ≤ 1000000) ∧ ((0 : Int32).toInt.toNat + 12 ≤ κ5.2) ∧ ∀ o6 : Nat, o6 ∉ sL κ5.1 → ∀ κ7 : CS, κ7 = (h_uN κ5.1 o6 20 (0 : Int32).toInt.toNat, κ5.2 - ((0 : Int32).toInt.toNat + 12)) → (h ∈ sL κ7.1 ∧ sK κ7.1 h = 5) ∧ ∀ κ8 : CS, κ8 = (h_uP κ7.1 h 13 (some o6), κ7.2) → (h ∈ sL κ8.1 ∧ sK κ8.1 h = 5) ∧ ∀ κ9 : CS, κ9 = (h_uI κ8.1 h 0 a1, κ8.2) → post κ9
theorem dX4_init_0 : decode cX4_init 0 = .ok (.aload_n 0, 1) := by decide +kernel
theorem dX4_init_1 : decode cX4_init 1 = .ok (.invokespecial 3, 3) := by decide +kernel
theorem dX4_init_4 : decode cX4_init 4 = .ok (.aload_n 0, 1) := by decide +kernel
theorem dX4_init_5 : decode cX4_init 5 = .ok (.iconst (-1), 1) := by decide +kernel
theorem dX4_init_6 : decode cX4_init 6 = .ok (.putfield 9, 3) := by decide +kernel
theorem dX4_init_9 : decode cX4_init 9 = .ok (.aload_n 0, 1) := by decide +kernel
theorem dX4_init_10 : decode cX4_init 10 = .ok (.bipush 12, 2) := by decide +kernel
theorem dX4_init_12 : decode cX4_init 12 = .ok (.newarray .byte, 2) := by decide +kernel
theorem dX4_init_14 : decode cX4_init 14 = .ok (.putfield 15, 3) := by decide +kernel
theorem dX4_init_17 : decode cX4_init 17 = .ok (.aload_n 0, 1) := by decide +kernel
theorem dX4_init_18 : decode cX4_init 18 = .ok (.iconst 0, 1) := by decide +kernel
theorem dX4_init_19 : decode cX4_init 19 = .ok (.newarray .byte, 2) := by decide +kernel
theorem dX4_init_21 : decode cX4_init 21 = .ok (.putfield 19, 3) := by decide +kernel
theorem dX4_init_24 : decode cX4_init 24 = .ok (.aload_n 0, 1) := by decide +kernel
theorem dX4_init_25 : decode cX4_init 25 = .ok (.iload_n 1, 1) := by decide +kernel
theorem dX4_init_26 : decode cX4_init 26 = .ok (.putfield 22, 3) := by decide +kernel
theorem dX4_init_29 : decode cX4_init 29 = .ok (.return_, 1) := by decide +kernel
set_option maxRecDepth 100000 in
set_option maxHeartbeats 4000000 in
theorem c_X4_init (l : Launch) (D : va_G) (t : Nat → ClassId) (G : GE) (κ : CS) (h : Nat) (a1 : Int32) (post : CS → Prop) (hw : F_X4_init G h a1 post κ) (sz : Nat) : CMv l D t yX4_init cX4_init 2 1 30 G κ sz [.ref h, .int a1] post := by
  refine c_go (by decide) (Nat.le_of_ble_eq_true rfl) ?_
  intro p e s m below meth c ls A hF hr hlk hin hAe hH hA hE hl
  unfold cB
  rw [hAe]
  clear hAe
  have hF : FX p m c cX4_init 2 s _ RX4 D t := hF
  have hx := hF.1.1
  have hb := hF.1.2.1
  have hl : lv_has ls 2 [(0, .ref h), (1, .int a1)] := hl
  unfold F_X4_init at hw
  refine lv_aload_n hx hb dX4_init_0 rfl (lv_at hl 0 rfl) ?_
  refine W.objInit hx hb hF.1.2.2.2.1 (hF.1.2.2.2.2 _ (wc_6 4 rfl)) (hF.1.2.2.2.2 _ (wc_5 1 rfl)) (hF.1.2.2.2.2 _ (wc_5 0 rfl)) rfl (hl.1.trans hF.1.2.2.1.symm) rfl dX4_init_1 (Nat.le_of_ble_eq_true rfl) (Nat.le_of_ble_eq_true rfl) ?_
  refine lv_aload_n hx hb dX4_init_4 rfl (lv_at hl 0 rfl) ?_
  refine lv_iconst (v := (-1)) hx hb dX4_init_5 (by decide) ?_
  refine cw_putIr (a := h) (v := (-1)) hF hH fk_X4_9 dX4_init_6 rfl rfl rfl hw (fun κ2 H locs cells slots hw hH => ?_)
  refine lv_aload_n hx hb dX4_init_9 rfl (lv_at hl 0 rfl) ?_
  refine lv_bipush (v := 12) hx hb dX4_init_10 (by decide) ?_
  refine cw_newarr_byte hF hH hA (wc_5 11 rfl) dX4_init_12 hw (fun o3 κ4 H locs cells slots hw hH => ?_)
  refine cw_putFP (a := h) (v := (some o3)) hF hH fk_X4_15 dX4_init_14 hin rfl rfl rfl hw (fun κ5 H locs cells slots hw hH => ?_)
  refine lv_aload_n hx hb dX4_init_17 rfl (lv_at hl 0 rfl) ?_
  refine lv_iconst (v := 0) hx hb dX4_init_18 (by decide) ?_
  refine cw_newarr_byte hF hH hA (wc_5 11 rfl) dX4_init_19 hw (fun o6 κ7 H locs cells slots hw hH => ?_)
  refine cw_putPr (a := h) (v := (some o6)) hF hH fk_X4_19 dX4_init_21 rfl rfl hw (fun κ8 H locs cells slots hw hH => ?_)
  refine lv_aload_n hx hb dX4_init_24 rfl (lv_at hl 0 rfl) ?_
  refine lv_iload_n hx hb dX4_init_25 rfl (lv_at hl 1 rfl) ?_
  refine cw_putFI (a := h) (v := a1) hF hH fk_X4_22 dX4_init_26 hin rfl rfl rfl rfl hw (fun κ9 H locs cells slots hw hH => ?_)
  exact cw_retv hF hH ⟨rfl, rfl⟩ hr hlk dX4_init_29 hw
set_option maxRecDepth 100000 in
def F_X4_toldAttributes (G : GE) (h : Nat) (post : Int32 → CS → Prop) (κ : CS) : Prop := (h ∈ sL κ.1 ∧ sK κ.1 h = 5) ∧ ∀ z1 : Int32, z1 = sI κ.1 h 7 → (h ∈ sL κ.1 ∧ sK κ.1 h = 5) ∧ ∀ z2 : Int32, z2 = sI κ.1 h 2 → jc (fun (K5 : Int32 → CS → Prop) => ((z2.toInt = 0) → K5 0 κ) ∧ ((¬ z2.toInt = 0) → K5 16 κ)) (fun (x3 : Int32) (κ4 : CS) => ∀ z8 : Int32, z8 = z1 ||| x3 → jc (fun (K11 : Int32 → CS → Prop) => ((¬ z8.toInt = 0) → K11 z8 κ4) ∧ ((z8.toInt = 0) → K11 128 κ4)) (fun (x9 : Int32) (κ10 : CS) => post x9 κ10))
theorem dX4_toldAttributes_0 : decode cX4_toldAttributes 0 = .ok (.aload_n 0, 1) := by decide +kernel
theorem dX4_toldAttributes_1 : decode cX4_toldAttributes 1 = .ok (.getfield 25, 3) := by decide +kernel
theorem dX4_toldAttributes_4 : decode cX4_toldAttributes 4 = .ok (.aload_n 0, 1) := by decide +kernel
theorem dX4_toldAttributes_5 : decode cX4_toldAttributes 5 = .ok (.getfield 28, 3) := by decide +kernel
theorem dX4_toldAttributes_8 : decode cX4_toldAttributes 8 = .ok (.ifCond .eq 8, 3) := by decide +kernel
theorem dX4_toldAttributes_11 : decode cX4_toldAttributes 11 = .ok (.bipush 16, 2) := by decide +kernel
theorem dX4_toldAttributes_13 : decode cX4_toldAttributes 13 = .ok (.goto 4, 3) := by decide +kernel
theorem dX4_toldAttributes_16 : decode cX4_toldAttributes 16 = .ok (.iconst 0, 1) := by decide +kernel
theorem dX4_toldAttributes_17 : decode cX4_toldAttributes 17 = .ok (.ior, 1) := by decide +kernel
theorem dX4_toldAttributes_18 : decode cX4_toldAttributes 18 = .ok (.istore_n 1, 1) := by decide +kernel
theorem dX4_toldAttributes_19 : decode cX4_toldAttributes 19 = .ok (.iload_n 1, 1) := by decide +kernel
theorem dX4_toldAttributes_20 : decode cX4_toldAttributes 20 = .ok (.ifCond .ne 9, 3) := by decide +kernel
theorem dX4_toldAttributes_23 : decode cX4_toldAttributes 23 = .ok (.sipush 128, 3) := by decide +kernel
theorem dX4_toldAttributes_26 : decode cX4_toldAttributes 26 = .ok (.goto 4, 3) := by decide +kernel
theorem dX4_toldAttributes_29 : decode cX4_toldAttributes 29 = .ok (.iload_n 1, 1) := by decide +kernel
theorem dX4_toldAttributes_30 : decode cX4_toldAttributes 30 = .ok (.ireturn, 1) := by decide +kernel
set_option maxRecDepth 100000 in
set_option maxHeartbeats 4000000 in
theorem c_X4_toldAttributes (l : Launch) (D : va_G) (t : Nat → ClassId) (G : GE) (κ : CS) (h : Nat) (post : Int32 → CS → Prop) (hw : F_X4_toldAttributes G h post κ) (sz : Nat) : CMi l D t yX4_toldAttributes cX4_toldAttributes 2 (some .int) 0 14 G κ sz [.ref h] post := by
  refine c_go (by decide) (Nat.le_of_ble_eq_true rfl) ?_
  intro p e s m below meth c ls A hF hr hlk hin hAe hH hA hE hl
  unfold cB
  rw [hAe]
  clear hAe
  have hF : FX p m c cX4_toldAttributes 2 s _ RX4 D t := hF
  have hx := hF.1.1
  have hb := hF.1.2.1
  have hl : lv_has ls 2 [(0, .ref h)] := hl
  unfold F_X4_toldAttributes at hw
  refine lv_aload_n hx hb dX4_toldAttributes_0 rfl (lv_at hl 0 rfl) ?_
  refine cw_getIr (a := h) hF hH fk_X4_25 dX4_toldAttributes_1 hw (fun z1 hw => ?_)
  refine lv_aload_n hx hb dX4_toldAttributes_4 rfl (lv_at hl 0 rfl) ?_
  refine cw_getIr (a := h) hF hH fk_X4_28 dX4_toldAttributes_5 hw (fun z2 hw => ?_)
  obtain ⟨K5, hK6, hw⟩ := jc_open hw
  refine cw_join (K := K5) 17 (fun (x3 : Int32) => []) (fun (x3 : Int32) => [.int x3, .int z1]) hl hH (fun x3 κ4 ls H locs cells slots hl hw hH => ?_) (fun jn7 => ?_)
  · have hw := hK6 x3 κ4 hw
    have hl : lv_has ls 2 [] := hl
    refine lv_ior hx hb dX4_toldAttributes_17 ?_
    refine w_nmi hw (fun z8 hw => ?_)
    refine lv_istore_n (lv' := [(1, .int z8)]) hx hb dX4_toldAttributes_18 rfl hl (by decide) rfl (fun ls hl => ?_)
    refine lv_iload_n hx hb dX4_toldAttributes_19 rfl (lv_at hl 0 rfl) ?_
    obtain ⟨K11, hK12, hw⟩ := jc_open hw
    refine cw_join (K := K11) 30 (fun (x9 : Int32) => []) (fun (x9 : Int32) => [.int x9]) hl hH (fun x9 κ10 ls H locs cells slots hl hw hH => ?_) (fun jn13 => ?_)
    · have hw := hK12 x9 κ10 hw
      have hl : lv_has ls 2 [] := hl
      exact cw_reti hF hH ⟨rfl, rfl⟩ hr rfl hlk dX4_toldAttributes_30 hw
    · skip
      refine w_if_ne (tgt := 29) hF dX4_toldAttributes_20 rfl hw (fun hw => ?_) (fun hw => ?_)
      · refine lv_iload_n hx hb dX4_toldAttributes_29 rfl (lv_at hl 0 rfl) ?_
        have hl : lv_has ls 2 [] := lv_sub hl [] rfl
        exact jn13 z8 κ4 ls _ _ _ _ hl hw hH
      · refine lv_sipush (v := 128) hx hb dX4_toldAttributes_23 (by decide) ?_
        refine lv_goto (tgt := 30) hx hb dX4_toldAttributes_26 rfl ?_
        have hl : lv_has ls 2 [] := lv_sub hl [] rfl
        exact jn13 128 κ4 ls _ _ _ _ hl hw hH
  · skip
    refine w_if_eq (tgt := 16) hF dX4_toldAttributes_8 rfl hw (fun hw => ?_) (fun hw => ?_)
    · refine lv_iconst (v := 0) hx hb dX4_toldAttributes_16 (by decide) ?_
      have hl : lv_has ls 2 [] := lv_sub hl [] rfl
      exact jn7 0 κ ls _ _ _ _ hl hw hH
    · refine lv_bipush (v := 16) hx hb dX4_toldAttributes_11 (by decide) ?_
      refine lv_goto (tgt := 17) hx hb dX4_toldAttributes_13 rfl ?_
      have hl : lv_has ls 2 [] := lv_sub hl [] rfl
      exact jn7 16 κ ls _ _ _ _ hl hw hH
set_option maxRecDepth 100000 in
def F_X4_room (G : GE) (h : Nat) (post : Int32 → CS → Prop) (κ : CS) : Prop := (h ∈ sL κ.1 ∧ sK κ.1 h = 5) ∧ ∀ z1 : Int32, z1 = sI κ.1 h 12 → ∀ z2 : Int32, z2 = z1 + 511 → (h ∈ sL κ.1 ∧ sK κ.1 h = 5) ∧ ∀ z3 : Int32, z3 = sI κ.1 h 12 → ∀ z4 : Int32, z4 = z3 + 511 → ∀ z5 : Int32, z5 = z4 - z4 / 512 * 512 → ∀ z6 : Int32, z6 = z2 - z5 → post z6 κ
theorem dX4_room_0 : decode cX4_room 0 = .ok (.aload_n 0, 1) := by decide +kernel
theorem dX4_room_1 : decode cX4_room 1 = .ok (.getfield 32, 3) := by decide +kernel
theorem dX4_room_4 : decode cX4_room 4 = .ok (.sipush 511, 3) := by decide +kernel
theorem dX4_room_7 : decode cX4_room 7 = .ok (.iadd, 1) := by decide +kernel
theorem dX4_room_8 : decode cX4_room 8 = .ok (.aload_n 0, 1) := by decide +kernel
theorem dX4_room_9 : decode cX4_room 9 = .ok (.getfield 32, 3) := by decide +kernel
theorem dX4_room_12 : decode cX4_room 12 = .ok (.sipush 511, 3) := by decide +kernel
theorem dX4_room_15 : decode cX4_room 15 = .ok (.iadd, 1) := by decide +kernel
theorem dX4_room_16 : decode cX4_room 16 = .ok (.sipush 512, 3) := by decide +kernel
theorem dX4_room_19 : decode cX4_room 19 = .ok (.irem, 1) := by decide +kernel
theorem dX4_room_20 : decode cX4_room 20 = .ok (.isub, 1) := by decide +kernel
theorem dX4_room_21 : decode cX4_room 21 = .ok (.ireturn, 1) := by decide +kernel
set_option maxRecDepth 100000 in
set_option maxHeartbeats 4000000 in
theorem c_X4_room (l : Launch) (D : va_G) (t : Nat → ClassId) (G : GE) (κ : CS) (h : Nat) (post : Int32 → CS → Prop) (hw : F_X4_room G h post κ) (sz : Nat) : CMi l D t yX4_room cX4_room 1 (some .int) 0 14 G κ sz [.ref h] post := by
  refine c_go (by decide) (Nat.le_of_ble_eq_true rfl) ?_
  intro p e s m below meth c ls A hF hr hlk hin hAe hH hA hE hl
  unfold cB
  rw [hAe]
  clear hAe
  have hF : FX p m c cX4_room 1 s _ RX4 D t := hF
  have hx := hF.1.1
  have hb := hF.1.2.1
  have hl : lv_has ls 1 [(0, .ref h)] := hl
  unfold F_X4_room at hw
  refine lv_aload_n hx hb dX4_room_0 rfl (lv_at hl 0 rfl) ?_
  refine cw_getIr (a := h) hF hH fk_X4_32 dX4_room_1 hw (fun z1 hw => ?_)
  refine lv_sipush (v := 511) hx hb dX4_room_4 (by decide) ?_
  refine lv_iadd hx hb dX4_room_7 ?_
  refine w_nmi hw (fun z2 hw => ?_)
  refine lv_aload_n hx hb dX4_room_8 rfl (lv_at hl 0 rfl) ?_
  refine cw_getIr (a := h) hF hH fk_X4_32 dX4_room_9 hw (fun z3 hw => ?_)
  refine lv_sipush (v := 511) hx hb dX4_room_12 (by decide) ?_
  refine lv_iadd hx hb dX4_room_15 ?_
  refine w_nmi hw (fun z4 hw => ?_)
  refine lv_sipush (v := 512) hx hb dX4_room_16 (by decide) ?_
  refine lv_irem hx hb dX4_room_19 (by decide) ?_
  refine w_nmi hw (fun z5 hw => ?_)
  refine lv_isub hx hb dX4_room_20 ?_
  refine w_nmi hw (fun z6 hw => ?_)
  exact cw_reti hF hH ⟨rfl, rfl⟩ hr rfl hlk dX4_room_21 hw
set_option maxRecDepth 100000 in
def F_X4_byteAt (G : GE) (h : Nat) (a1 : Int32) (post : Int32 → CS → Prop) (κ : CS) : Prop := jc (fun (K3 : Int32 → CS → Prop) => jc (fun (K8 : Unit → CS → Prop) => ((a1.toInt < 0) → K8 () κ) ∧ ((0 ≤ a1.toInt) → (h ∈ sL κ.1 ∧ sK κ.1 h = 5) ∧ ∀ z11 : Int32, z11 = sI κ.1 h 12 → ((z11.toInt ≤ a1.toInt) → K8 () κ) ∧ ((a1.toInt < z11.toInt) → (h ∈ sL κ.1 ∧ sK κ.1 h = 5) ∧ ∀ z12 : Option Nat, z12 = sP κ.1 h 13 → ∃ n : Nat, AL G κ z12 n ∧ ∀ z13 : Int32, z13 = nI n → ((z13.toInt ≤ a1.toInt) → K8 () κ) ∧ ((a1.toInt < z13.toInt) → (h ∈ sL κ.1 ∧ sK κ.1 h = 5) ∧ ∀ z14 : Option Nat, z14 = sP κ.1 h 13 → ∃ (f : Nat → Int32) (n : Nat), BA G κ z14 f n ∧ (0 ≤ a1.toInt ∧ a1.toInt < (n : Int)) ∧ ∀ z15 : Int32, z15 = f a1.toInt.toNat → K3 z15 κ)))) (fun (x6 : Unit) (κ7 : CS) => K3 0 κ7)) (fun (x1 : Int32) (κ2 : CS) => post x1 κ2)
theorem dX4_byteAt_0 : decode cX4_byteAt 0 = .ok (.iload_n 1, 1) := by decide +kernel
theorem dX4_byteAt_1 : decode cX4_byteAt 1 = .ok (.ifCond .lt 29, 3) := by decide +kernel
theorem dX4_byteAt_4 : decode cX4_byteAt 4 = .ok (.iload_n 1, 1) := by decide +kernel
theorem dX4_byteAt_5 : decode cX4_byteAt 5 = .ok (.aload_n 0, 1) := by decide +kernel
theorem dX4_byteAt_6 : decode cX4_byteAt 6 = .ok (.getfield 32, 3) := by decide +kernel
theorem dX4_byteAt_9 : decode cX4_byteAt 9 = .ok (.if_icmp .ge 21, 3) := by decide +kernel
theorem dX4_byteAt_12 : decode cX4_byteAt 12 = .ok (.iload_n 1, 1) := by decide +kernel
theorem dX4_byteAt_13 : decode cX4_byteAt 13 = .ok (.aload_n 0, 1) := by decide +kernel
theorem dX4_byteAt_14 : decode cX4_byteAt 14 = .ok (.getfield 19, 3) := by decide +kernel
theorem dX4_byteAt_17 : decode cX4_byteAt 17 = .ok (.arraylength, 1) := by decide +kernel
theorem dX4_byteAt_18 : decode cX4_byteAt 18 = .ok (.if_icmp .ge 12, 3) := by decide +kernel
theorem dX4_byteAt_21 : decode cX4_byteAt 21 = .ok (.aload_n 0, 1) := by decide +kernel
theorem dX4_byteAt_22 : decode cX4_byteAt 22 = .ok (.getfield 19, 3) := by decide +kernel
theorem dX4_byteAt_25 : decode cX4_byteAt 25 = .ok (.iload_n 1, 1) := by decide +kernel
theorem dX4_byteAt_26 : decode cX4_byteAt 26 = .ok (.baload, 1) := by decide +kernel
theorem dX4_byteAt_27 : decode cX4_byteAt 27 = .ok (.goto 4, 3) := by decide +kernel
theorem dX4_byteAt_30 : decode cX4_byteAt 30 = .ok (.iconst 0, 1) := by decide +kernel
theorem dX4_byteAt_31 : decode cX4_byteAt 31 = .ok (.ireturn, 1) := by decide +kernel
set_option maxRecDepth 100000 in
set_option maxHeartbeats 4000000 in
theorem c_X4_byteAt (l : Launch) (D : va_G) (t : Nat → ClassId) (G : GE) (κ : CS) (h : Nat) (a1 : Int32) (post : Int32 → CS → Prop) (hw : F_X4_byteAt G h a1 post κ) (sz : Nat) : CMi l D t yX4_byteAt cX4_byteAt 2 (some .int) 0 14 G κ sz [.ref h, .int a1] post := by
  refine c_go (by decide) (Nat.le_of_ble_eq_true rfl) ?_
  intro p e s m below meth c ls A hF hr hlk hin hAe hH hA hE hl
  unfold cB
  rw [hAe]
  clear hAe
  have hF : FX p m c cX4_byteAt 2 s _ RX4 D t := hF
  have hx := hF.1.1
  have hb := hF.1.2.1
  have hl : lv_has ls 2 [(0, .ref h), (1, .int a1)] := hl
  unfold F_X4_byteAt at hw
  refine lv_iload_n hx hb dX4_byteAt_0 rfl (lv_at hl 1 rfl) ?_
  obtain ⟨K3, hK4, hw⟩ := jc_open hw
  refine cw_join (K := K3) 31 (fun (x1 : Int32) => []) (fun (x1 : Int32) => [.int x1]) hl hH (fun x1 κ2 ls H locs cells slots hl hw hH => ?_) (fun jn5 => ?_)
  · have hw := hK4 x1 κ2 hw
    have hl : lv_has ls 2 [] := hl
    exact cw_reti hF hH ⟨rfl, rfl⟩ hr rfl hlk dX4_byteAt_31 hw
  · skip
    obtain ⟨K8, hK9, hw⟩ := jc_open hw
    refine cw_join (K := K8) 30 (fun (x6 : Unit) => []) (fun (x6 : Unit) => []) hl hH (fun x6 κ7 ls H locs cells slots hl hw hH => ?_) (fun jn10 => ?_)
    · have hw := hK9 x6 κ7 hw
      have hl : lv_has ls 2 [] := hl
      refine lv_iconst (v := 0) hx hb dX4_byteAt_30 (by decide) ?_
      exact jn5 0 κ7 ls _ _ _ _ hl hw hH
    · skip
      refine w_if_lt (tgt := 30) hF dX4_byteAt_1 rfl hw (fun hw => ?_) (fun hw => ?_)
      · have hl : lv_has ls 2 [] := lv_sub hl [] rfl
        exact jn10 () κ ls _ _ _ _ hl hw hH
      · refine lv_iload_n hx hb dX4_byteAt_4 rfl (lv_at hl 1 rfl) ?_
        refine lv_aload_n hx hb dX4_byteAt_5 rfl (lv_at hl 0 rfl) ?_
        refine cw_getIr (a := h) hF hH fk_X4_32 dX4_byteAt_6 hw (fun z11 hw => ?_)
        refine w_icmp_ge (tgt := 30) hF dX4_byteAt_9 rfl hw (fun hw => ?_) (fun hw => ?_)
        · have hl : lv_has ls 2 [] := lv_sub hl [] rfl
          exact jn10 () κ ls _ _ _ _ hl hw hH
        · refine lv_iload_n hx hb dX4_byteAt_12 rfl (lv_at hl 1 rfl) ?_
          refine lv_aload_n hx hb dX4_byteAt_13 rfl (lv_at hl 0 rfl) ?_
          refine cw_getPr (a := h) hF hH fk_X4_19 dX4_byteAt_14 hw (fun z12 hw => ?_)
          refine cw_alen (q := z12) hF hH hE dX4_byteAt_17 hw (fun z13 hw => ?_)
          refine w_icmp_ge (tgt := 30) hF dX4_byteAt_18 rfl hw (fun hw => ?_) (fun hw => ?_)
          · have hl : lv_has ls 2 [] := lv_sub hl [] rfl
            exact jn10 () κ ls _ _ _ _ hl hw hH
          · refine lv_aload_n hx hb dX4_byteAt_21 rfl (lv_at hl 0 rfl) ?_
            refine cw_getPr (a := h) hF hH fk_X4_19 dX4_byteAt_22 hw (fun z14 hw => ?_)
            refine lv_iload_n hx hb dX4_byteAt_25 rfl (lv_at hl 1 rfl) ?_
            refine cw_bald (q := z14) hF hH hE dX4_byteAt_26 hw (fun z15 hw => ?_)
            refine lv_goto (tgt := 31) hx hb dX4_byteAt_27 rfl ?_
            have hl : lv_has ls 2 [] := lv_sub hl [] rfl
            exact jn5 z15 κ ls _ _ _ _ hl hw hH
set_option maxRecDepth 100000 in
def F_X6_put (G : GE) (h : Nat) (a1 : Int32) (a2 : Int32) (a3 : Int64) (post : CS → Prop) (κ : CS) : Prop := lc (fun (K3 : Int32 → CS → Prop) (x1 : Int32) (κ2 : CS) => ((a2.toInt ≤ x1.toInt) → post κ2) ∧ ((x1.toInt < a2.toInt) → ∀ z5 : Int32, z5 = a1 + x1 → jc (fun (K8 : Unit → CS → Prop) => ((z5.toInt < 0) → K8 () κ2) ∧ ((0 ≤ z5.toInt) → (h ∈ sL κ2.1 ∧ sK κ2.1 h = 2) ∧ ∀ z12 : Int32, z12 = sI κ2.1 h 1 → ((z12.toInt ≤ z5.toInt) → K8 () κ2) ∧ ((z5.toInt < z12.toInt) → (h ∈ sL κ2.1 ∧ sK κ2.1 h = 2) ∧ ∀ z13 : Option Nat, z13 = sP κ2.1 h 0 → ∃ n : Nat, AL G κ2 z13 n ∧ ∀ z14 : Int32, z14 = nI n → ((z14.toInt ≤ z5.toInt) → K8 () κ2) ∧ ((z5.toInt < z14.toInt) → (h ∈ sL κ2.1 ∧ sK κ2.1 h = 2) ∧ ∀ z15 : Option Nat, z15 = sP κ2.1 h 0 → ∀ z16 : Int32, z16 = 8 * x1 → ∀ z17 : Int64, z17 = a3 >>> ((z16 : Int32).toInt64 &&& 63) → ∀ z18 : Int32, z18 = (z17 : Int64).toInt32 → ∀ z19 : Int32, z19 = (z18 : Int32).toInt8.toInt32 → ∃ b : Nat, z15 = some b ∧ (b ∈ sL κ2.1 ∧ sK κ2.1 b = 20) ∧ (0 ≤ z5.toInt ∧ z5.toInt < (sN κ2.1 b : Int)) ∧ ∀ κ20 : CS, κ20 = (h_uI κ2.1 b z5.toInt.toNat (vp_nar .byte z19), κ2.2) → K8 () κ20)))) (fun (x6 : Unit) (κ7 : CS) => ∀ z11 : Int32, z11 = x1 + 1 → K3 z11 κ7))) 0 κ
theorem dX6_put_0 : decode cX6_put 0 = .ok (.iconst 0, 1) := by decide +kernel
theorem dX6_put_1 : decode cX6_put 1 = .ok (.istore 5, 2) := by decide +kernel
theorem dX6_put_3 : decode cX6_put 3 = .ok (.iload 5, 2) := by decide +kernel
theorem dX6_put_5 : decode cX6_put 5 = .ok (.iload_n 2, 1) := by decide +kernel
theorem dX6_put_6 : decode cX6_put 6 = .ok (.if_icmp .ge 55, 3) := by decide +kernel
theorem dX6_put_9 : decode cX6_put 9 = .ok (.iload_n 1, 1) := by decide +kernel
theorem dX6_put_10 : decode cX6_put 10 = .ok (.iload 5, 2) := by decide +kernel
theorem dX6_put_12 : decode cX6_put 12 = .ok (.iadd, 1) := by decide +kernel
theorem dX6_put_13 : decode cX6_put 13 = .ok (.istore 6, 2) := by decide +kernel
theorem dX6_put_15 : decode cX6_put 15 = .ok (.iload 6, 2) := by decide +kernel
theorem dX6_put_17 : decode cX6_put 17 = .ok (.ifCond .lt 38, 3) := by decide +kernel
theorem dX6_put_20 : decode cX6_put 20 = .ok (.iload 6, 2) := by decide +kernel
theorem dX6_put_22 : decode cX6_put 22 = .ok (.aload_n 0, 1) := by decide +kernel
theorem dX6_put_23 : decode cX6_put 23 = .ok (.getfield 25, 3) := by decide +kernel
theorem dX6_put_26 : decode cX6_put 26 = .ok (.if_icmp .ge 29, 3) := by decide +kernel
theorem dX6_put_29 : decode cX6_put 29 = .ok (.iload 6, 2) := by decide +kernel
theorem dX6_put_31 : decode cX6_put 31 = .ok (.aload_n 0, 1) := by decide +kernel
theorem dX6_put_32 : decode cX6_put 32 = .ok (.getfield 7, 3) := by decide +kernel
theorem dX6_put_35 : decode cX6_put 35 = .ok (.arraylength, 1) := by decide +kernel
theorem dX6_put_36 : decode cX6_put 36 = .ok (.if_icmp .ge 19, 3) := by decide +kernel
theorem dX6_put_39 : decode cX6_put 39 = .ok (.aload_n 0, 1) := by decide +kernel
theorem dX6_put_40 : decode cX6_put 40 = .ok (.getfield 7, 3) := by decide +kernel
theorem dX6_put_43 : decode cX6_put 43 = .ok (.iload 6, 2) := by decide +kernel
theorem dX6_put_45 : decode cX6_put 45 = .ok (.lload_n 3, 1) := by decide +kernel
theorem dX6_put_46 : decode cX6_put 46 = .ok (.bipush 8, 2) := by decide +kernel
theorem dX6_put_48 : decode cX6_put 48 = .ok (.iload 5, 2) := by decide +kernel
theorem dX6_put_50 : decode cX6_put 50 = .ok (.imul, 1) := by decide +kernel
theorem dX6_put_51 : decode cX6_put 51 = .ok (.lshr, 1) := by decide +kernel
theorem dX6_put_52 : decode cX6_put 52 = .ok (.l2i, 1) := by decide +kernel
theorem dX6_put_53 : decode cX6_put 53 = .ok (.i2b, 1) := by decide +kernel
theorem dX6_put_54 : decode cX6_put 54 = .ok (.bastore, 1) := by decide +kernel
theorem dX6_put_55 : decode cX6_put 55 = .ok (.iinc 5 1, 3) := by decide +kernel
theorem dX6_put_58 : decode cX6_put 58 = .ok (.goto (-55), 3) := by decide +kernel
theorem dX6_put_61 : decode cX6_put 61 = .ok (.return_, 1) := by decide +kernel
set_option maxRecDepth 100000 in
set_option maxHeartbeats 4000000 in
theorem c_X6_put (l : Launch) (D : va_G) (t : Nat → ClassId) (G : GE) (κ : CS) (h : Nat) (a1 : Int32) (a2 : Int32) (a3 : Int64) (post : CS → Prop) (hw : F_X6_put G h a1 a2 a3 post κ) (sz : Nat) : CMv l D t yX6_put cX6_put 7 0 14 G κ sz [.ref h, .int a1, .int a2, .long a3] post := by
  refine c_go (by decide) (Nat.le_of_ble_eq_true rfl) ?_
  intro p e s m below meth c ls A hF hr hlk hin hAe hH hA hE hl
  unfold cB
  rw [hAe]
  clear hAe
  have hF : FX p m c cX6_put 7 s _ RX6 D t := hF
  have hx := hF.1.1
  have hb := hF.1.2.1
  have hl : lv_has ls 7 [(0, .ref h), (1, .int a1), (2, .int a2), (3, .long a3)] := hl
  unfold F_X6_put at hw
  refine lv_iconst (v := 0) hx hb dX6_put_0 (by decide) ?_
  refine lv_istore (lv' := [(5, .int 0), (0, .ref h), (1, .int a1), (2, .int a2), (3, .long a3)]) hx hb dX6_put_1 hl (by decide) rfl (fun ls hl => ?_)
  have hl : lv_has ls 7 [(5, .int 0), (3, .long a3), (2, .int a2), (1, .int a1), (0, .ref h)] := lv_sub hl [0, 4, 3, 2, 1] rfl
  refine cw_loop (β := Int32) (fun x1 => [(5, .int x1), (3, .long a3), (2, .int a2), (1, .int a1), (0, .ref h)]) 0 hl hw hH (fun K3 x1 κ2 ls H locs cells slots hl hw hH ih4 => ?_)
  have hl : lv_has ls 7 [(5, .int x1), (3, .long a3), (2, .int a2), (1, .int a1), (0, .ref h)] := hl
  refine lv_iload hx hb dX6_put_3 (lv_at hl 0 rfl) ?_
  refine lv_iload_n hx hb dX6_put_5 rfl (lv_at hl 2 rfl) ?_
  refine w_icmp_ge (tgt := 61) hF dX6_put_6 rfl hw (fun hw => ?_) (fun hw => ?_)
  · exact cw_retv hF hH ⟨rfl, rfl⟩ hr hlk dX6_put_61 hw
  · refine lv_iload_n hx hb dX6_put_9 rfl (lv_at hl 3 rfl) ?_
    refine lv_iload hx hb dX6_put_10 (lv_at hl 0 rfl) ?_
    refine lv_iadd hx hb dX6_put_12 ?_
    refine w_nmi hw (fun z5 hw => ?_)
    refine lv_istore (lv' := [(6, .int z5), (5, .int x1), (3, .long a3), (2, .int a2), (1, .int a1), (0, .ref h)]) hx hb dX6_put_13 hl (by decide) rfl (fun ls hl => ?_)
    refine lv_iload hx hb dX6_put_15 (lv_at hl 0 rfl) ?_
    obtain ⟨K8, hK9, hw⟩ := jc_open hw
    refine cw_join (K := K8) 55 (fun (x6 : Unit) => [(5, .int x1), (3, .long a3), (2, .int a2), (1, .int a1), (0, .ref h)]) (fun (x6 : Unit) => []) hl hH (fun x6 κ7 ls H locs cells slots hl hw hH => ?_) (fun jn10 => ?_)
    · have hw := hK9 x6 κ7 hw
      have hl : lv_has ls 7 [(5, .int x1), (3, .long a3), (2, .int a2), (1, .int a1), (0, .ref h)] := hl
      obtain ⟨z11, ez11⟩ : ∃ z : Int32, z = x1 + 1 := ⟨_, rfl⟩
      have hw := hw z11 ez11
      refine lv_iinc (lv' := [(5, .int z11), (3, .long a3), (2, .int a2), (1, .int a1), (0, .ref h)]) (k := 0) (v := z11) hx hb dX6_put_55 hl rfl ez11.symm (by decide) rfl (fun ls hl => ?_)
      refine lv_goto (tgt := 3) hx hb dX6_put_58 rfl ?_
      exact ih4 z11 κ7 ls _ _ _ _ hl hw hH
    · skip
      refine w_if_lt (tgt := 55) hF dX6_put_17 rfl hw (fun hw => ?_) (fun hw => ?_)
      · have hl : lv_has ls 7 [(5, .int x1), (3, .long a3), (2, .int a2), (1, .int a1), (0, .ref h)] := lv_sub hl [1, 2, 3, 4, 5] rfl
        exact jn10 () κ2 ls _ _ _ _ hl hw hH
      · refine lv_iload hx hb dX6_put_20 (lv_at hl 0 rfl) ?_
        refine lv_aload_n hx hb dX6_put_22 rfl (lv_at hl 5 rfl) ?_
        refine cw_getIr (a := h) hF hH fk_X6_25 dX6_put_23 hw (fun z12 hw => ?_)
        refine w_icmp_ge (tgt := 55) hF dX6_put_26 rfl hw (fun hw => ?_) (fun hw => ?_)
        · have hl : lv_has ls 7 [(5, .int x1), (3, .long a3), (2, .int a2), (1, .int a1), (0, .ref h)] := lv_sub hl [1, 2, 3, 4, 5] rfl
          exact jn10 () κ2 ls _ _ _ _ hl hw hH
        · refine lv_iload hx hb dX6_put_29 (lv_at hl 0 rfl) ?_
          refine lv_aload_n hx hb dX6_put_31 rfl (lv_at hl 5 rfl) ?_
          refine cw_getPr (a := h) hF hH fk_X6_7 dX6_put_32 hw (fun z13 hw => ?_)
          refine cw_alen (q := z13) hF hH hE dX6_put_35 hw (fun z14 hw => ?_)
          refine w_icmp_ge (tgt := 55) hF dX6_put_36 rfl hw (fun hw => ?_) (fun hw => ?_)
          · have hl : lv_has ls 7 [(5, .int x1), (3, .long a3), (2, .int a2), (1, .int a1), (0, .ref h)] := lv_sub hl [1, 2, 3, 4, 5] rfl
            exact jn10 () κ2 ls _ _ _ _ hl hw hH
          · refine lv_aload_n hx hb dX6_put_39 rfl (lv_at hl 5 rfl) ?_
            refine cw_getPr (a := h) hF hH fk_X6_7 dX6_put_40 hw (fun z15 hw => ?_)
            refine lv_iload hx hb dX6_put_43 (lv_at hl 0 rfl) ?_
            refine lv_lload_n hx hb dX6_put_45 rfl (lv_at hl 2 rfl) ?_
            refine lv_bipush (v := 8) hx hb dX6_put_46 (by decide) ?_
            refine lv_iload hx hb dX6_put_48 (lv_at hl 1 rfl) ?_
            refine lv_imul hx hb dX6_put_50 ?_
            refine w_nmi hw (fun z16 hw => ?_)
            refine lv_lshr hx hb dX6_put_51 rfl ?_
            refine w_nml hw (fun z17 hw => ?_)
            refine lv_l2i hx hb dX6_put_52 rfl ?_
            refine w_nmi hw (fun z18 hw => ?_)
            refine lv_i2b hx hb dX6_put_53 rfl ?_
            refine w_nmi hw (fun z19 hw => ?_)
            refine cw_bast (q := z15) hF hH dX6_put_54 hw (fun κ20 H locs cells slots hw hH => ?_)
            have hl : lv_has ls 7 [(5, .int x1), (3, .long a3), (2, .int a2), (1, .int a1), (0, .ref h)] := lv_sub hl [1, 2, 3, 4, 5] rfl
            exact jn10 () κ20 ls _ _ _ _ hl hw hH
set_option maxRecDepth 100000 in
def F_X4_tellTimes (G : GE) (h : Nat) (a1 : Option Nat) (a2 : Int32) (post : CS → Prop) (κ : CS) : Prop := (h ∈ sL κ.1 ∧ sK κ.1 h = 5) ∧ ∀ z1 : Int64, z1 = sJ κ.1 h 8 → ∃ b : Nat, a1 = some b ∧ (b ∈ sL κ.1 ∧ sK κ.1 b = 2) ∧ F_X6_put G b a2 8 z1 (fun (κ2 : CS) => ∀ z4 : Int32, z4 = a2 + 8 → (h ∈ sL κ2.1 ∧ sK κ2.1 h = 5) ∧ ∀ z5 : Int64, z5 = sJ κ2.1 h 9 → ∃ b : Nat, a1 = some b ∧ (b ∈ sL κ2.1 ∧ sK κ2.1 b = 2) ∧ F_X6_put G b z4 8 z5 (fun (κ6 : CS) => ∀ z8 : Int32, z8 = a2 + 16 → (h ∈ sL κ6.1 ∧ sK κ6.1 h = 5) ∧ ∀ z9 : Int64, z9 = sJ κ6.1 h 10 → ∃ b : Nat, a1 = some b ∧ (b ∈ sL κ6.1 ∧ sK κ6.1 b = 2) ∧ F_X6_put G b z8 8 z9 (fun (κ10 : CS) => ∀ z12 : Int32, z12 = a2 + 24 → (h ∈ sL κ10.1 ∧ sK κ10.1 h = 5) ∧ ∀ z13 : Int64, z13 = sJ κ10.1 h 11 → ∃ b : Nat, a1 = some b ∧ (b ∈ sL κ10.1 ∧ sK κ10.1 b = 2) ∧ F_X6_put G b z12 8 z13 (fun (κ14 : CS) => post κ14) κ10) κ6) κ2) κ
theorem dX4_tellTimes_0 : decode cX4_tellTimes 0 = .ok (.aload_n 1, 1) := by decide +kernel
theorem dX4_tellTimes_1 : decode cX4_tellTimes 1 = .ok (.iload_n 2, 1) := by decide +kernel
theorem dX4_tellTimes_2 : decode cX4_tellTimes 2 = .ok (.bipush 8, 2) := by decide +kernel
theorem dX4_tellTimes_4 : decode cX4_tellTimes 4 = .ok (.aload_n 0, 1) := by decide +kernel
theorem dX4_tellTimes_5 : decode cX4_tellTimes 5 = .ok (.getfield 35, 3) := by decide +kernel
theorem dX4_tellTimes_8 : decode cX4_tellTimes 8 = .ok (.invokevirtual 39, 3) := by decide +kernel
theorem dX4_tellTimes_11 : decode cX4_tellTimes 11 = .ok (.aload_n 1, 1) := by decide +kernel
theorem dX4_tellTimes_12 : decode cX4_tellTimes 12 = .ok (.iload_n 2, 1) := by decide +kernel
theorem dX4_tellTimes_13 : decode cX4_tellTimes 13 = .ok (.bipush 8, 2) := by decide +kernel
theorem dX4_tellTimes_15 : decode cX4_tellTimes 15 = .ok (.iadd, 1) := by decide +kernel
theorem dX4_tellTimes_16 : decode cX4_tellTimes 16 = .ok (.bipush 8, 2) := by decide +kernel
theorem dX4_tellTimes_18 : decode cX4_tellTimes 18 = .ok (.aload_n 0, 1) := by decide +kernel
theorem dX4_tellTimes_19 : decode cX4_tellTimes 19 = .ok (.getfield 45, 3) := by decide +kernel
theorem dX4_tellTimes_22 : decode cX4_tellTimes 22 = .ok (.invokevirtual 39, 3) := by decide +kernel
theorem dX4_tellTimes_25 : decode cX4_tellTimes 25 = .ok (.aload_n 1, 1) := by decide +kernel
theorem dX4_tellTimes_26 : decode cX4_tellTimes 26 = .ok (.iload_n 2, 1) := by decide +kernel
theorem dX4_tellTimes_27 : decode cX4_tellTimes 27 = .ok (.bipush 16, 2) := by decide +kernel
theorem dX4_tellTimes_29 : decode cX4_tellTimes 29 = .ok (.iadd, 1) := by decide +kernel
theorem dX4_tellTimes_30 : decode cX4_tellTimes 30 = .ok (.bipush 8, 2) := by decide +kernel
theorem dX4_tellTimes_32 : decode cX4_tellTimes 32 = .ok (.aload_n 0, 1) := by decide +kernel
theorem dX4_tellTimes_33 : decode cX4_tellTimes 33 = .ok (.getfield 48, 3) := by decide +kernel
theorem dX4_tellTimes_36 : decode cX4_tellTimes 36 = .ok (.invokevirtual 39, 3) := by decide +kernel
theorem dX4_tellTimes_39 : decode cX4_tellTimes 39 = .ok (.aload_n 1, 1) := by decide +kernel
theorem dX4_tellTimes_40 : decode cX4_tellTimes 40 = .ok (.iload_n 2, 1) := by decide +kernel
theorem dX4_tellTimes_41 : decode cX4_tellTimes 41 = .ok (.bipush 24, 2) := by decide +kernel
theorem dX4_tellTimes_43 : decode cX4_tellTimes 43 = .ok (.iadd, 1) := by decide +kernel
theorem dX4_tellTimes_44 : decode cX4_tellTimes 44 = .ok (.bipush 8, 2) := by decide +kernel
theorem dX4_tellTimes_46 : decode cX4_tellTimes 46 = .ok (.aload_n 0, 1) := by decide +kernel
theorem dX4_tellTimes_47 : decode cX4_tellTimes 47 = .ok (.getfield 51, 3) := by decide +kernel
theorem dX4_tellTimes_50 : decode cX4_tellTimes 50 = .ok (.invokevirtual 39, 3) := by decide +kernel
theorem dX4_tellTimes_53 : decode cX4_tellTimes 53 = .ok (.return_, 1) := by decide +kernel
set_option maxRecDepth 100000 in
set_option maxHeartbeats 4000000 in
theorem c_X4_tellTimes (l : Launch) (D : va_G) (t : Nat → ClassId) (G : GE) (κ : CS) (h : Nat) (a1 : Option Nat) (a2 : Int32) (post : CS → Prop) (hw : F_X4_tellTimes G h a1 a2 post κ) (sz : Nat) : CMv l D t yX4_tellTimes cX4_tellTimes 3 1 40 G κ sz [.ref h, va_rf a1, .int a2] post := by
  refine c_go (by decide) (by cases a1 <;> exact Nat.le_of_ble_eq_true rfl) ?_
  intro p e s m below meth c ls A hF hr hlk hin hAe hH hA hE hl
  unfold cB
  rw [hAe]
  clear hAe
  have hF : FX p m c cX4_tellTimes 3 s _ RX4 D t := hF
  have hx := hF.1.1
  have hb := hF.1.2.1
  have hl : lv_has ls 3 [(0, .ref h), (1, va_rf a1), (2, .int a2)] := (by have h2 := hl; clear hw; revert h2; cases a1 <;> exact id)
  unfold F_X4_tellTimes at hw
  refine w_aloadq_n hF dX4_tellTimes_0 rfl (lv_at hl 1 rfl) ?_
  refine lv_iload_n hx hb dX4_tellTimes_1 rfl (lv_at hl 2 rfl) ?_
  refine lv_bipush (v := 8) hx hb dX4_tellTimes_2 (by decide) ?_
  refine lv_aload_n hx hb dX4_tellTimes_4 rfl (lv_at hl 0 rfl) ?_
  refine cw_getJr (a := h) hF hH fk_X4_35 dX4_tellTimes_5 hw (fun z1 hw => ?_)
  refine cw_cVvq (q := a1) (As := [.int a2, .int 8, .long z1]) (rest := []) hF hH hA hE mv_X4_39 ci_X6 (by decide) hw (fun b hw sz => c_X6_put l D t G _ b a2 8 z1 _ hw sz) dX4_tellTimes_8 ⟨Nat.le_of_ble_eq_true rfl, Nat.le_of_ble_eq_true rfl⟩ rfl hl.1 (Nat.le_of_ble_eq_true rfl) rfl (fun κ2 H locs cells slots hw hH => ?_)
  refine w_aloadq_n hF dX4_tellTimes_11 rfl (lv_at hl 1 rfl) ?_
  refine lv_iload_n hx hb dX4_tellTimes_12 rfl (lv_at hl 2 rfl) ?_
  refine lv_bipush (v := 8) hx hb dX4_tellTimes_13 (by decide) ?_
  refine lv_iadd hx hb dX4_tellTimes_15 ?_
  refine w_nmi hw (fun z4 hw => ?_)
  refine lv_bipush (v := 8) hx hb dX4_tellTimes_16 (by decide) ?_
  refine lv_aload_n hx hb dX4_tellTimes_18 rfl (lv_at hl 0 rfl) ?_
  refine cw_getJr (a := h) hF hH fk_X4_45 dX4_tellTimes_19 hw (fun z5 hw => ?_)
  refine cw_cVvq (q := a1) (As := [.int z4, .int 8, .long z5]) (rest := []) hF hH hA hE mv_X4_39 ci_X6 (by decide) hw (fun b hw sz => c_X6_put l D t G _ b z4 8 z5 _ hw sz) dX4_tellTimes_22 ⟨Nat.le_of_ble_eq_true rfl, Nat.le_of_ble_eq_true rfl⟩ rfl hl.1 (Nat.le_of_ble_eq_true rfl) rfl (fun κ6 H locs cells slots hw hH => ?_)
  refine w_aloadq_n hF dX4_tellTimes_25 rfl (lv_at hl 1 rfl) ?_
  refine lv_iload_n hx hb dX4_tellTimes_26 rfl (lv_at hl 2 rfl) ?_
  refine lv_bipush (v := 16) hx hb dX4_tellTimes_27 (by decide) ?_
  refine lv_iadd hx hb dX4_tellTimes_29 ?_
  refine w_nmi hw (fun z8 hw => ?_)
  refine lv_bipush (v := 8) hx hb dX4_tellTimes_30 (by decide) ?_
  refine lv_aload_n hx hb dX4_tellTimes_32 rfl (lv_at hl 0 rfl) ?_
  refine cw_getJr (a := h) hF hH fk_X4_48 dX4_tellTimes_33 hw (fun z9 hw => ?_)
  refine cw_cVvq (q := a1) (As := [.int z8, .int 8, .long z9]) (rest := []) hF hH hA hE mv_X4_39 ci_X6 (by decide) hw (fun b hw sz => c_X6_put l D t G _ b z8 8 z9 _ hw sz) dX4_tellTimes_36 ⟨Nat.le_of_ble_eq_true rfl, Nat.le_of_ble_eq_true rfl⟩ rfl hl.1 (Nat.le_of_ble_eq_true rfl) rfl (fun κ10 H locs cells slots hw hH => ?_)
  refine w_aloadq_n hF dX4_tellTimes_39 rfl (lv_at hl 1 rfl) ?_
  refine lv_iload_n hx hb dX4_tellTimes_40 rfl (lv_at hl 2 rfl) ?_
  refine lv_bipush (v := 24) hx hb dX4_tellTimes_41 (by decide) ?_
  refine lv_iadd hx hb dX4_tellTimes_43 ?_
  refine w_nmi hw (fun z12 hw => ?_)
  refine lv_bipush (v := 8) hx hb dX4_tellTimes_44 (by decide) ?_
  refine lv_aload_n hx hb dX4_tellTimes_46 rfl (lv_at hl 0 rfl) ?_
  refine cw_getJr (a := h) hF hH fk_X4_51 dX4_tellTimes_47 hw (fun z13 hw => ?_)
  refine cw_cVvq (q := a1) (As := [.int z12, .int 8, .long z13]) (rest := []) hF hH hA hE mv_X4_39 ci_X6 (by decide) hw (fun b hw sz => c_X6_put l D t G _ b z12 8 z13 _ hw sz) dX4_tellTimes_50 ⟨Nat.le_of_ble_eq_true rfl, Nat.le_of_ble_eq_true rfl⟩ rfl hl.1 (Nat.le_of_ble_eq_true rfl) rfl (fun κ14 H locs cells slots hw hH => ?_)
  exact cw_retv hF hH ⟨rfl, rfl⟩ hr hlk dX4_tellTimes_53 hw
set_option maxRecDepth 100000 in
def F_X4_tellAll (G : GE) (h : Nat) (a1 : Option Nat) (post : CS → Prop) (κ : CS) : Prop := (h ∈ sL κ.1 ∧ sK κ.1 h = 5) ∧ ∀ z1 : Int64, z1 = sJ κ.1 h 8 → ∃ b : Nat, a1 = some b ∧ (b ∈ sL κ.1 ∧ sK κ.1 b = 2) ∧ F_X6_put G b 72 8 z1 (fun (κ2 : CS) => (h ∈ sL κ2.1 ∧ sK κ2.1 h = 5) ∧ ∀ z4 : Int64, z4 = sJ κ2.1 h 9 → ∃ b : Nat, a1 = some b ∧ (b ∈ sL κ2.1 ∧ sK κ2.1 b = 2) ∧ F_X6_put G b 80 8 z4 (fun (κ5 : CS) => (h ∈ sL κ5.1 ∧ sK κ5.1 h = 5) ∧ ∀ z7 : Int64, z7 = sJ κ5.1 h 10 → ∃ b : Nat, a1 = some b ∧ (b ∈ sL κ5.1 ∧ sK κ5.1 b = 2) ∧ F_X6_put G b 88 8 z7 (fun (κ8 : CS) => (h ∈ sL κ8.1 ∧ sK κ8.1 h = 5) ∧ ∀ z10 : Int64, z10 = sJ κ8.1 h 11 → ∃ b : Nat, a1 = some b ∧ (b ∈ sL κ8.1 ∧ sK κ8.1 b = 2) ∧ F_X6_put G b 96 8 z10 (fun (κ11 : CS) => (h ∈ sL κ11.1 ∧ sK κ11.1 h = 5) ∧ F_X4_room G h  (fun (z14 : Int32) (κ13 : CS) => ∀ z15 : Int64, z15 = (z14 : Int32).toInt64 → ∃ b : Nat, a1 = some b ∧ (b ∈ sL κ13.1 ∧ sK κ13.1 b = 2) ∧ F_X6_put G b 104 8 z15 (fun (κ16 : CS) => (h ∈ sL κ16.1 ∧ sK κ16.1 h = 5) ∧ ∀ z18 : Int32, z18 = sI κ16.1 h 12 → ∀ z19 : Int64, z19 = (z18 : Int32).toInt64 → ∃ b : Nat, a1 = some b ∧ (b ∈ sL κ16.1 ∧ sK κ16.1 b = 2) ∧ F_X6_put G b 112 8 z19 (fun (κ20 : CS) => (h ∈ sL κ20.1 ∧ sK κ20.1 h = 5) ∧ F_X4_toldAttributes G h  (fun (z23 : Int32) (κ22 : CS) => ∀ z24 : Int64, z24 = (z23 : Int32).toInt64 → ∃ b : Nat, a1 = some b ∧ (b ∈ sL κ22.1 ∧ sK κ22.1 b = 2) ∧ F_X6_put G b 120 4 z24 (fun (κ25 : CS) => post κ25) κ22) κ20) κ16) κ13) κ11) κ8) κ5) κ2) κ
theorem dX4_tellAll_0 : decode cX4_tellAll 0 = .ok (.aload_n 1, 1) := by decide +kernel
theorem dX4_tellAll_1 : decode cX4_tellAll 1 = .ok (.bipush 72, 2) := by decide +kernel
theorem dX4_tellAll_3 : decode cX4_tellAll 3 = .ok (.bipush 8, 2) := by decide +kernel
theorem dX4_tellAll_5 : decode cX4_tellAll 5 = .ok (.aload_n 0, 1) := by decide +kernel
theorem dX4_tellAll_6 : decode cX4_tellAll 6 = .ok (.getfield 35, 3) := by decide +kernel
theorem dX4_tellAll_9 : decode cX4_tellAll 9 = .ok (.invokevirtual 39, 3) := by decide +kernel
theorem dX4_tellAll_12 : decode cX4_tellAll 12 = .ok (.aload_n 1, 1) := by decide +kernel
theorem dX4_tellAll_13 : decode cX4_tellAll 13 = .ok (.bipush 80, 2) := by decide +kernel
theorem dX4_tellAll_15 : decode cX4_tellAll 15 = .ok (.bipush 8, 2) := by decide +kernel
theorem dX4_tellAll_17 : decode cX4_tellAll 17 = .ok (.aload_n 0, 1) := by decide +kernel
theorem dX4_tellAll_18 : decode cX4_tellAll 18 = .ok (.getfield 45, 3) := by decide +kernel
theorem dX4_tellAll_21 : decode cX4_tellAll 21 = .ok (.invokevirtual 39, 3) := by decide +kernel
theorem dX4_tellAll_24 : decode cX4_tellAll 24 = .ok (.aload_n 1, 1) := by decide +kernel
theorem dX4_tellAll_25 : decode cX4_tellAll 25 = .ok (.bipush 88, 2) := by decide +kernel
theorem dX4_tellAll_27 : decode cX4_tellAll 27 = .ok (.bipush 8, 2) := by decide +kernel
theorem dX4_tellAll_29 : decode cX4_tellAll 29 = .ok (.aload_n 0, 1) := by decide +kernel
theorem dX4_tellAll_30 : decode cX4_tellAll 30 = .ok (.getfield 48, 3) := by decide +kernel
theorem dX4_tellAll_33 : decode cX4_tellAll 33 = .ok (.invokevirtual 39, 3) := by decide +kernel
theorem dX4_tellAll_36 : decode cX4_tellAll 36 = .ok (.aload_n 1, 1) := by decide +kernel
theorem dX4_tellAll_37 : decode cX4_tellAll 37 = .ok (.bipush 96, 2) := by decide +kernel
theorem dX4_tellAll_39 : decode cX4_tellAll 39 = .ok (.bipush 8, 2) := by decide +kernel
theorem dX4_tellAll_41 : decode cX4_tellAll 41 = .ok (.aload_n 0, 1) := by decide +kernel
theorem dX4_tellAll_42 : decode cX4_tellAll 42 = .ok (.getfield 51, 3) := by decide +kernel
theorem dX4_tellAll_45 : decode cX4_tellAll 45 = .ok (.invokevirtual 39, 3) := by decide +kernel
theorem dX4_tellAll_48 : decode cX4_tellAll 48 = .ok (.aload_n 1, 1) := by decide +kernel
theorem dX4_tellAll_49 : decode cX4_tellAll 49 = .ok (.bipush 104, 2) := by decide +kernel
theorem dX4_tellAll_51 : decode cX4_tellAll 51 = .ok (.bipush 8, 2) := by decide +kernel
theorem dX4_tellAll_53 : decode cX4_tellAll 53 = .ok (.aload_n 0, 1) := by decide +kernel
theorem dX4_tellAll_54 : decode cX4_tellAll 54 = .ok (.invokevirtual 54, 3) := by decide +kernel
theorem dX4_tellAll_57 : decode cX4_tellAll 57 = .ok (.i2l, 1) := by decide +kernel
theorem dX4_tellAll_58 : decode cX4_tellAll 58 = .ok (.invokevirtual 39, 3) := by decide +kernel
theorem dX4_tellAll_61 : decode cX4_tellAll 61 = .ok (.aload_n 1, 1) := by decide +kernel
theorem dX4_tellAll_62 : decode cX4_tellAll 62 = .ok (.bipush 112, 2) := by decide +kernel
theorem dX4_tellAll_64 : decode cX4_tellAll 64 = .ok (.bipush 8, 2) := by decide +kernel
theorem dX4_tellAll_66 : decode cX4_tellAll 66 = .ok (.aload_n 0, 1) := by decide +kernel
theorem dX4_tellAll_67 : decode cX4_tellAll 67 = .ok (.getfield 32, 3) := by decide +kernel
theorem dX4_tellAll_70 : decode cX4_tellAll 70 = .ok (.i2l, 1) := by decide +kernel
theorem dX4_tellAll_71 : decode cX4_tellAll 71 = .ok (.invokevirtual 39, 3) := by decide +kernel
theorem dX4_tellAll_74 : decode cX4_tellAll 74 = .ok (.aload_n 1, 1) := by decide +kernel
theorem dX4_tellAll_75 : decode cX4_tellAll 75 = .ok (.bipush 120, 2) := by decide +kernel
theorem dX4_tellAll_77 : decode cX4_tellAll 77 = .ok (.iconst 4, 1) := by decide +kernel
theorem dX4_tellAll_78 : decode cX4_tellAll 78 = .ok (.aload_n 0, 1) := by decide +kernel
theorem dX4_tellAll_79 : decode cX4_tellAll 79 = .ok (.invokevirtual 58, 3) := by decide +kernel
theorem dX4_tellAll_82 : decode cX4_tellAll 82 = .ok (.i2l, 1) := by decide +kernel
theorem dX4_tellAll_83 : decode cX4_tellAll 83 = .ok (.invokevirtual 39, 3) := by decide +kernel
theorem dX4_tellAll_86 : decode cX4_tellAll 86 = .ok (.return_, 1) := by decide +kernel
set_option maxRecDepth 100000 in
set_option maxHeartbeats 4000000 in
theorem c_X4_tellAll (l : Launch) (D : va_G) (t : Nat → ClassId) (G : GE) (κ : CS) (h : Nat) (a1 : Option Nat) (post : CS → Prop) (hw : F_X4_tellAll G h a1 post κ) (sz : Nat) : CMv l D t yX4_tellAll cX4_tellAll 2 1 40 G κ sz [.ref h, va_rf a1] post := by
  refine c_go (by decide) (by cases a1 <;> exact Nat.le_of_ble_eq_true rfl) ?_
  intro p e s m below meth c ls A hF hr hlk hin hAe hH hA hE hl
  unfold cB
  rw [hAe]
  clear hAe
  have hF : FX p m c cX4_tellAll 2 s _ RX4 D t := hF
  have hx := hF.1.1
  have hb := hF.1.2.1
  have hl : lv_has ls 2 [(0, .ref h), (1, va_rf a1)] := (by have h2 := hl; clear hw; revert h2; cases a1 <;> exact id)
  unfold F_X4_tellAll at hw
  refine w_aloadq_n hF dX4_tellAll_0 rfl (lv_at hl 1 rfl) ?_
  refine lv_bipush (v := 72) hx hb dX4_tellAll_1 (by decide) ?_
  refine lv_bipush (v := 8) hx hb dX4_tellAll_3 (by decide) ?_
  refine lv_aload_n hx hb dX4_tellAll_5 rfl (lv_at hl 0 rfl) ?_
  refine cw_getJr (a := h) hF hH fk_X4_35 dX4_tellAll_6 hw (fun z1 hw => ?_)
  refine cw_cVvq (q := a1) (As := [.int 72, .int 8, .long z1]) (rest := []) hF hH hA hE mv_X4_39 ci_X6 (by decide) hw (fun b hw sz => c_X6_put l D t G _ b 72 8 z1 _ hw sz) dX4_tellAll_9 ⟨Nat.le_of_ble_eq_true rfl, Nat.le_of_ble_eq_true rfl⟩ rfl hl.1 (Nat.le_of_ble_eq_true rfl) rfl (fun κ2 H locs cells slots hw hH => ?_)
  refine w_aloadq_n hF dX4_tellAll_12 rfl (lv_at hl 1 rfl) ?_
  refine lv_bipush (v := 80) hx hb dX4_tellAll_13 (by decide) ?_
  refine lv_bipush (v := 8) hx hb dX4_tellAll_15 (by decide) ?_
  refine lv_aload_n hx hb dX4_tellAll_17 rfl (lv_at hl 0 rfl) ?_
  refine cw_getJr (a := h) hF hH fk_X4_45 dX4_tellAll_18 hw (fun z4 hw => ?_)
  refine cw_cVvq (q := a1) (As := [.int 80, .int 8, .long z4]) (rest := []) hF hH hA hE mv_X4_39 ci_X6 (by decide) hw (fun b hw sz => c_X6_put l D t G _ b 80 8 z4 _ hw sz) dX4_tellAll_21 ⟨Nat.le_of_ble_eq_true rfl, Nat.le_of_ble_eq_true rfl⟩ rfl hl.1 (Nat.le_of_ble_eq_true rfl) rfl (fun κ5 H locs cells slots hw hH => ?_)
  refine w_aloadq_n hF dX4_tellAll_24 rfl (lv_at hl 1 rfl) ?_
  refine lv_bipush (v := 88) hx hb dX4_tellAll_25 (by decide) ?_
  refine lv_bipush (v := 8) hx hb dX4_tellAll_27 (by decide) ?_
  refine lv_aload_n hx hb dX4_tellAll_29 rfl (lv_at hl 0 rfl) ?_
  refine cw_getJr (a := h) hF hH fk_X4_48 dX4_tellAll_30 hw (fun z7 hw => ?_)
  refine cw_cVvq (q := a1) (As := [.int 88, .int 8, .long z7]) (rest := []) hF hH hA hE mv_X4_39 ci_X6 (by decide) hw (fun b hw sz => c_X6_put l D t G _ b 88 8 z7 _ hw sz) dX4_tellAll_33 ⟨Nat.le_of_ble_eq_true rfl, Nat.le_of_ble_eq_true rfl⟩ rfl hl.1 (Nat.le_of_ble_eq_true rfl) rfl (fun κ8 H locs cells slots hw hH => ?_)
  refine w_aloadq_n hF dX4_tellAll_36 rfl (lv_at hl 1 rfl) ?_
  refine lv_bipush (v := 96) hx hb dX4_tellAll_37 (by decide) ?_
  refine lv_bipush (v := 8) hx hb dX4_tellAll_39 (by decide) ?_
  refine lv_aload_n hx hb dX4_tellAll_41 rfl (lv_at hl 0 rfl) ?_
  refine cw_getJr (a := h) hF hH fk_X4_51 dX4_tellAll_42 hw (fun z10 hw => ?_)
  refine cw_cVvq (q := a1) (As := [.int 96, .int 8, .long z10]) (rest := []) hF hH hA hE mv_X4_39 ci_X6 (by decide) hw (fun b hw sz => c_X6_put l D t G _ b 96 8 z10 _ hw sz) dX4_tellAll_45 ⟨Nat.le_of_ble_eq_true rfl, Nat.le_of_ble_eq_true rfl⟩ rfl hl.1 (Nat.le_of_ble_eq_true rfl) rfl (fun κ11 H locs cells slots hw hH => ?_)
  refine w_aloadq_n hF dX4_tellAll_48 rfl (lv_at hl 1 rfl) ?_
  refine lv_bipush (v := 104) hx hb dX4_tellAll_49 (by decide) ?_
  refine lv_bipush (v := 8) hx hb dX4_tellAll_51 (by decide) ?_
  refine lv_aload_n hx hb dX4_tellAll_53 rfl (lv_at hl 0 rfl) ?_
  refine cw_cVi (b := h) (As := []) (rest := [.int 8, .int 104, va_rf a1]) hF hH hA hE mv_X4_54 ci_X4 (by decide) (fun sz => c_X4_room l D t G _ h  _ hw.2 sz) dX4_tellAll_54 hw.1 ⟨Nat.le_of_ble_eq_true rfl, Nat.le_of_ble_eq_true rfl⟩ rfl hl.1 (by simp only [List.map_cons, List.map_nil, cat_rf]; exact Nat.le_of_ble_eq_true rfl) rfl (fun z14 κ13 H locs cells slots hw hH => ?_)
  refine lv_i2l hx hb dX4_tellAll_57 rfl ?_
  refine w_nml hw (fun z15 hw => ?_)
  refine cw_cVvq (q := a1) (As := [.int 104, .int 8, .long z15]) (rest := []) hF hH hA hE mv_X4_39 ci_X6 (by decide) hw (fun b hw sz => c_X6_put l D t G _ b 104 8 z15 _ hw sz) dX4_tellAll_58 ⟨Nat.le_of_ble_eq_true rfl, Nat.le_of_ble_eq_true rfl⟩ rfl hl.1 (Nat.le_of_ble_eq_true rfl) rfl (fun κ16 H locs cells slots hw hH => ?_)
  refine w_aloadq_n hF dX4_tellAll_61 rfl (lv_at hl 1 rfl) ?_
  refine lv_bipush (v := 112) hx hb dX4_tellAll_62 (by decide) ?_
  refine lv_bipush (v := 8) hx hb dX4_tellAll_64 (by decide) ?_
  refine lv_aload_n hx hb dX4_tellAll_66 rfl (lv_at hl 0 rfl) ?_
  refine cw_getIr (a := h) hF hH fk_X4_32 dX4_tellAll_67 hw (fun z18 hw => ?_)
  refine lv_i2l hx hb dX4_tellAll_70 rfl ?_
  refine w_nml hw (fun z19 hw => ?_)
  refine cw_cVvq (q := a1) (As := [.int 112, .int 8, .long z19]) (rest := []) hF hH hA hE mv_X4_39 ci_X6 (by decide) hw (fun b hw sz => c_X6_put l D t G _ b 112 8 z19 _ hw sz) dX4_tellAll_71 ⟨Nat.le_of_ble_eq_true rfl, Nat.le_of_ble_eq_true rfl⟩ rfl hl.1 (Nat.le_of_ble_eq_true rfl) rfl (fun κ20 H locs cells slots hw hH => ?_)
  refine w_aloadq_n hF dX4_tellAll_74 rfl (lv_at hl 1 rfl) ?_
  refine lv_bipush (v := 120) hx hb dX4_tellAll_75 (by decide) ?_
  refine lv_iconst (v := 4) hx hb dX4_tellAll_77 (by decide) ?_
  refine lv_aload_n hx hb dX4_tellAll_78 rfl (lv_at hl 0 rfl) ?_
  refine cw_cVi (b := h) (As := []) (rest := [.int 4, .int 120, va_rf a1]) hF hH hA hE mv_X4_58 ci_X4 (by decide) (fun sz => c_X4_toldAttributes l D t G _ h  _ hw.2 sz) dX4_tellAll_79 hw.1 ⟨Nat.le_of_ble_eq_true rfl, Nat.le_of_ble_eq_true rfl⟩ rfl hl.1 (by simp only [List.map_cons, List.map_nil, cat_rf]; exact Nat.le_of_ble_eq_true rfl) rfl (fun z23 κ22 H locs cells slots hw hH => ?_)
  refine lv_i2l hx hb dX4_tellAll_82 rfl ?_
  refine w_nml hw (fun z24 hw => ?_)
  refine cw_cVvq (q := a1) (As := [.int 120, .int 4, .long z24]) (rest := []) hF hH hA hE mv_X4_39 ci_X6 (by decide) hw (fun b hw sz => c_X6_put l D t G _ b 120 4 z24 _ hw sz) dX4_tellAll_83 ⟨Nat.le_of_ble_eq_true rfl, Nat.le_of_ble_eq_true rfl⟩ rfl hl.1 (Nat.le_of_ble_eq_true rfl) rfl (fun κ25 H locs cells slots hw hH => ?_)
  exact cw_retv hF hH ⟨rfl, rfl⟩ hr hlk dX4_tellAll_86 hw

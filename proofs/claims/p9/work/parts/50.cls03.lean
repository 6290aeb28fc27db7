/-! the class, lifted: 3 -/
set_option maxRecDepth 100000 in
def F_X7_init (G : GE) (h : Nat) (a1 : Int64) (a3 : Option Nat) (post : CS → Prop) (κ : CS) : Prop := (0 ≤ (16 : Int32).toInt ∧ (16 : Int32).toInt ≤ 1000000) ∧ ((16 : Int32).toInt.toNat + 12 ≤ κ.2) ∧ ∀ o2 : Nat, o2 ∉ sL κ.1 → ∀ κ3 : CS, κ3 = (h_uN κ.1 o2 20 (16 : Int32).toInt.toNat, κ.2 - ((16 : Int32).toInt.toNat + 12)) → (h ∈ sL κ3.1 ∧ sK κ3.1 h = 11) ∧ ∀ κ4 : CS, κ4 = (h_uP κ3.1 h 2 (some o2), κ3.2) → (h ∈ sL κ4.1 ∧ sK κ4.1 h = 11) ∧ ∀ κ5 : CS, κ5 = (h_uJ κ4.1 h 0 a1, κ4.2) → ∃ b : Nat, a3 = some b ∧ (b ∈ sL κ5.1 ∧ sK κ5.1 b = 8) ∧ ∀ z6 : Option Nat, z6 = sP κ5.1 b 0 → (h ∈ sL κ5.1 ∧ sK κ5.1 h = 11) ∧ ∀ κ7 : CS, κ7 = (h_uP κ5.1 h 1 z6, κ5.2) → ∃ b : Nat, a3 = some b ∧ (b ∈ sL κ7.1 ∧ sK κ7.1 b = 8) ∧ F_X0_number G b 78 2 (fun (z9 : Int64) (κ8 : CS) => ∀ z11 : Int64, z11.toInt = min z9.toInt ((16 : Int64).toInt) → ∀ z12 : Int32, z12 = (z11 : Int64).toInt32 → (h ∈ sL κ8.1 ∧ sK κ8.1 h = 11) ∧ ∀ κ13 : CS, κ13 = (h_uI κ8.1 h 3 z12, κ8.2) → ∃ b : Nat, a3 = some b ∧ (b ∈ sL κ13.1 ∧ sK κ13.1 b = 8) ∧ F_X0_number G b 76 2 (fun (z15 : Int64) (κ14 : CS) => ∀ z16 : Int32, z16 = (z15 : Int64).toInt32 → lc (fun (K19 : Int32 → CS → Prop) (x17 : Int32) (κ18 : CS) => (h ∈ sL κ18.1 ∧ sK κ18.1 h = 11) ∧ ∀ z21 : Int32, z21 = sI κ18.1 h 3 → ((z21.toInt ≤ x17.toInt) → post κ18) ∧ ((x17.toInt < z21.toInt) → (h ∈ sL κ18.1 ∧ sK κ18.1 h = 11) ∧ ∀ z22 : Option Nat, z22 = sP κ18.1 h 2 → ∀ z23 : Int32, z23 = z16 + x17 → ∃ b : Nat, a3 = some b ∧ (b ∈ sL κ18.1 ∧ sK κ18.1 b = 8) ∧ F_X0_number G b z23 1 (fun (z25 : Int64) (κ24 : CS) => ∀ z26 : Int32, z26 = (z25 : Int64).toInt32 → ∀ z27 : Int32, z27 = (z26 : Int32).toInt8.toInt32 → ∃ b : Nat, z22 = some b ∧ (b ∈ sL κ24.1 ∧ sK κ24.1 b = 20) ∧ (0 ≤ x17.toInt ∧ x17.toInt < (sN κ24.1 b : Int)) ∧ ∀ κ28 : CS, κ28 = (h_uI κ24.1 b x17.toInt.toNat (vp_nar .byte z27), κ24.2) → ∀ z29 : Int32, z29 = x17 + 1 → K19 z29 κ28) κ18)) 0 κ14) κ13) κ7
theorem dX7_init_0 : decode cX7_init 0 = .ok (.aload_n 0, 1) := by decide +kernel
theorem dX7_init_1 : decode cX7_init 1 = .ok (.invokespecial 3, 3) := by decide +kernel
theorem dX7_init_4 : decode cX7_init 4 = .ok (.aload_n 0, 1) := by decide +kernel
theorem dX7_init_5 : decode cX7_init 5 = .ok (.bipush 16, 2) := by decide +kernel
theorem dX7_init_7 : decode cX7_init 7 = .ok (.newarray .byte, 2) := by decide +kernel
theorem dX7_init_9 : decode cX7_init 9 = .ok (.putfield 9, 3) := by decide +kernel
theorem dX7_init_12 : decode cX7_init 12 = .ok (.aload_n 0, 1) := by decide +kernel
theorem dX7_init_13 : decode cX7_init 13 = .ok (.lload_n 1, 1) := by decide +kernel
theorem dX7_init_14 : decode cX7_init 14 = .ok (.putfield 15, 3) := by decide +kernel
theorem dX7_init_17 : decode cX7_init 17 = .ok (.aload_n 0, 1) := by decide +kernel
theorem dX7_init_18 : decode cX7_init 18 = .ok (.aload_n 3, 1) := by decide +kernel
theorem dX7_init_19 : decode cX7_init 19 = .ok (.getfield 19, 3) := by decide +kernel
theorem dX7_init_22 : decode cX7_init 22 = .ok (.putfield 25, 3) := by decide +kernel
theorem dX7_init_25 : decode cX7_init 25 = .ok (.aload_n 0, 1) := by decide +kernel
theorem dX7_init_26 : decode cX7_init 26 = .ok (.aload_n 3, 1) := by decide +kernel
theorem dX7_init_27 : decode cX7_init 27 = .ok (.bipush 78, 2) := by decide +kernel
theorem dX7_init_29 : decode cX7_init 29 = .ok (.iconst 2, 1) := by decide +kernel
theorem dX7_init_30 : decode cX7_init 30 = .ok (.invokevirtual 26, 3) := by decide +kernel
theorem dX7_init_33 : decode cX7_init 33 = .ok (.ldc2_w 30, 3) := by decide +kernel
theorem dX7_init_36 : decode cX7_init 36 = .ok (.invokestatic 32, 3) := by decide +kernel
theorem dX7_init_39 : decode cX7_init 39 = .ok (.l2i, 1) := by decide +kernel
theorem dX7_init_40 : decode cX7_init 40 = .ok (.putfield 38, 3) := by decide +kernel
theorem dX7_init_43 : decode cX7_init 43 = .ok (.aload_n 3, 1) := by decide +kernel
theorem dX7_init_44 : decode cX7_init 44 = .ok (.bipush 76, 2) := by decide +kernel
theorem dX7_init_46 : decode cX7_init 46 = .ok (.iconst 2, 1) := by decide +kernel
theorem dX7_init_47 : decode cX7_init 47 = .ok (.invokevirtual 26, 3) := by decide +kernel
theorem dX7_init_50 : decode cX7_init 50 = .ok (.l2i, 1) := by decide +kernel
theorem dX7_init_51 : decode cX7_init 51 = .ok (.istore 4, 2) := by decide +kernel
theorem dX7_init_53 : decode cX7_init 53 = .ok (.iconst 0, 1) := by decide +kernel
theorem dX7_init_54 : decode cX7_init 54 = .ok (.istore 5, 2) := by decide +kernel
theorem dX7_init_56 : decode cX7_init 56 = .ok (.iload 5, 2) := by decide +kernel
theorem dX7_init_58 : decode cX7_init 58 = .ok (.aload_n 0, 1) := by decide +kernel
theorem dX7_init_59 : decode cX7_init 59 = .ok (.getfield 38, 3) := by decide +kernel
theorem dX7_init_62 : decode cX7_init 62 = .ok (.if_icmp .ge 28, 3) := by decide +kernel
theorem dX7_init_65 : decode cX7_init 65 = .ok (.aload_n 0, 1) := by decide +kernel
theorem dX7_init_66 : decode cX7_init 66 = .ok (.getfield 9, 3) := by decide +kernel
theorem dX7_init_69 : decode cX7_init 69 = .ok (.iload 5, 2) := by decide +kernel
theorem dX7_init_71 : decode cX7_init 71 = .ok (.aload_n 3, 1) := by decide +kernel
theorem dX7_init_72 : decode cX7_init 72 = .ok (.iload 4, 2) := by decide +kernel
theorem dX7_init_74 : decode cX7_init 74 = .ok (.iload 5, 2) := by decide +kernel
theorem dX7_init_76 : decode cX7_init 76 = .ok (.iadd, 1) := by decide +kernel
theorem dX7_init_77 : decode cX7_init 77 = .ok (.iconst 1, 1) := by decide +kernel
theorem dX7_init_78 : decode cX7_init 78 = .ok (.invokevirtual 26, 3) := by decide +kernel
theorem dX7_init_81 : decode cX7_init 81 = .ok (.l2i, 1) := by decide +kernel
theorem dX7_init_82 : decode cX7_init 82 = .ok (.i2b, 1) := by decide +kernel
theorem dX7_init_83 : decode cX7_init 83 = .ok (.bastore, 1) := by decide +kernel
theorem dX7_init_84 : decode cX7_init 84 = .ok (.iinc 5 1, 3) := by decide +kernel
theorem dX7_init_87 : decode cX7_init 87 = .ok (.goto (-31), 3) := by decide +kernel
theorem dX7_init_90 : decode cX7_init 90 = .ok (.return_, 1) := by decide +kernel
set_option maxRecDepth 100000 in
set_option maxHeartbeats 4000000 in
theorem c_X7_init (l : Launch) (D : va_G) (t : Nat → ClassId) (G : GE) (κ : CS) (h : Nat) (a1 : Int64) (a3 : Option Nat) (post : CS → Prop) (hw : F_X7_init G h a1 a3 post κ) (sz : Nat) : CMv l D t yX7_init cX7_init 6 2 62 G κ sz [.ref h, .long a1, va_rf a3] post := by
  refine c_go (by decide) (by cases a3 <;> exact Nat.le_of_ble_eq_true rfl) ?_
  intro p e s m below meth c ls A hF hr hlk hin hAe hH hA hE hl
  unfold cB
  rw [hAe]
  clear hAe
  have hF : FX p m c cX7_init 6 s _ RX7 D t := hF
  have hx := hF.1.1
  have hb := hF.1.2.1
  have hl : lv_has ls 6 [(0, .ref h), (1, .long a1), (3, va_rf a3)] := (by have h2 := hl; clear hw; revert h2; cases a3 <;> exact id)
  unfold F_X7_init at hw
  refine lv_aload_n hx hb dX7_init_0 rfl (lv_at hl 0 rfl) ?_
  refine W.objInit hx hb hF.1.2.2.2.1 (hF.1.2.2.2.2 _ (wc_36 5 rfl)) (hF.1.2.2.2.2 _ (wc_5 1 rfl)) (hF.1.2.2.2.2 _ (wc_5 0 rfl)) rfl (hl.1.trans hF.1.2.2.1.symm) rfl dX7_init_1 (Nat.le_of_ble_eq_true rfl) (Nat.le_of_ble_eq_true rfl) ?_
  refine lv_aload_n hx hb dX7_init_4 rfl (lv_at hl 0 rfl) ?_
  refine lv_bipush (v := 16) hx hb dX7_init_5 (by decide) ?_
  refine cw_newarr_byte hF hH hA (wc_5 11 rfl) dX7_init_7 hw (fun o2 κ3 H locs cells slots hw hH => ?_)
  refine cw_putFP (a := h) (v := (some o2)) hF hH fk_X7_9 dX7_init_9 hin rfl rfl rfl hw (fun κ4 H locs cells slots hw hH => ?_)
  refine lv_aload_n hx hb dX7_init_12 rfl (lv_at hl 0 rfl) ?_
  refine lv_lload_n hx hb dX7_init_13 rfl (lv_at hl 1 rfl) ?_
  refine cw_putFJ (a := h) (v := a1) hF hH fk_X7_15 dX7_init_14 hin rfl rfl rfl rfl hw (fun κ5 H locs cells slots hw hH => ?_)
  refine lv_aload_n hx hb dX7_init_17 rfl (lv_at hl 0 rfl) ?_
  refine w_aloadq_n hF dX7_init_18 rfl (lv_at hl 2 rfl) ?_
  refine cw_getP (q := a3) hF hH fk_X7_19 dX7_init_19 hw (fun z6 hw => ?_)
  refine cw_putFP (a := h) (v := z6) hF hH fk_X7_25 dX7_init_22 hin rfl rfl rfl hw (fun κ7 H locs cells slots hw hH => ?_)
  refine lv_aload_n hx hb dX7_init_25 rfl (lv_at hl 0 rfl) ?_
  refine w_aloadq_n hF dX7_init_26 rfl (lv_at hl 2 rfl) ?_
  refine lv_bipush (v := 78) hx hb dX7_init_27 (by decide) ?_
  refine lv_iconst (v := 2) hx hb dX7_init_29 (by decide) ?_
  refine cw_cVlq (q := a3) (As := [.int 78, .int 2]) (rest := [.ref h]) hF hH hA hE mv_X7_26 ci_X0 (by decide) hw (fun b hw sz => c_X0_number l D t G _ b 78 2 _ hw sz) dX7_init_30 ⟨Nat.le_of_ble_eq_true rfl, Nat.le_of_ble_eq_true rfl⟩ rfl hl.1 (Nat.le_of_ble_eq_true rfl) rfl (fun z9 κ8 H locs cells slots hw hH => ?_)
  refine lv_ldc2 (v := 16) hx hb hF.1.2.2.2.1 (hF.1.2.2.2.2 _ (wc_36 9 rfl)) dX7_init_33 ?_
  refine cw_mminl hF hH hl.1 (wc_36 10 rfl) (wc_20 8 rfl) (wc_5 5 rfl) (wc_20 7 rfl) (Nat.le_of_ble_eq_true rfl) (Nat.le_of_ble_eq_true rfl) dX7_init_36 hw (fun z11 hw => ?_)
  refine lv_l2i hx hb dX7_init_39 rfl ?_
  refine w_nmi hw (fun z12 hw => ?_)
  refine cw_putFI (a := h) (v := z12) hF hH fk_X7_38 dX7_init_40 hin rfl rfl rfl rfl hw (fun κ13 H locs cells slots hw hH => ?_)
  refine w_aloadq_n hF dX7_init_43 rfl (lv_at hl 2 rfl) ?_
  refine lv_bipush (v := 76) hx hb dX7_init_44 (by decide) ?_
  refine lv_iconst (v := 2) hx hb dX7_init_46 (by decide) ?_
  refine cw_cVlq (q := a3) (As := [.int 76, .int 2]) (rest := []) hF hH hA hE mv_X7_26 ci_X0 (by decide) hw (fun b hw sz => c_X0_number l D t G _ b 76 2 _ hw sz) dX7_init_47 ⟨Nat.le_of_ble_eq_true rfl, Nat.le_of_ble_eq_true rfl⟩ rfl hl.1 (Nat.le_of_ble_eq_true rfl) rfl (fun z15 κ14 H locs cells slots hw hH => ?_)
  refine lv_l2i hx hb dX7_init_50 rfl ?_
  refine w_nmi hw (fun z16 hw => ?_)
  refine lv_istore (lv' := [(4, .int z16), (0, .ref h), (1, .long a1), (3, va_rf a3)]) hx hb dX7_init_51 hl (by decide) (by generalize a3 = y; cases y <;> rfl) (fun ls hl => ?_)
  refine lv_iconst (v := 0) hx hb dX7_init_53 (by decide) ?_
  refine lv_istore (lv' := [(5, .int 0), (4, .int z16), (0, .ref h), (1, .long a1), (3, va_rf a3)]) hx hb dX7_init_54 hl (by decide) rfl (fun ls hl => ?_)
  have hl : lv_has ls 6 [(5, .int 0), (4, .int z16), (3, va_rf a3), (0, .ref h)] := lv_sub hl [0, 1, 4, 2] rfl
  refine cw_loop (β := Int32) (fun x17 => [(5, .int x17), (4, .int z16), (3, va_rf a3), (0, .ref h)]) 0 hl hw hH (fun K19 x17 κ18 ls H locs cells slots hl hw hH ih20 => ?_)
  have hl : lv_has ls 6 [(5, .int x17), (4, .int z16), (3, va_rf a3), (0, .ref h)] := hl
  refine lv_iload hx hb dX7_init_56 (lv_at hl 0 rfl) ?_
  refine lv_aload_n hx hb dX7_init_58 rfl (lv_at hl 3 rfl) ?_
  refine cw_getIr (a := h) hF hH fk_X7_38 dX7_init_59 hw (fun z21 hw => ?_)
  refine w_icmp_ge (tgt := 90) hF dX7_init_62 rfl hw (fun hw => ?_) (fun hw => ?_)
  · exact cw_retv hF hH ⟨rfl, rfl⟩ hr hlk dX7_init_90 hw
  · refine lv_aload_n hx hb dX7_init_65 rfl (lv_at hl 3 rfl) ?_
    refine cw_getPr (a := h) hF hH fk_X7_9 dX7_init_66 hw (fun z22 hw => ?_)
    refine lv_iload hx hb dX7_init_69 (lv_at hl 0 rfl) ?_
    refine w_aloadq_n hF dX7_init_71 rfl (lv_at hl 2 rfl) ?_
    refine lv_iload hx hb dX7_init_72 (lv_at hl 1 rfl) ?_
    refine lv_iload hx hb dX7_init_74 (lv_at hl 0 rfl) ?_
    refine lv_iadd hx hb dX7_init_76 ?_
    refine w_nmi hw (fun z23 hw => ?_)
    refine lv_iconst (v := 1) hx hb dX7_init_77 (by decide) ?_
    refine cw_cVlq (q := a3) (As := [.int z23, .int 1]) (rest := [.int x17, va_rf z22]) hF hH hA hE mv_X7_26 ci_X0 (by decide) hw (fun b hw sz => c_X0_number l D t G _ b z23 1 _ hw sz) dX7_init_78 ⟨Nat.le_of_ble_eq_true rfl, Nat.le_of_ble_eq_true rfl⟩ rfl hl.1 (by simp only [List.map_cons, List.map_nil, cat_rf]; exact Nat.le_of_ble_eq_true rfl) rfl (fun z25 κ24 H locs cells slots hw hH => ?_)
    refine lv_l2i hx hb dX7_init_81 rfl ?_
    refine w_nmi hw (fun z26 hw => ?_)
    refine lv_i2b hx hb dX7_init_82 rfl ?_
    refine w_nmi hw (fun z27 hw => ?_)
    refine cw_bast (q := z22) hF hH dX7_init_83 hw (fun κ28 H locs cells slots hw hH => ?_)
    obtain ⟨z29, ez29⟩ : ∃ z : Int32, z = x17 + 1 := ⟨_, rfl⟩
    have hw := hw z29 ez29
    refine lv_iinc (lv' := [(5, .int z29), (4, .int z16), (3, va_rf a3), (0, .ref h)]) (k := 0) (v := z29) hx hb dX7_init_84 hl rfl ez29.symm (by decide) rfl (fun ls hl => ?_)
    refine lv_goto (tgt := 56) hx hb dX7_init_87 rfl ?_
    exact ih20 z29 κ28 ls _ _ _ _ hl hw hH
set_option maxRecDepth 100000 in
def F_X7_isNamed (G : GE) (h : Nat) (a1 : Option Nat) (a2 : Int32) (a3 : Int32) (post : Int32 → CS → Prop) (κ : CS) : Prop := (h ∈ sL κ.1 ∧ sK κ.1 h = 11) ∧ ∀ z1 : Int32, z1 = sI κ.1 h 3 → jc (fun (K4 : Int32 → CS → Prop) => ((¬ a3.toInt = z1.toInt) → K4 0 κ) ∧ ((a3.toInt = z1.toInt) → K4 1 κ)) (fun (x2 : Int32) (κ3 : CS) => lc (fun (K9 : (Int32 × Int32) → CS → Prop) (x7 : Int32 × Int32) (κ8 : CS) => jc (fun (K13 : Unit → CS → Prop) => ((a3.toInt ≤ x7.1.toInt) → K13 () κ8) ∧ ((x7.1.toInt < a3.toInt) → (h ∈ sL κ8.1 ∧ sK κ8.1 h = 11) ∧ ∀ z16 : Int32, z16 = sI κ8.1 h 3 → ((z16.toInt ≤ x7.1.toInt) → K13 () κ8) ∧ ((x7.1.toInt < z16.toInt) → jc (fun (K19 : Int32 → CS → Prop) => jc (fun (K25 : Unit → CS → Prop) => ((x7.2.toInt = 0) → K25 () κ8) ∧ ((¬ x7.2.toInt = 0) → (h ∈ sL κ8.1 ∧ sK κ8.1 h = 11) ∧ ∀ z28 : Option Nat, z28 = sP κ8.1 h 2 → ∃ (f : Nat → Int32) (n : Nat), BA G κ8 z28 f n ∧ (0 ≤ x7.1.toInt ∧ x7.1.toInt < (n : Int)) ∧ ∀ z29 : Int32, z29 = f x7.1.toInt.toNat → ∀ z30 : Int64, z30 = (z29 : Int32).toInt64 → ∀ z31 : Int32, z31 = a2 + x7.1 → ∃ b : Nat, a1 = some b ∧ (b ∈ sL κ8.1 ∧ sK κ8.1 b = 8) ∧ F_X0_number G b z31 1 (fun (z33 : Int64) (κ32 : CS) => ((¬ z30.toInt = z33.toInt) → K25 () κ32) ∧ ((z30.toInt = z33.toInt) → K19 1 κ32)) κ8)) (fun (x23 : Unit) (κ24 : CS) => K19 0 κ24)) (fun (x17 : Int32) (κ18 : CS) => ∀ z22 : Int32, z22 = x7.1 + 1 → K9 (z22, x17) κ18)))) (fun (x11 : Unit) (κ12 : CS) => (0 ≤ x7.2.toInt ∧ x7.2.toInt ≤ 1) ∧ post x7.2 κ12)) (0, x2) κ3)
theorem dX7_isNamed_0 : decode cX7_isNamed 0 = .ok (.iload_n 3, 1) := by decide +kernel
theorem dX7_isNamed_1 : decode cX7_isNamed 1 = .ok (.aload_n 0, 1) := by decide +kernel
theorem dX7_isNamed_2 : decode cX7_isNamed 2 = .ok (.getfield 38, 3) := by decide +kernel
theorem dX7_isNamed_5 : decode cX7_isNamed 5 = .ok (.if_icmp .ne 7, 3) := by decide +kernel
theorem dX7_isNamed_8 : decode cX7_isNamed 8 = .ok (.iconst 1, 1) := by decide +kernel
theorem dX7_isNamed_9 : decode cX7_isNamed 9 = .ok (.goto 4, 3) := by decide +kernel
theorem dX7_isNamed_12 : decode cX7_isNamed 12 = .ok (.iconst 0, 1) := by decide +kernel
theorem dX7_isNamed_13 : decode cX7_isNamed 13 = .ok (.istore 4, 2) := by decide +kernel
theorem dX7_isNamed_15 : decode cX7_isNamed 15 = .ok (.iconst 0, 1) := by decide +kernel
theorem dX7_isNamed_16 : decode cX7_isNamed 16 = .ok (.istore 5, 2) := by decide +kernel
theorem dX7_isNamed_18 : decode cX7_isNamed 18 = .ok (.iload 5, 2) := by decide +kernel
theorem dX7_isNamed_20 : decode cX7_isNamed 20 = .ok (.iload_n 3, 1) := by decide +kernel
theorem dX7_isNamed_21 : decode cX7_isNamed 21 = .ok (.if_icmp .ge 51, 3) := by decide +kernel
theorem dX7_isNamed_24 : decode cX7_isNamed 24 = .ok (.iload 5, 2) := by decide +kernel
theorem dX7_isNamed_26 : decode cX7_isNamed 26 = .ok (.aload_n 0, 1) := by decide +kernel
theorem dX7_isNamed_27 : decode cX7_isNamed 27 = .ok (.getfield 38, 3) := by decide +kernel
theorem dX7_isNamed_30 : decode cX7_isNamed 30 = .ok (.if_icmp .ge 42, 3) := by decide +kernel
theorem dX7_isNamed_33 : decode cX7_isNamed 33 = .ok (.iload 4, 2) := by decide +kernel
theorem dX7_isNamed_35 : decode cX7_isNamed 35 = .ok (.ifCond .eq 28, 3) := by decide +kernel
theorem dX7_isNamed_38 : decode cX7_isNamed 38 = .ok (.aload_n 0, 1) := by decide +kernel
theorem dX7_isNamed_39 : decode cX7_isNamed 39 = .ok (.getfield 9, 3) := by decide +kernel
theorem dX7_isNamed_42 : decode cX7_isNamed 42 = .ok (.iload 5, 2) := by decide +kernel
theorem dX7_isNamed_44 : decode cX7_isNamed 44 = .ok (.baload, 1) := by decide +kernel
theorem dX7_isNamed_45 : decode cX7_isNamed 45 = .ok (.i2l, 1) := by decide +kernel
theorem dX7_isNamed_46 : decode cX7_isNamed 46 = .ok (.aload_n 1, 1) := by decide +kernel
theorem dX7_isNamed_47 : decode cX7_isNamed 47 = .ok (.iload_n 2, 1) := by decide +kernel
theorem dX7_isNamed_48 : decode cX7_isNamed 48 = .ok (.iload 5, 2) := by decide +kernel
theorem dX7_isNamed_50 : decode cX7_isNamed 50 = .ok (.iadd, 1) := by decide +kernel
theorem dX7_isNamed_51 : decode cX7_isNamed 51 = .ok (.iconst 1, 1) := by decide +kernel
theorem dX7_isNamed_52 : decode cX7_isNamed 52 = .ok (.invokevirtual 26, 3) := by decide +kernel
theorem dX7_isNamed_55 : decode cX7_isNamed 55 = .ok (.lcmp, 1) := by decide +kernel
theorem dX7_isNamed_56 : decode cX7_isNamed 56 = .ok (.ifCond .ne 7, 3) := by decide +kernel
theorem dX7_isNamed_59 : decode cX7_isNamed 59 = .ok (.iconst 1, 1) := by decide +kernel
theorem dX7_isNamed_60 : decode cX7_isNamed 60 = .ok (.goto 4, 3) := by decide +kernel
theorem dX7_isNamed_63 : decode cX7_isNamed 63 = .ok (.iconst 0, 1) := by decide +kernel
theorem dX7_isNamed_64 : decode cX7_isNamed 64 = .ok (.istore 4, 2) := by decide +kernel
theorem dX7_isNamed_66 : decode cX7_isNamed 66 = .ok (.iinc 5 1, 3) := by decide +kernel
theorem dX7_isNamed_69 : decode cX7_isNamed 69 = .ok (.goto (-51), 3) := by decide +kernel
theorem dX7_isNamed_72 : decode cX7_isNamed 72 = .ok (.iload 4, 2) := by decide +kernel
theorem dX7_isNamed_74 : decode cX7_isNamed 74 = .ok (.ireturn, 1) := by decide +kernel
set_option maxRecDepth 100000 in
set_option maxHeartbeats 4000000 in
theorem c_X7_isNamed (l : Launch) (D : va_G) (t : Nat → ClassId) (G : GE) (κ : CS) (h : Nat) (a1 : Option Nat) (a2 : Int32) (a3 : Int32) (post : Int32 → CS → Prop) (hw : F_X7_isNamed G h a1 a2 a3 post κ) (sz : Nat) : CMi l D t yX7_isNamed cX7_isNamed 6 (some .boolean) 2 62 G κ sz [.ref h, va_rf a1, .int a2, .int a3] post := by
  refine c_go (by decide) (by cases a1 <;> exact Nat.le_of_ble_eq_true rfl) ?_
  intro p e s m below meth c ls A hF hr hlk hin hAe hH hA hE hl
  unfold cB
  rw [hAe]
  clear hAe
  have hF : FX p m c cX7_isNamed 6 s _ RX7 D t := hF
  have hx := hF.1.1
  have hb := hF.1.2.1
  have hl : lv_has ls 6 [(0, .ref h), (1, va_rf a1), (2, .int a2), (3, .int a3)] := (by have h2 := hl; clear hw; revert h2; cases a1 <;> exact id)
  unfold F_X7_isNamed at hw
  refine lv_iload_n hx hb dX7_isNamed_0 rfl (lv_at hl 3 rfl) ?_
  refine lv_aload_n hx hb dX7_isNamed_1 rfl (lv_at hl 0 rfl) ?_
  refine cw_getIr (a := h) hF hH fk_X7_38 dX7_isNamed_2 hw (fun z1 hw => ?_)
  obtain ⟨K4, hK5, hw⟩ := jc_open hw
  refine cw_join (K := K4) 13 (fun (x2 : Int32) => [(3, .int a3), (2, .int a2), (1, va_rf a1), (0, .ref h)]) (fun (x2 : Int32) => [.int x2]) hl hH (fun x2 κ3 ls H locs cells slots hl hw hH => ?_) (fun jn6 => ?_)
  · have hw := hK5 x2 κ3 hw
    have hl : lv_has ls 6 [(3, .int a3), (2, .int a2), (1, va_rf a1), (0, .ref h)] := hl
    refine lv_istore (lv' := [(4, .int x2), (3, .int a3), (2, .int a2), (1, va_rf a1), (0, .ref h)]) hx hb dX7_isNamed_13 hl (by decide) rfl (fun ls hl => ?_)
    refine lv_iconst (v := 0) hx hb dX7_isNamed_15 (by decide) ?_
    refine lv_istore (lv' := [(5, .int 0), (4, .int x2), (3, .int a3), (2, .int a2), (1, va_rf a1), (0, .ref h)]) hx hb dX7_isNamed_16 hl (by decide) rfl (fun ls hl => ?_)
    refine cw_loop (β := Int32 × Int32) (fun x7 => [(5, .int x7.1), (4, .int x7.2), (3, .int a3), (2, .int a2), (1, va_rf a1), (0, .ref h)]) (0, x2) hl hw hH (fun K9 x7 κ8 ls H locs cells slots hl hw hH ih10 => ?_)
    have hl : lv_has ls 6 [(5, .int x7.1), (4, .int x7.2), (3, .int a3), (2, .int a2), (1, va_rf a1), (0, .ref h)] := hl
    refine lv_iload hx hb dX7_isNamed_18 (lv_at hl 0 rfl) ?_
    refine lv_iload_n hx hb dX7_isNamed_20 rfl (lv_at hl 2 rfl) ?_
    obtain ⟨K13, hK14, hw⟩ := jc_open hw
    refine cw_join (K := K13) 72 (fun (x11 : Unit) => [(4, .int x7.2)]) (fun (x11 : Unit) => []) hl hH (fun x11 κ12 ls H locs cells slots hl hw hH => ?_) (fun jn15 => ?_)
    · have hw := hK14 x11 κ12 hw
      have hl : lv_has ls 6 [(4, .int x7.2)] := hl
      refine lv_iload hx hb dX7_isNamed_72 (lv_at hl 0 rfl) ?_
      exact cw_retz hF hH ⟨rfl, rfl⟩ hr hlk dX7_isNamed_74 hw
    · skip
      refine w_icmp_ge (tgt := 72) hF dX7_isNamed_21 rfl hw (fun hw => ?_) (fun hw => ?_)
      · have hl : lv_has ls 6 [(4, .int x7.2)] := lv_sub hl [1] rfl
        exact jn15 () κ8 ls _ _ _ _ hl hw hH
      · refine lv_iload hx hb dX7_isNamed_24 (lv_at hl 0 rfl) ?_
        refine lv_aload_n hx hb dX7_isNamed_26 rfl (lv_at hl 5 rfl) ?_
        refine cw_getIr (a := h) hF hH fk_X7_38 dX7_isNamed_27 hw (fun z16 hw => ?_)
        refine w_icmp_ge (tgt := 72) hF dX7_isNamed_30 rfl hw (fun hw => ?_) (fun hw => ?_)
        · have hl : lv_has ls 6 [(4, .int x7.2)] := lv_sub hl [1] rfl
          exact jn15 () κ8 ls _ _ _ _ hl hw hH
        · refine lv_iload hx hb dX7_isNamed_33 (lv_at hl 1 rfl) ?_
          obtain ⟨K19, hK20, hw⟩ := jc_open hw
          refine cw_join (K := K19) 64 (fun (x17 : Int32) => [(5, .int x7.1), (3, .int a3), (2, .int a2), (1, va_rf a1), (0, .ref h)]) (fun (x17 : Int32) => [.int x17]) hl hH (fun x17 κ18 ls H locs cells slots hl hw hH => ?_) (fun jn21 => ?_)
          · have hw := hK20 x17 κ18 hw
            have hl : lv_has ls 6 [(5, .int x7.1), (3, .int a3), (2, .int a2), (1, va_rf a1), (0, .ref h)] := hl
            refine lv_istore (lv' := [(4, .int x17), (5, .int x7.1), (3, .int a3), (2, .int a2), (1, va_rf a1), (0, .ref h)]) hx hb dX7_isNamed_64 hl (by decide) rfl (fun ls hl => ?_)
            obtain ⟨z22, ez22⟩ : ∃ z : Int32, z = x7.1 + 1 := ⟨_, rfl⟩
            have hw := hw z22 ez22
            refine lv_iinc (lv' := [(5, .int z22), (4, .int x17), (3, .int a3), (2, .int a2), (1, va_rf a1), (0, .ref h)]) (k := 1) (v := z22) hx hb dX7_isNamed_66 hl rfl ez22.symm (by decide) rfl (fun ls hl => ?_)
            refine lv_goto (tgt := 18) hx hb dX7_isNamed_69 rfl ?_
            exact ih10 (z22, x17) κ18 ls _ _ _ _ hl hw hH
          · skip
            obtain ⟨K25, hK26, hw⟩ := jc_open hw
            refine cw_join (K := K25) 63 (fun (x23 : Unit) => [(5, .int x7.1), (3, .int a3), (2, .int a2), (1, va_rf a1), (0, .ref h)]) (fun (x23 : Unit) => []) hl hH (fun x23 κ24 ls H locs cells slots hl hw hH => ?_) (fun jn27 => ?_)
            · have hw := hK26 x23 κ24 hw
              have hl : lv_has ls 6 [(5, .int x7.1), (3, .int a3), (2, .int a2), (1, va_rf a1), (0, .ref h)] := hl
              refine lv_iconst (v := 0) hx hb dX7_isNamed_63 (by decide) ?_
              exact jn21 0 κ24 ls _ _ _ _ hl hw hH
            · skip
              refine w_if_eq (tgt := 63) hF dX7_isNamed_35 rfl hw (fun hw => ?_) (fun hw => ?_)
              · have hl : lv_has ls 6 [(5, .int x7.1), (3, .int a3), (2, .int a2), (1, va_rf a1), (0, .ref h)] := lv_sub hl [0, 2, 3, 4, 5] rfl
                exact jn27 () κ8 ls _ _ _ _ hl hw hH
              · refine lv_aload_n hx hb dX7_isNamed_38 rfl (lv_at hl 5 rfl) ?_
                refine cw_getPr (a := h) hF hH fk_X7_9 dX7_isNamed_39 hw (fun z28 hw => ?_)
                refine lv_iload hx hb dX7_isNamed_42 (lv_at hl 0 rfl) ?_
                refine cw_bald (q := z28) hF hH hE dX7_isNamed_44 hw (fun z29 hw => ?_)
                refine lv_i2l hx hb dX7_isNamed_45 rfl ?_
                refine w_nml hw (fun z30 hw => ?_)
                refine w_aloadq_n hF dX7_isNamed_46 rfl (lv_at hl 4 rfl) ?_
                refine lv_iload_n hx hb dX7_isNamed_47 rfl (lv_at hl 3 rfl) ?_
                refine lv_iload hx hb dX7_isNamed_48 (lv_at hl 0 rfl) ?_
                refine lv_iadd hx hb dX7_isNamed_50 ?_
                refine w_nmi hw (fun z31 hw => ?_)
                refine lv_iconst (v := 1) hx hb dX7_isNamed_51 (by decide) ?_
                refine cw_cVlq (q := a1) (As := [.int z31, .int 1]) (rest := [.long z30]) hF hH hA hE mv_X7_26 ci_X0 (by decide) hw (fun b hw sz => c_X0_number l D t G _ b z31 1 _ hw sz) dX7_isNamed_52 ⟨Nat.le_of_ble_eq_true rfl, Nat.le_of_ble_eq_true rfl⟩ rfl hl.1 (Nat.le_of_ble_eq_true rfl) rfl (fun z33 κ32 H locs cells slots hw hH => ?_)
                refine w_lif_ne (tgt := 63) hF dX7_isNamed_55 dX7_isNamed_56 rfl hw (fun hw => ?_) (fun hw => ?_)
                · have hl : lv_has ls 6 [(5, .int x7.1), (3, .int a3), (2, .int a2), (1, va_rf a1), (0, .ref h)] := lv_sub hl [0, 2, 3, 4, 5] rfl
                  exact jn27 () κ32 ls _ _ _ _ hl hw hH
                · refine lv_iconst (v := 1) hx hb dX7_isNamed_59 (by decide) ?_
                  refine lv_goto (tgt := 64) hx hb dX7_isNamed_60 rfl ?_
                  have hl : lv_has ls 6 [(5, .int x7.1), (3, .int a3), (2, .int a2), (1, va_rf a1), (0, .ref h)] := lv_sub hl [0, 2, 3, 4, 5] rfl
                  exact jn21 1 κ32 ls _ _ _ _ hl hw hH
  · skip
    refine w_icmp_ne (tgt := 12) hF dX7_isNamed_5 rfl hw (fun hw => ?_) (fun hw => ?_)
    · refine lv_iconst (v := 0) hx hb dX7_isNamed_12 (by decide) ?_
      have hl : lv_has ls 6 [(3, .int a3), (2, .int a2), (1, va_rf a1), (0, .ref h)] := lv_sub hl [3, 2, 1, 0] rfl
      exact jn6 0 κ ls _ _ _ _ hl hw hH
    · refine lv_iconst (v := 1) hx hb dX7_isNamed_8 (by decide) ?_
      refine lv_goto (tgt := 13) hx hb dX7_isNamed_9 rfl ?_
      have hl : lv_has ls 6 [(3, .int a3), (2, .int a2), (1, va_rf a1), (0, .ref h)] := lv_sub hl [3, 2, 1, 0] rfl
      exact jn6 1 κ ls _ _ _ _ hl hw hH
set_option maxRecDepth 100000 in
def F_X8_init (G : GE) (h : Nat) (a1 : Int64) (a3 : Option Nat) (a4 : Option Nat) (post : CS → Prop) (κ : CS) : Prop := (h ∈ sL κ.1 ∧ sK κ.1 h = 12) ∧ ∀ κ2 : CS, κ2 = (h_uJ κ.1 h 0 a1, κ.2) → (h ∈ sL κ2.1 ∧ sK κ2.1 h = 12) ∧ ∀ κ3 : CS, κ3 = (h_uP κ2.1 h 1 a3, κ2.2) → (h ∈ sL κ3.1 ∧ sK κ3.1 h = 12) ∧ ∀ κ4 : CS, κ4 = (h_uP κ3.1 h 2 a4, κ3.2) → post κ4
theorem dX8_init_0 : decode cX8_init 0 = .ok (.aload_n 0, 1) := by decide +kernel
theorem dX8_init_1 : decode cX8_init 1 = .ok (.invokespecial 1, 3) := by decide +kernel
theorem dX8_init_4 : decode cX8_init 4 = .ok (.aload_n 0, 1) := by decide +kernel
theorem dX8_init_5 : decode cX8_init 5 = .ok (.lload_n 1, 1) := by decide +kernel
theorem dX8_init_6 : decode cX8_init 6 = .ok (.putfield 7, 3) := by decide +kernel
theorem dX8_init_9 : decode cX8_init 9 = .ok (.aload_n 0, 1) := by decide +kernel
theorem dX8_init_10 : decode cX8_init 10 = .ok (.aload_n 3, 1) := by decide +kernel
theorem dX8_init_11 : decode cX8_init 11 = .ok (.putfield 13, 3) := by decide +kernel
theorem dX8_init_14 : decode cX8_init 14 = .ok (.aload_n 0, 1) := by decide +kernel
theorem dX8_init_15 : decode cX8_init 15 = .ok (.aload 4, 2) := by decide +kernel
theorem dX8_init_17 : decode cX8_init 17 = .ok (.putfield 17, 3) := by decide +kernel
theorem dX8_init_20 : decode cX8_init 20 = .ok (.return_, 1) := by decide +kernel
set_option maxRecDepth 100000 in
set_option maxHeartbeats 4000000 in
theorem c_X8_init (l : Launch) (D : va_G) (t : Nat → ClassId) (G : GE) (κ : CS) (h : Nat) (a1 : Int64) (a3 : Option Nat) (a4 : Option Nat) (post : CS → Prop) (hw : F_X8_init G h a1 a3 a4 post κ) (sz : Nat) : CMv l D t yX8_init cX8_init 5 1 30 G κ sz [.ref h, .long a1, va_rf a3, va_rf a4] post := by
  refine c_go (by decide) (by cases a3 <;> cases a4 <;> exact Nat.le_of_ble_eq_true rfl) ?_
  intro p e s m below meth c ls A hF hr hlk hin hAe hH hA hE hl
  unfold cB
  rw [hAe]
  clear hAe
  have hF : FX p m c cX8_init 5 s _ RX8 D t := hF
  have hx := hF.1.1
  have hb := hF.1.2.1
  have hl : lv_has ls 5 [(0, .ref h), (1, .long a1), (3, va_rf a3), (4, va_rf a4)] := (by have h2 := hl; clear hw; revert h2; cases a3 <;> cases a4 <;> exact id)
  unfold F_X8_init at hw
  refine lv_aload_n hx hb dX8_init_0 rfl (lv_at hl 0 rfl) ?_
  refine W.objInit hx hb hF.1.2.2.2.1 (hF.1.2.2.2.2 _ (wc_36 12 rfl)) (hF.1.2.2.2.2 _ (wc_5 1 rfl)) (hF.1.2.2.2.2 _ (wc_5 0 rfl)) rfl (hl.1.trans hF.1.2.2.1.symm) rfl dX8_init_1 (Nat.le_of_ble_eq_true rfl) (Nat.le_of_ble_eq_true rfl) ?_
  refine lv_aload_n hx hb dX8_init_4 rfl (lv_at hl 0 rfl) ?_
  refine lv_lload_n hx hb dX8_init_5 rfl (lv_at hl 1 rfl) ?_
  refine cw_putFJ (a := h) (v := a1) hF hH fk_X8_7 dX8_init_6 hin rfl rfl rfl rfl hw (fun κ2 H locs cells slots hw hH => ?_)
  refine lv_aload_n hx hb dX8_init_9 rfl (lv_at hl 0 rfl) ?_
  refine w_aloadq_n hF dX8_init_10 rfl (lv_at hl 2 rfl) ?_
  refine cw_putFP (a := h) (v := a3) hF hH fk_X8_13 dX8_init_11 hin rfl rfl rfl hw (fun κ3 H locs cells slots hw hH => ?_)
  refine lv_aload_n hx hb dX8_init_14 rfl (lv_at hl 0 rfl) ?_
  refine w_aloadq hF dX8_init_15 (lv_at hl 3 rfl) ?_
  refine cw_putFP (a := h) (v := a4) hF hH fk_X8_17 dX8_init_17 hin rfl rfl rfl hw (fun κ4 H locs cells slots hw hH => ?_)
  exact cw_retv hF hH ⟨rfl, rfl⟩ hr hlk dX8_init_20 hw
set_option maxRecDepth 100000 in
def F_X9_init (G : GE) (h : Nat) (post : CS → Prop) (κ : CS) : Prop := (0 ≤ (80 : Int32).toInt ∧ (80 : Int32).toInt ≤ 1000000) ∧ ((80 : Int32).toInt.toNat + 12 ≤ κ.2) ∧ ∀ o2 : Nat, o2 ∉ sL κ.1 → ∀ κ3 : CS, κ3 = (h_uN κ.1 o2 26 (80 : Int32).toInt.toNat, κ.2 - ((80 : Int32).toInt.toNat + 12)) → (h ∈ sL κ3.1 ∧ sK κ3.1 h = 6) ∧ ∀ κ4 : CS, κ4 = (h_uP κ3.1 h 0 (some o2), κ3.2) → lc (fun (K7 : Int32 → CS → Prop) (x5 : Int32) (κ6 : CS) => (h ∈ sL κ6.1 ∧ sK κ6.1 h = 6) ∧ ∀ z9 : Option Nat, z9 = sP κ6.1 h 0 → ∃ n : Nat, AL G κ6 z9 n ∧ ∀ z10 : Int32, z10 = nI n → ((z10.toInt ≤ x5.toInt) → post κ6) ∧ ((x5.toInt < z10.toInt) → (h ∈ sL κ6.1 ∧ sK κ6.1 h = 6) ∧ ∀ z11 : Option Nat, z11 = sP κ6.1 h 0 → (14 + 12 ≤ κ6.2) ∧ ∀ o12 : Nat, o12 ∉ sL κ6.1 → ∀ κ13 : CS, κ13 = (h_uN κ6.1 o12 5 0, κ6.2 - (14 + 12)) → F_X4_init G o12 x5 (fun (κ14 : CS) => ∃ b : Nat, z11 = some b ∧ (b ∈ sL κ14.1 ∧ 24 ≤ sK κ14.1 b ∧ sK κ14.1 b < 28) ∧ (0 ≤ x5.toInt ∧ x5.toInt < (sN κ14.1 b : Int)) ∧ ((some o12) = none ∨ ∃ e : Nat, (some o12) = some e ∧ e ∈ sL κ14.1 ∧ stOk (sK κ14.1 b) (sK κ14.1 e) = true) ∧ ∀ κ16 : CS, κ16 = (h_uP κ14.1 b x5.toInt.toNat (some o12), κ14.2) → ∀ z17 : Int32, z17 = x5 + 1 → K7 z17 κ16) κ13)) 0 κ4
theorem dX9_init_0 : decode cX9_init 0 = .ok (.aload_n 0, 1) := by decide +kernel
theorem dX9_init_1 : decode cX9_init 1 = .ok (.invokespecial 3, 3) := by decide +kernel
theorem dX9_init_4 : decode cX9_init 4 = .ok (.aload_n 0, 1) := by decide +kernel
theorem dX9_init_5 : decode cX9_init 5 = .ok (.bipush 80, 2) := by decide +kernel
theorem dX9_init_7 : decode cX9_init 7 = .ok (.anewarray 9, 3) := by decide +kernel
theorem dX9_init_10 : decode cX9_init 10 = .ok (.putfield 11, 3) := by decide +kernel
theorem dX9_init_13 : decode cX9_init 13 = .ok (.iconst 0, 1) := by decide +kernel
theorem dX9_init_14 : decode cX9_init 14 = .ok (.istore_n 1, 1) := by decide +kernel
theorem dX9_init_15 : decode cX9_init 15 = .ok (.iload_n 1, 1) := by decide +kernel
theorem dX9_init_16 : decode cX9_init 16 = .ok (.aload_n 0, 1) := by decide +kernel
theorem dX9_init_17 : decode cX9_init 17 = .ok (.getfield 11, 3) := by decide +kernel
theorem dX9_init_20 : decode cX9_init 20 = .ok (.arraylength, 1) := by decide +kernel
theorem dX9_init_21 : decode cX9_init 21 = .ok (.if_icmp .ge 23, 3) := by decide +kernel
theorem dX9_init_24 : decode cX9_init 24 = .ok (.aload_n 0, 1) := by decide +kernel
theorem dX9_init_25 : decode cX9_init 25 = .ok (.getfield 11, 3) := by decide +kernel
theorem dX9_init_28 : decode cX9_init 28 = .ok (.iload_n 1, 1) := by decide +kernel
theorem dX9_init_29 : decode cX9_init 29 = .ok (.new 9, 3) := by decide +kernel
theorem dX9_init_32 : decode cX9_init 32 = .ok (.dup, 1) := by decide +kernel
theorem dX9_init_33 : decode cX9_init 33 = .ok (.iload_n 1, 1) := by decide +kernel
theorem dX9_init_34 : decode cX9_init 34 = .ok (.invokespecial 17, 3) := by decide +kernel
theorem dX9_init_37 : decode cX9_init 37 = .ok (.aastore, 1) := by decide +kernel
theorem dX9_init_38 : decode cX9_init 38 = .ok (.iinc 1 1, 3) := by decide +kernel
theorem dX9_init_41 : decode cX9_init 41 = .ok (.goto (-26), 3) := by decide +kernel
theorem dX9_init_44 : decode cX9_init 44 = .ok (.return_, 1) := by decide +kernel
set_option maxRecDepth 100000 in
set_option maxHeartbeats 4000000 in
theorem c_X9_init (l : Launch) (D : va_G) (t : Nat → ClassId) (G : GE) (κ : CS) (h : Nat) (post : CS → Prop) (hw : F_X9_init G h post κ) (sz : Nat) : CMv l D t yX9_init cX9_init 2 2 51 G κ sz [.ref h] post := by
  refine c_go (by decide) (Nat.le_of_ble_eq_true rfl) ?_
  intro p e s m below meth c ls A hF hr hlk hin hAe hH hA hE hl
  unfold cB
  rw [hAe]
  clear hAe
  have hF : FX p m c cX9_init 2 s _ RX9 D t := hF
  have hx := hF.1.1
  have hb := hF.1.2.1
  have hl : lv_has ls 2 [(0, .ref h)] := hl
  unfold F_X9_init at hw
  refine lv_aload_n hx hb dX9_init_0 rfl (lv_at hl 0 rfl) ?_
  refine W.objInit hx hb hF.1.2.2.2.1 (hF.1.2.2.2.2 _ (wc_6 26 rfl)) (hF.1.2.2.2.2 _ (wc_5 1 rfl)) (hF.1.2.2.2.2 _ (wc_5 0 rfl)) rfl (hl.1.trans hF.1.2.2.1.symm) rfl dX9_init_1 (Nat.le_of_ble_eq_true rfl) (Nat.le_of_ble_eq_true rfl) ?_
  refine lv_aload_n hx hb dX9_init_4 rfl (lv_at hl 0 rfl) ?_
  refine lv_bipush (v := 80) hx hb dX9_init_5 (by decide) ?_
  refine cw_anew 26 (by decide) hF hH hA (wc_6 27 rfl) (by decide) rfl dX9_init_7 hw (fun o2 κ3 H locs cells slots hw hH => ?_)
  refine cw_putFP (a := h) (v := (some o2)) hF hH fk_X9_11 dX9_init_10 hin rfl rfl rfl hw (fun κ4 H locs cells slots hw hH => ?_)
  refine lv_iconst (v := 0) hx hb dX9_init_13 (by decide) ?_
  refine lv_istore_n (lv' := [(1, .int 0), (0, .ref h)]) hx hb dX9_init_14 rfl hl (by decide) rfl (fun ls hl => ?_)
  refine cw_loop (β := Int32) (fun x5 => [(1, .int x5), (0, .ref h)]) 0 hl hw hH (fun K7 x5 κ6 ls H locs cells slots hl hw hH ih8 => ?_)
  have hl : lv_has ls 2 [(1, .int x5), (0, .ref h)] := hl
  refine lv_iload_n hx hb dX9_init_15 rfl (lv_at hl 0 rfl) ?_
  refine lv_aload_n hx hb dX9_init_16 rfl (lv_at hl 1 rfl) ?_
  refine cw_getPr (a := h) hF hH fk_X9_11 dX9_init_17 hw (fun z9 hw => ?_)
  refine cw_alen (q := z9) hF hH hE dX9_init_20 hw (fun z10 hw => ?_)
  refine w_icmp_ge (tgt := 44) hF dX9_init_21 rfl hw (fun hw => ?_) (fun hw => ?_)
  · exact cw_retv hF hH ⟨rfl, rfl⟩ hr hlk dX9_init_44 hw
  · refine lv_aload_n hx hb dX9_init_24 rfl (lv_at hl 1 rfl) ?_
    refine cw_getPr (a := h) hF hH fk_X9_11 dX9_init_25 hw (fun z11 hw => ?_)
    refine lv_iload_n hx hb dX9_init_28 rfl (lv_at hl 0 rfl) ?_
    refine cw_new hF hH hA ci_X4 (by decide) rfl df_X4 dX9_init_29 (wc_6 27 rfl) (wc_6 29 rfl) (wc_6 16 rfl) hw (fun o12 κ13 H locs cells slots hw hH => ?_)
    refine lv_dup hx hb dX9_init_32 rfl ?_
    refine lv_iload_n hx hb dX9_init_33 rfl (lv_at hl 0 rfl) ?_
    refine cw_cI (b := o12) (As := [.int x5]) (rest := [.ref o12, .int x5, va_rf z11]) hF hH hA hE mi_X9_17 (fun sz => c_X4_init l D t G _ o12 x5 _ hw sz) dX9_init_34 ⟨Nat.le_of_ble_eq_true rfl, Nat.le_of_ble_eq_true rfl⟩ rfl hl.1 (by simp only [List.map_cons, List.map_nil, cat_rf]; exact Nat.le_of_ble_eq_true rfl) rfl (fun κ14 H locs cells slots hw hH => ?_)
    refine cw_aast (q := z11) (v := (some o12)) hF hH dX9_init_37 hw (fun κ16 H locs cells slots hw hH => ?_)
    obtain ⟨z17, ez17⟩ : ∃ z : Int32, z = x5 + 1 := ⟨_, rfl⟩
    have hw := hw z17 ez17
    refine lv_iinc (lv' := [(1, .int z17), (0, .ref h)]) (k := 0) (v := z17) hx hb dX9_init_38 hl rfl ez17.symm (by decide) rfl (fun ls hl => ?_)
    refine lv_goto (tgt := 15) hx hb dX9_init_41 rfl ?_
    exact ih8 z17 κ16 ls _ _ _ _ hl hw hH
set_option maxRecDepth 100000 in
def F_X9_node (G : GE) (h : Nat) (a1 : Int32) (post : Option Nat → CS → Prop) (κ : CS) : Prop := jc (fun (K3 : (Option Nat) → CS → Prop) => jc (fun (K8 : Unit → CS → Prop) => ((a1.toInt < 0) → K8 () κ) ∧ ((0 ≤ a1.toInt) → (h ∈ sL κ.1 ∧ sK κ.1 h = 6) ∧ ∀ z11 : Option Nat, z11 = sP κ.1 h 0 → ∃ n : Nat, AL G κ z11 n ∧ ∀ z12 : Int32, z12 = nI n → ((z12.toInt ≤ a1.toInt) → K8 () κ) ∧ ((a1.toInt < z12.toInt) → (h ∈ sL κ.1 ∧ sK κ.1 h = 6) ∧ ∀ z13 : Option Nat, z13 = sP κ.1 h 0 → ∃ b : Nat, z13 = some b ∧ (b ∈ sL κ.1 ∧ 24 ≤ sK κ.1 b ∧ sK κ.1 b < 28) ∧ (0 ≤ a1.toInt ∧ a1.toInt < (sN κ.1 b : Int)) ∧ ∀ z14 : Option Nat, z14 = sP κ.1 b a1.toInt.toNat → ∃ b : Nat, z14 = some b ∧ (b ∈ sL κ.1 ∧ sK κ.1 b = 5) ∧ ∀ z15 : Int32, z15 = sI κ.1 b 1 → ((z15.toInt = 0) → K8 () κ) ∧ ((¬ z15.toInt = 0) → (h ∈ sL κ.1 ∧ sK κ.1 h = 6) ∧ ∀ z16 : Option Nat, z16 = sP κ.1 h 0 → ∃ b : Nat, z16 = some b ∧ (b ∈ sL κ.1 ∧ 24 ≤ sK κ.1 b ∧ sK κ.1 b < 28) ∧ (0 ≤ a1.toInt ∧ a1.toInt < (sN κ.1 b : Int)) ∧ ∀ z17 : Option Nat, z17 = sP κ.1 b a1.toInt.toNat → K3 z17 κ)))) (fun (x6 : Unit) (κ7 : CS) => K3 (none : Option Nat) κ7)) (fun (x1 : Option Nat) (κ2 : CS) => post x1 κ2)
theorem dX9_node_0 : decode cX9_node 0 = .ok (.iload_n 1, 1) := by decide +kernel
theorem dX9_node_1 : decode cX9_node 1 = .ok (.ifCond .lt 33, 3) := by decide +kernel
theorem dX9_node_4 : decode cX9_node 4 = .ok (.iload_n 1, 1) := by decide +kernel
theorem dX9_node_5 : decode cX9_node 5 = .ok (.aload_n 0, 1) := by decide +kernel
theorem dX9_node_6 : decode cX9_node 6 = .ok (.getfield 11, 3) := by decide +kernel
theorem dX9_node_9 : decode cX9_node 9 = .ok (.arraylength, 1) := by decide +kernel
theorem dX9_node_10 : decode cX9_node 10 = .ok (.if_icmp .ge 24, 3) := by decide +kernel
theorem dX9_node_13 : decode cX9_node 13 = .ok (.aload_n 0, 1) := by decide +kernel
theorem dX9_node_14 : decode cX9_node 14 = .ok (.getfield 11, 3) := by decide +kernel
theorem dX9_node_17 : decode cX9_node 17 = .ok (.iload_n 1, 1) := by decide +kernel
theorem dX9_node_18 : decode cX9_node 18 = .ok (.aaload, 1) := by decide +kernel
theorem dX9_node_19 : decode cX9_node 19 = .ok (.getfield 20, 3) := by decide +kernel
theorem dX9_node_22 : decode cX9_node 22 = .ok (.ifCond .eq 12, 3) := by decide +kernel
theorem dX9_node_25 : decode cX9_node 25 = .ok (.aload_n 0, 1) := by decide +kernel
theorem dX9_node_26 : decode cX9_node 26 = .ok (.getfield 11, 3) := by decide +kernel
theorem dX9_node_29 : decode cX9_node 29 = .ok (.iload_n 1, 1) := by decide +kernel
theorem dX9_node_30 : decode cX9_node 30 = .ok (.aaload, 1) := by decide +kernel
theorem dX9_node_31 : decode cX9_node 31 = .ok (.goto 4, 3) := by decide +kernel
theorem dX9_node_34 : decode cX9_node 34 = .ok (.aconst_null, 1) := by decide +kernel
theorem dX9_node_35 : decode cX9_node 35 = .ok (.areturn, 1) := by decide +kernel
set_option maxRecDepth 100000 in
set_option maxHeartbeats 4000000 in
theorem c_X9_node (l : Launch) (D : va_G) (t : Nat → ClassId) (G : GE) (κ : CS) (h : Nat) (a1 : Int32) (post : Option Nat → CS → Prop) (hw : F_X9_node G h a1 post κ) (sz : Nat) : CMq l D t yX9_node cX9_node 2 (some (.object "ShareHouse$Node")) 0 14 G κ sz [.ref h, .int a1] post := by
  refine c_go (by decide) (Nat.le_of_ble_eq_true rfl) ?_
  intro p e s m below meth c ls A hF hr hlk hin hAe hH hA hE hl
  unfold cB
  rw [hAe]
  clear hAe
  have hF : FX p m c cX9_node 2 s _ RX9 D t := hF
  have hx := hF.1.1
  have hb := hF.1.2.1
  have hl : lv_has ls 2 [(0, .ref h), (1, .int a1)] := hl
  unfold F_X9_node at hw
  refine lv_iload_n hx hb dX9_node_0 rfl (lv_at hl 1 rfl) ?_
  obtain ⟨K3, hK4, hw⟩ := jc_open hw
  refine cw_join (K := K3) 35 (fun (x1 : Option Nat) => []) (fun (x1 : Option Nat) => [va_rf x1]) hl hH (fun x1 κ2 ls H locs cells slots hl hw hH => ?_) (fun jn5 => ?_)
  · have hw := hK4 x1 κ2 hw
    have hl : lv_has ls 2 [] := hl
    exact cw_retq (v := x1) hF hH ⟨rfl, rfl⟩ hr (by first | exact Or.inl ⟨_, rfl⟩ | exact Or.inr ⟨_, rfl⟩) hlk dX9_node_35 hw
  · skip
    obtain ⟨K8, hK9, hw⟩ := jc_open hw
    refine cw_join (K := K8) 34 (fun (x6 : Unit) => []) (fun (x6 : Unit) => []) hl hH (fun x6 κ7 ls H locs cells slots hl hw hH => ?_) (fun jn10 => ?_)
    · have hw := hK9 x6 κ7 hw
      have hl : lv_has ls 2 [] := hl
      refine cw_null dX9_node_34 hF ?_
      exact jn5 (none : Option Nat) κ7 ls _ _ _ _ hl hw hH
    · skip
      refine w_if_lt (tgt := 34) hF dX9_node_1 rfl hw (fun hw => ?_) (fun hw => ?_)
      · have hl : lv_has ls 2 [] := lv_sub hl [] rfl
        exact jn10 () κ ls _ _ _ _ hl hw hH
      · refine lv_iload_n hx hb dX9_node_4 rfl (lv_at hl 1 rfl) ?_
        refine lv_aload_n hx hb dX9_node_5 rfl (lv_at hl 0 rfl) ?_
        refine cw_getPr (a := h) hF hH fk_X9_11 dX9_node_6 hw (fun z11 hw => ?_)
        refine cw_alen (q := z11) hF hH hE dX9_node_9 hw (fun z12 hw => ?_)
        refine w_icmp_ge (tgt := 34) hF dX9_node_10 rfl hw (fun hw => ?_) (fun hw => ?_)
        · have hl : lv_has ls 2 [] := lv_sub hl [] rfl
          exact jn10 () κ ls _ _ _ _ hl hw hH
        · refine lv_aload_n hx hb dX9_node_13 rfl (lv_at hl 0 rfl) ?_
          refine cw_getPr (a := h) hF hH fk_X9_11 dX9_node_14 hw (fun z13 hw => ?_)
          refine lv_iload_n hx hb dX9_node_17 rfl (lv_at hl 1 rfl) ?_
          refine cw_aald (q := z13) hF hH dX9_node_18 hw (fun z14 hw => ?_)
          refine cw_getI (q := z14) hF hH fk_X9_20 dX9_node_19 hw (fun z15 hw => ?_)
          refine w_if_eq (tgt := 34) hF dX9_node_22 rfl hw (fun hw => ?_) (fun hw => ?_)
          · have hl : lv_has ls 2 [] := lv_sub hl [] rfl
            exact jn10 () κ ls _ _ _ _ hl hw hH
          · refine lv_aload_n hx hb dX9_node_25 rfl (lv_at hl 0 rfl) ?_
            refine cw_getPr (a := h) hF hH fk_X9_11 dX9_node_26 hw (fun z16 hw => ?_)
            refine lv_iload_n hx hb dX9_node_29 rfl (lv_at hl 1 rfl) ?_
            refine cw_aald (q := z16) hF hH dX9_node_30 hw (fun z17 hw => ?_)
            refine lv_goto (tgt := 35) hx hb dX9_node_31 rfl ?_
            have hl : lv_has ls 2 [] := lv_sub hl [] rfl
            exact jn5 z17 κ ls _ _ _ _ hl hw hH
set_option maxRecDepth 100000 in
def F_X9_free (G : GE) (h : Nat) (post : Option Nat → CS → Prop) (κ : CS) : Prop := lc (fun (K3 : Int32 → CS → Prop) (x1 : Int32) (κ2 : CS) => (h ∈ sL κ2.1 ∧ sK κ2.1 h = 6) ∧ ∀ z5 : Option Nat, z5 = sP κ2.1 h 0 → ∃ n : Nat, AL G κ2 z5 n ∧ ∀ z6 : Int32, z6 = nI n → ((z6.toInt ≤ x1.toInt) → post (none : Option Nat) κ2) ∧ ((x1.toInt < z6.toInt) → (h ∈ sL κ2.1 ∧ sK κ2.1 h = 6) ∧ ∀ z7 : Option Nat, z7 = sP κ2.1 h 0 → ∃ b : Nat, z7 = some b ∧ (b ∈ sL κ2.1 ∧ 24 ≤ sK κ2.1 b ∧ sK κ2.1 b < 28) ∧ (0 ≤ x1.toInt ∧ x1.toInt < (sN κ2.1 b : Int)) ∧ ∀ z8 : Option Nat, z8 = sP κ2.1 b x1.toInt.toNat → ∃ b : Nat, z8 = some b ∧ (b ∈ sL κ2.1 ∧ sK κ2.1 b = 5) ∧ ∀ z9 : Int32, z9 = sI κ2.1 b 1 → ((¬ z9.toInt = 0) → ∀ z10 : Int32, z10 = x1 + 1 → K3 z10 κ2) ∧ ((z9.toInt = 0) → (h ∈ sL κ2.1 ∧ sK κ2.1 h = 6) ∧ ∀ z11 : Option Nat, z11 = sP κ2.1 h 0 → ∃ b : Nat, z11 = some b ∧ (b ∈ sL κ2.1 ∧ 24 ≤ sK κ2.1 b ∧ sK κ2.1 b < 28) ∧ (0 ≤ x1.toInt ∧ x1.toInt < (sN κ2.1 b : Int)) ∧ ∀ z12 : Option Nat, z12 = sP κ2.1 b x1.toInt.toNat → post z12 κ2))) 0 κ
theorem dX9_free_0 : decode cX9_free 0 = .ok (.iconst 0, 1) := by decide +kernel
theorem dX9_free_1 : decode cX9_free 1 = .ok (.istore_n 1, 1) := by decide +kernel
theorem dX9_free_2 : decode cX9_free 2 = .ok (.iload_n 1, 1) := by decide +kernel
theorem dX9_free_3 : decode cX9_free 3 = .ok (.aload_n 0, 1) := by decide +kernel
theorem dX9_free_4 : decode cX9_free 4 = .ok (.getfield 11, 3) := by decide +kernel
theorem dX9_free_7 : decode cX9_free 7 = .ok (.arraylength, 1) := by decide +kernel
theorem dX9_free_8 : decode cX9_free 8 = .ok (.if_icmp .ge 28, 3) := by decide +kernel
theorem dX9_free_11 : decode cX9_free 11 = .ok (.aload_n 0, 1) := by decide +kernel
theorem dX9_free_12 : decode cX9_free 12 = .ok (.getfield 11, 3) := by decide +kernel
theorem dX9_free_15 : decode cX9_free 15 = .ok (.iload_n 1, 1) := by decide +kernel
theorem dX9_free_16 : decode cX9_free 16 = .ok (.aaload, 1) := by decide +kernel
theorem dX9_free_17 : decode cX9_free 17 = .ok (.getfield 20, 3) := by decide +kernel
theorem dX9_free_20 : decode cX9_free 20 = .ok (.ifCond .ne 10, 3) := by decide +kernel
theorem dX9_free_23 : decode cX9_free 23 = .ok (.aload_n 0, 1) := by decide +kernel
theorem dX9_free_24 : decode cX9_free 24 = .ok (.getfield 11, 3) := by decide +kernel
theorem dX9_free_27 : decode cX9_free 27 = .ok (.iload_n 1, 1) := by decide +kernel
theorem dX9_free_28 : decode cX9_free 28 = .ok (.aaload, 1) := by decide +kernel
theorem dX9_free_29 : decode cX9_free 29 = .ok (.areturn, 1) := by decide +kernel
theorem dX9_free_30 : decode cX9_free 30 = .ok (.iinc 1 1, 3) := by decide +kernel
theorem dX9_free_33 : decode cX9_free 33 = .ok (.goto (-31), 3) := by decide +kernel
theorem dX9_free_36 : decode cX9_free 36 = .ok (.aconst_null, 1) := by decide +kernel
theorem dX9_free_37 : decode cX9_free 37 = .ok (.areturn, 1) := by decide +kernel
set_option maxRecDepth 100000 in
set_option maxHeartbeats 4000000 in
theorem c_X9_free (l : Launch) (D : va_G) (t : Nat → ClassId) (G : GE) (κ : CS) (h : Nat) (post : Option Nat → CS → Prop) (hw : F_X9_free G h post κ) (sz : Nat) : CMq l D t yX9_free cX9_free 2 (some (.object "ShareHouse$Node")) 0 14 G κ sz [.ref h] post := by
  refine c_go (by decide) (Nat.le_of_ble_eq_true rfl) ?_
  intro p e s m below meth c ls A hF hr hlk hin hAe hH hA hE hl
  unfold cB
  rw [hAe]
  clear hAe
  have hF : FX p m c cX9_free 2 s _ RX9 D t := hF
  have hx := hF.1.1
  have hb := hF.1.2.1
  have hl : lv_has ls 2 [(0, .ref h)] := hl
  unfold F_X9_free at hw
  refine lv_iconst (v := 0) hx hb dX9_free_0 (by decide) ?_
  refine lv_istore_n (lv' := [(1, .int 0), (0, .ref h)]) hx hb dX9_free_1 rfl hl (by decide) rfl (fun ls hl => ?_)
  refine cw_loop (β := Int32) (fun x1 => [(1, .int x1), (0, .ref h)]) 0 hl hw hH (fun K3 x1 κ2 ls H locs cells slots hl hw hH ih4 => ?_)
  have hl : lv_has ls 2 [(1, .int x1), (0, .ref h)] := hl
  refine lv_iload_n hx hb dX9_free_2 rfl (lv_at hl 0 rfl) ?_
  refine lv_aload_n hx hb dX9_free_3 rfl (lv_at hl 1 rfl) ?_
  refine cw_getPr (a := h) hF hH fk_X9_11 dX9_free_4 hw (fun z5 hw => ?_)
  refine cw_alen (q := z5) hF hH hE dX9_free_7 hw (fun z6 hw => ?_)
  refine w_icmp_ge (tgt := 36) hF dX9_free_8 rfl hw (fun hw => ?_) (fun hw => ?_)
  · refine cw_null dX9_free_36 hF ?_
    exact cw_retq (v := (none : Option Nat)) hF hH ⟨rfl, rfl⟩ hr (by first | exact Or.inl ⟨_, rfl⟩ | exact Or.inr ⟨_, rfl⟩) hlk dX9_free_37 hw
  · refine lv_aload_n hx hb dX9_free_11 rfl (lv_at hl 1 rfl) ?_
    refine cw_getPr (a := h) hF hH fk_X9_11 dX9_free_12 hw (fun z7 hw => ?_)
    refine lv_iload_n hx hb dX9_free_15 rfl (lv_at hl 0 rfl) ?_
    refine cw_aald (q := z7) hF hH dX9_free_16 hw (fun z8 hw => ?_)
    refine cw_getI (q := z8) hF hH fk_X9_20 dX9_free_17 hw (fun z9 hw => ?_)
    refine w_if_ne (tgt := 30) hF dX9_free_20 rfl hw (fun hw => ?_) (fun hw => ?_)
    · obtain ⟨z10, ez10⟩ : ∃ z : Int32, z = x1 + 1 := ⟨_, rfl⟩
      have hw := hw z10 ez10
      refine lv_iinc (lv' := [(1, .int z10), (0, .ref h)]) (k := 0) (v := z10) hx hb dX9_free_30 hl rfl ez10.symm (by decide) rfl (fun ls hl => ?_)
      refine lv_goto (tgt := 2) hx hb dX9_free_33 rfl ?_
      exact ih4 z10 κ2 ls _ _ _ _ hl hw hH
    · refine lv_aload_n hx hb dX9_free_23 rfl (lv_at hl 1 rfl) ?_
      refine cw_getPr (a := h) hF hH fk_X9_11 dX9_free_24 hw (fun z11 hw => ?_)
      refine lv_iload_n hx hb dX9_free_27 rfl (lv_at hl 0 rfl) ?_
      refine cw_aald (q := z11) hF hH dX9_free_28 hw (fun z12 hw => ?_)
      exact cw_retq (v := z12) hF hH ⟨rfl, rfl⟩ hr (by first | exact Or.inl ⟨_, rfl⟩ | exact Or.inr ⟨_, rfl⟩) hlk dX9_free_29 hw
set_option maxRecDepth 100000 in
def F_X10_unit (G : GE) (h : Nat) (a1 : Int32) (post : Int32 → CS → Prop) (κ : CS) : Prop := jc (fun (K3 : Int32 → CS → Prop) => jc (fun (K8 : Unit → CS → Prop) => ((a1.toInt < 0) → K8 () κ) ∧ ((0 ≤ a1.toInt) → (h ∈ sL κ.1 ∧ sK κ.1 h = 13) ∧ ∀ z11 : Int32, z11 = sI κ.1 h 9 → ((z11.toInt ≤ a1.toInt) → K8 () κ) ∧ ((a1.toInt < z11.toInt) → (h ∈ sL κ.1 ∧ sK κ.1 h = 13) ∧ ∀ z12 : Option Nat, z12 = sP κ.1 h 8 → ∃ n : Nat, AL G κ z12 n ∧ ∀ z13 : Int32, z13 = nI n → ((z13.toInt ≤ a1.toInt) → K8 () κ) ∧ ((a1.toInt < z13.toInt) → (h ∈ sL κ.1 ∧ sK κ.1 h = 13) ∧ ∀ z14 : Option Nat, z14 = sP κ.1 h 8 → ∃ b : Nat, z14 = some b ∧ (b ∈ sL κ.1 ∧ sK κ.1 b = 21) ∧ (0 ≤ a1.toInt ∧ a1.toInt < (sN κ.1 b : Int)) ∧ ∀ z15 : Int32, z15 = sI κ.1 b a1.toInt.toNat → K3 z15 κ)))) (fun (x6 : Unit) (κ7 : CS) => K3 0 κ7)) (fun (x1 : Int32) (κ2 : CS) => post x1 κ2)
theorem dX10_unit_0 : decode cX10_unit 0 = .ok (.iload_n 1, 1) := by decide +kernel
theorem dX10_unit_1 : decode cX10_unit 1 = .ok (.ifCond .lt 29, 3) := by decide +kernel
theorem dX10_unit_4 : decode cX10_unit 4 = .ok (.iload_n 1, 1) := by decide +kernel
theorem dX10_unit_5 : decode cX10_unit 5 = .ok (.aload_n 0, 1) := by decide +kernel
theorem dX10_unit_6 : decode cX10_unit 6 = .ok (.getfield 43, 3) := by decide +kernel
theorem dX10_unit_9 : decode cX10_unit 9 = .ok (.if_icmp .ge 21, 3) := by decide +kernel
theorem dX10_unit_12 : decode cX10_unit 12 = .ok (.iload_n 1, 1) := by decide +kernel
theorem dX10_unit_13 : decode cX10_unit 13 = .ok (.aload_n 0, 1) := by decide +kernel
theorem dX10_unit_14 : decode cX10_unit 14 = .ok (.getfield 9, 3) := by decide +kernel
theorem dX10_unit_17 : decode cX10_unit 17 = .ok (.arraylength, 1) := by decide +kernel
theorem dX10_unit_18 : decode cX10_unit 18 = .ok (.if_icmp .ge 12, 3) := by decide +kernel
theorem dX10_unit_21 : decode cX10_unit 21 = .ok (.aload_n 0, 1) := by decide +kernel
theorem dX10_unit_22 : decode cX10_unit 22 = .ok (.getfield 9, 3) := by decide +kernel
theorem dX10_unit_25 : decode cX10_unit 25 = .ok (.iload_n 1, 1) := by decide +kernel
theorem dX10_unit_26 : decode cX10_unit 26 = .ok (.iaload, 1) := by decide +kernel
theorem dX10_unit_27 : decode cX10_unit 27 = .ok (.goto 4, 3) := by decide +kernel
theorem dX10_unit_30 : decode cX10_unit 30 = .ok (.iconst 0, 1) := by decide +kernel
theorem dX10_unit_31 : decode cX10_unit 31 = .ok (.ireturn, 1) := by decide +kernel
set_option maxRecDepth 100000 in
set_option maxHeartbeats 4000000 in
theorem c_X10_unit (l : Launch) (D : va_G) (t : Nat → ClassId) (G : GE) (κ : CS) (h : Nat) (a1 : Int32) (post : Int32 → CS → Prop) (hw : F_X10_unit G h a1 post κ) (sz : Nat) : CMi l D t yX10_unit cX10_unit 2 (some .int) 0 14 G κ sz [.ref h, .int a1] post := by
  refine c_go (by decide) (Nat.le_of_ble_eq_true rfl) ?_
  intro p e s m below meth c ls A hF hr hlk hin hAe hH hA hE hl
  unfold cB
  rw [hAe]
  clear hAe
  have hF : FX p m c cX10_unit 2 s _ RX10 D t := hF
  have hx := hF.1.1
  have hb := hF.1.2.1
  have hl : lv_has ls 2 [(0, .ref h), (1, .int a1)] := hl
  unfold F_X10_unit at hw
  refine lv_iload_n hx hb dX10_unit_0 rfl (lv_at hl 1 rfl) ?_
  obtain ⟨K3, hK4, hw⟩ := jc_open hw
  refine cw_join (K := K3) 31 (fun (x1 : Int32) => []) (fun (x1 : Int32) => [.int x1]) hl hH (fun x1 κ2 ls H locs cells slots hl hw hH => ?_) (fun jn5 => ?_)
  · have hw := hK4 x1 κ2 hw
    have hl : lv_has ls 2 [] := hl
    exact cw_reti hF hH ⟨rfl, rfl⟩ hr rfl hlk dX10_unit_31 hw
  · skip
    obtain ⟨K8, hK9, hw⟩ := jc_open hw
    refine cw_join (K := K8) 30 (fun (x6 : Unit) => []) (fun (x6 : Unit) => []) hl hH (fun x6 κ7 ls H locs cells slots hl hw hH => ?_) (fun jn10 => ?_)
    · have hw := hK9 x6 κ7 hw
      have hl : lv_has ls 2 [] := hl
      refine lv_iconst (v := 0) hx hb dX10_unit_30 (by decide) ?_
      exact jn5 0 κ7 ls _ _ _ _ hl hw hH
    · skip
      refine w_if_lt (tgt := 30) hF dX10_unit_1 rfl hw (fun hw => ?_) (fun hw => ?_)
      · have hl : lv_has ls 2 [] := lv_sub hl [] rfl
        exact jn10 () κ ls _ _ _ _ hl hw hH
      · refine lv_iload_n hx hb dX10_unit_4 rfl (lv_at hl 1 rfl) ?_
        refine lv_aload_n hx hb dX10_unit_5 rfl (lv_at hl 0 rfl) ?_
        refine cw_getIr (a := h) hF hH fk_X10_43 dX10_unit_6 hw (fun z11 hw => ?_)
        refine w_icmp_ge (tgt := 30) hF dX10_unit_9 rfl hw (fun hw => ?_) (fun hw => ?_)
        · have hl : lv_has ls 2 [] := lv_sub hl [] rfl
          exact jn10 () κ ls _ _ _ _ hl hw hH
        · refine lv_iload_n hx hb dX10_unit_12 rfl (lv_at hl 1 rfl) ?_
          refine lv_aload_n hx hb dX10_unit_13 rfl (lv_at hl 0 rfl) ?_
          refine cw_getPr (a := h) hF hH fk_X10_9 dX10_unit_14 hw (fun z12 hw => ?_)
          refine cw_alen (q := z12) hF hH hE dX10_unit_17 hw (fun z13 hw => ?_)
          refine w_icmp_ge (tgt := 30) hF dX10_unit_18 rfl hw (fun hw => ?_) (fun hw => ?_)
          · have hl : lv_has ls 2 [] := lv_sub hl [] rfl
            exact jn10 () κ ls _ _ _ _ hl hw hH
          · refine lv_aload_n hx hb dX10_unit_21 rfl (lv_at hl 0 rfl) ?_
            refine cw_getPr (a := h) hF hH fk_X10_9 dX10_unit_22 hw (fun z14 hw => ?_)
            refine lv_iload_n hx hb dX10_unit_25 rfl (lv_at hl 1 rfl) ?_
            refine cw_iald (q := z14) hF hH dX10_unit_26 hw (fun z15 hw => ?_)
            refine lv_goto (tgt := 31) hx hb dX10_unit_27 rfl ?_
            have hl : lv_has ls 2 [] := lv_sub hl [] rfl
            exact jn5 z15 κ ls _ _ _ _ hl hw hH
set_option maxRecDepth 100000 in
def F_X9_child (G : GE) (h : Nat) (a1 : Int32) (a2 : Option Nat) (a3 : Int32) (a4 : Int32) (post : Option Nat → CS → Prop) (κ : CS) : Prop := lc (fun (K3 : Int32 → CS → Prop) (x1 : Int32) (κ2 : CS) => (h ∈ sL κ2.1 ∧ sK κ2.1 h = 6) ∧ ∀ z5 : Option Nat, z5 = sP κ2.1 h 0 → ∃ n : Nat, AL G κ2 z5 n ∧ ∀ z6 : Int32, z6 = nI n → ((z6.toInt ≤ x1.toInt) → post (none : Option Nat) κ2) ∧ ((x1.toInt < z6.toInt) → (h ∈ sL κ2.1 ∧ sK κ2.1 h = 6) ∧ ∀ z7 : Option Nat, z7 = sP κ2.1 h 0 → ∃ b : Nat, z7 = some b ∧ (b ∈ sL κ2.1 ∧ 24 ≤ sK κ2.1 b ∧ sK κ2.1 b < 28) ∧ (0 ≤ x1.toInt ∧ x1.toInt < (sN κ2.1 b : Int)) ∧ ∀ z8 : Option Nat, z8 = sP κ2.1 b x1.toInt.toNat → ∃ b : Nat, z8 = some b ∧ (b ∈ sL κ2.1 ∧ sK κ2.1 b = 5) ∧ ∀ z9 : Int32, z9 = sI κ2.1 b 1 → jc (fun (K12 : Int32 → CS → Prop) => jc (fun (K45 : Unit → CS → Prop) => ((z9.toInt = 0) → K45 () κ2) ∧ ((¬ z9.toInt = 0) → ∃ b : Nat, z8 = some b ∧ (b ∈ sL κ2.1 ∧ sK κ2.1 b = 5) ∧ ∀ z48 : Int32, z48 = sI κ2.1 b 4 → ((¬ z48.toInt = a1.toInt) → K45 () κ2) ∧ ((z48.toInt = a1.toInt) → ∃ b : Nat, z8 = some b ∧ (b ∈ sL κ2.1 ∧ sK κ2.1 b = 5) ∧ ∀ z49 : Int32, z49 = sI κ2.1 b 6 → ∀ z50 : Int32, z50 = a4 - a3 → ((¬ z49.toInt = z50.toInt) → K45 () κ2) ∧ ((z49.toInt = z50.toInt) → K12 1 κ2)))) (fun (x43 : Unit) (κ44 : CS) => K12 0 κ44)) (fun (x10 : Int32) (κ11 : CS) => lc (fun (K17 : (Int32 × Int32) → CS → Prop) (x15 : Int32 × Int32) (κ16 : CS) => jc (fun (K21 : Unit → CS → Prop) => ((x15.2.toInt = 0) → K21 () κ16) ∧ ((¬ x15.2.toInt = 0) → ∃ b : Nat, z8 = some b ∧ (b ∈ sL κ16.1 ∧ sK κ16.1 b = 5) ∧ ∀ z25 : Int32, z25 = sI κ16.1 b 6 → ((z25.toInt ≤ x15.1.toInt) → K21 () κ16) ∧ ((x15.1.toInt < z25.toInt) → ∃ b : Nat, z8 = some b ∧ (b ∈ sL κ16.1 ∧ sK κ16.1 b = 5) ∧ ∀ z26 : Option Nat, z26 = sP κ16.1 b 5 → ∃ n : Nat, AL G κ16 z26 n ∧ ∀ z27 : Int32, z27 = nI n → ((z27.toInt ≤ x15.1.toInt) → K21 () κ16) ∧ ((x15.1.toInt < z27.toInt) → ∀ z28 : Int32, z28 = a3 + x15.1 → ∃ b : Nat, a2 = some b ∧ (b ∈ sL κ16.1 ∧ sK κ16.1 b = 13) ∧ F_X10_unit G b z28 (fun (z30 : Int32) (κ29 : CS) => F_X11_upper G z30 (fun (z32 : Int32) (κ31 : CS) => ∃ b : Nat, z8 = some b ∧ (b ∈ sL κ31.1 ∧ sK κ31.1 b = 5) ∧ ∀ z33 : Option Nat, z33 = sP κ31.1 b 5 → ∃ (f : Nat → Int32) (n : Nat), BA G κ31 z33 f n ∧ (0 ≤ x15.1.toInt ∧ x15.1.toInt < (n : Int)) ∧ ∀ z34 : Int32, z34 = f x15.1.toInt.toNat → F_X11_upper G z34 (fun (z36 : Int32) (κ35 : CS) => jc (fun (K39 : Int32 → CS → Prop) => ((¬ z32.toInt = z36.toInt) → K39 0 κ35) ∧ ((z32.toInt = z36.toInt) → K39 1 κ35)) (fun (x37 : Int32) (κ38 : CS) => ∀ z42 : Int32, z42 = x15.1 + 1 → K17 (z42, x37) κ38)) κ31) κ29) κ16)))) (fun (x19 : Unit) (κ20 : CS) => ((x15.2.toInt = 0) → ∀ z24 : Int32, z24 = x1 + 1 → K3 z24 κ20) ∧ ((¬ x15.2.toInt = 0) → post z8 κ20))) (0, x10) κ11))) 0 κ
theorem dX9_child_0 : decode cX9_child 0 = .ok (.iconst 0, 1) := by decide +kernel
theorem dX9_child_1 : decode cX9_child 1 = .ok (.istore 5, 2) := by decide +kernel
theorem dX9_child_3 : decode cX9_child 3 = .ok (.iload 5, 2) := by decide +kernel
theorem dX9_child_5 : decode cX9_child 5 = .ok (.aload_n 0, 1) := by decide +kernel
theorem dX9_child_6 : decode cX9_child 6 = .ok (.getfield 11, 3) := by decide +kernel
theorem dX9_child_9 : decode cX9_child 9 = .ok (.arraylength, 1) := by decide +kernel
theorem dX9_child_10 : decode cX9_child 10 = .ok (.if_icmp .ge 129, 3) := by decide +kernel
theorem dX9_child_13 : decode cX9_child 13 = .ok (.aload_n 0, 1) := by decide +kernel
theorem dX9_child_14 : decode cX9_child 14 = .ok (.getfield 11, 3) := by decide +kernel
theorem dX9_child_17 : decode cX9_child 17 = .ok (.iload 5, 2) := by decide +kernel
theorem dX9_child_19 : decode cX9_child 19 = .ok (.aaload, 1) := by decide +kernel
theorem dX9_child_20 : decode cX9_child 20 = .ok (.astore 6, 2) := by decide +kernel
theorem dX9_child_22 : decode cX9_child 22 = .ok (.aload 6, 2) := by decide +kernel
theorem dX9_child_24 : decode cX9_child 24 = .ok (.getfield 20, 3) := by decide +kernel
theorem dX9_child_27 : decode cX9_child 27 = .ok (.ifCond .eq 28, 3) := by decide +kernel
theorem dX9_child_30 : decode cX9_child 30 = .ok (.aload 6, 2) := by decide +kernel
theorem dX9_child_32 : decode cX9_child 32 = .ok (.getfield 24, 3) := by decide +kernel
theorem dX9_child_35 : decode cX9_child 35 = .ok (.iload_n 1, 1) := by decide +kernel
theorem dX9_child_36 : decode cX9_child 36 = .ok (.if_icmp .ne 19, 3) := by decide +kernel
theorem dX9_child_39 : decode cX9_child 39 = .ok (.aload 6, 2) := by decide +kernel
theorem dX9_child_41 : decode cX9_child 41 = .ok (.getfield 28, 3) := by decide +kernel
theorem dX9_child_44 : decode cX9_child 44 = .ok (.iload 4, 2) := by decide +kernel
theorem dX9_child_46 : decode cX9_child 46 = .ok (.iload_n 3, 1) := by decide +kernel
theorem dX9_child_47 : decode cX9_child 47 = .ok (.isub, 1) := by decide +kernel
theorem dX9_child_48 : decode cX9_child 48 = .ok (.if_icmp .ne 7, 3) := by decide +kernel
theorem dX9_child_51 : decode cX9_child 51 = .ok (.iconst 1, 1) := by decide +kernel
theorem dX9_child_52 : decode cX9_child 52 = .ok (.goto 4, 3) := by decide +kernel
theorem dX9_child_55 : decode cX9_child 55 = .ok (.iconst 0, 1) := by decide +kernel
theorem dX9_child_56 : decode cX9_child 56 = .ok (.istore 7, 2) := by decide +kernel
theorem dX9_child_58 : decode cX9_child 58 = .ok (.iconst 0, 1) := by decide +kernel
theorem dX9_child_59 : decode cX9_child 59 = .ok (.istore 8, 2) := by decide +kernel
theorem dX9_child_61 : decode cX9_child 61 = .ok (.iload 7, 2) := by decide +kernel
theorem dX9_child_63 : decode cX9_child 63 = .ok (.ifCond .eq 62, 3) := by decide +kernel
theorem dX9_child_66 : decode cX9_child 66 = .ok (.iload 8, 2) := by decide +kernel
theorem dX9_child_68 : decode cX9_child 68 = .ok (.aload 6, 2) := by decide +kernel
theorem dX9_child_70 : decode cX9_child 70 = .ok (.getfield 28, 3) := by decide +kernel
theorem dX9_child_73 : decode cX9_child 73 = .ok (.if_icmp .ge 52, 3) := by decide +kernel
theorem dX9_child_76 : decode cX9_child 76 = .ok (.iload 8, 2) := by decide +kernel
theorem dX9_child_78 : decode cX9_child 78 = .ok (.aload 6, 2) := by decide +kernel
theorem dX9_child_80 : decode cX9_child 80 = .ok (.getfield 31, 3) := by decide +kernel
theorem dX9_child_83 : decode cX9_child 83 = .ok (.arraylength, 1) := by decide +kernel
theorem dX9_child_84 : decode cX9_child 84 = .ok (.if_icmp .ge 41, 3) := by decide +kernel
theorem dX9_child_87 : decode cX9_child 87 = .ok (.aload_n 2, 1) := by decide +kernel
theorem dX9_child_88 : decode cX9_child 88 = .ok (.iload_n 3, 1) := by decide +kernel
theorem dX9_child_89 : decode cX9_child 89 = .ok (.iload 8, 2) := by decide +kernel
theorem dX9_child_91 : decode cX9_child 91 = .ok (.iadd, 1) := by decide +kernel
theorem dX9_child_92 : decode cX9_child 92 = .ok (.invokevirtual 35, 3) := by decide +kernel
theorem dX9_child_95 : decode cX9_child 95 = .ok (.invokestatic 41, 3) := by decide +kernel
theorem dX9_child_98 : decode cX9_child 98 = .ok (.aload 6, 2) := by decide +kernel
theorem dX9_child_100 : decode cX9_child 100 = .ok (.getfield 31, 3) := by decide +kernel
theorem dX9_child_103 : decode cX9_child 103 = .ok (.iload 8, 2) := by decide +kernel
theorem dX9_child_105 : decode cX9_child 105 = .ok (.baload, 1) := by decide +kernel
theorem dX9_child_106 : decode cX9_child 106 = .ok (.invokestatic 41, 3) := by decide +kernel
theorem dX9_child_109 : decode cX9_child 109 = .ok (.if_icmp .ne 7, 3) := by decide +kernel
theorem dX9_child_112 : decode cX9_child 112 = .ok (.iconst 1, 1) := by decide +kernel
theorem dX9_child_113 : decode cX9_child 113 = .ok (.goto 4, 3) := by decide +kernel
theorem dX9_child_116 : decode cX9_child 116 = .ok (.iconst 0, 1) := by decide +kernel
theorem dX9_child_117 : decode cX9_child 117 = .ok (.istore 7, 2) := by decide +kernel
theorem dX9_child_119 : decode cX9_child 119 = .ok (.iinc 8 1, 3) := by decide +kernel
theorem dX9_child_122 : decode cX9_child 122 = .ok (.goto (-61), 3) := by decide +kernel
theorem dX9_child_125 : decode cX9_child 125 = .ok (.iload 7, 2) := by decide +kernel
theorem dX9_child_127 : decode cX9_child 127 = .ok (.ifCond .eq 6, 3) := by decide +kernel
theorem dX9_child_130 : decode cX9_child 130 = .ok (.aload 6, 2) := by decide +kernel
theorem dX9_child_132 : decode cX9_child 132 = .ok (.areturn, 1) := by decide +kernel
theorem dX9_child_133 : decode cX9_child 133 = .ok (.iinc 5 1, 3) := by decide +kernel
theorem dX9_child_136 : decode cX9_child 136 = .ok (.goto (-133), 3) := by decide +kernel
theorem dX9_child_139 : decode cX9_child 139 = .ok (.aconst_null, 1) := by decide +kernel
theorem dX9_child_140 : decode cX9_child 140 = .ok (.areturn, 1) := by decide +kernel
set_option maxRecDepth 100000 in
set_option maxHeartbeats 4000000 in
theorem c_X9_child (l : Launch) (D : va_G) (t : Nat → ClassId) (G : GE) (κ : CS) (h : Nat) (a1 : Int32) (a2 : Option Nat) (a3 : Int32) (a4 : Int32) (post : Option Nat → CS → Prop) (hw : F_X9_child G h a1 a2 a3 a4 post κ) (sz : Nat) : CMq l D t yX9_child cX9_child 9 (some (.object "ShareHouse$Node")) 1 35 G κ sz [.ref h, .int a1, va_rf a2, .int a3, .int a4] post := by
  refine c_go (by decide) (by cases a2 <;> exact Nat.le_of_ble_eq_true rfl) ?_
  intro p e s m below meth c ls A hF hr hlk hin hAe hH hA hE hl
  unfold cB
  rw [hAe]
  clear hAe
  have hF : FX p m c cX9_child 9 s _ RX9 D t := hF
  have hx := hF.1.1
  have hb := hF.1.2.1
  have hl : lv_has ls 9 [(0, .ref h), (1, .int a1), (2, va_rf a2), (3, .int a3), (4, .int a4)] := (by have h2 := hl; clear hw; revert h2; cases a2 <;> exact id)
  unfold F_X9_child at hw
  refine lv_iconst (v := 0) hx hb dX9_child_0 (by decide) ?_
  refine lv_istore (lv' := [(5, .int 0), (0, .ref h), (1, .int a1), (2, va_rf a2), (3, .int a3), (4, .int a4)]) hx hb dX9_child_1 hl (by decide) rfl (fun ls hl => ?_)
  have hl : lv_has ls 9 [(5, .int 0), (4, .int a4), (3, .int a3), (2, va_rf a2), (1, .int a1), (0, .ref h)] := lv_sub hl [0, 5, 4, 3, 2, 1] rfl
  refine cw_loop (β := Int32) (fun x1 => [(5, .int x1), (4, .int a4), (3, .int a3), (2, va_rf a2), (1, .int a1), (0, .ref h)]) 0 hl hw hH (fun K3 x1 κ2 ls H locs cells slots hl hw hH ih4 => ?_)
  have hl : lv_has ls 9 [(5, .int x1), (4, .int a4), (3, .int a3), (2, va_rf a2), (1, .int a1), (0, .ref h)] := hl
  refine lv_iload hx hb dX9_child_3 (lv_at hl 0 rfl) ?_
  refine lv_aload_n hx hb dX9_child_5 rfl (lv_at hl 5 rfl) ?_
  refine cw_getPr (a := h) hF hH fk_X9_11 dX9_child_6 hw (fun z5 hw => ?_)
  refine cw_alen (q := z5) hF hH hE dX9_child_9 hw (fun z6 hw => ?_)
  refine w_icmp_ge (tgt := 139) hF dX9_child_10 rfl hw (fun hw => ?_) (fun hw => ?_)
  · refine cw_null dX9_child_139 hF ?_
    exact cw_retq (v := (none : Option Nat)) hF hH ⟨rfl, rfl⟩ hr (by first | exact Or.inl ⟨_, rfl⟩ | exact Or.inr ⟨_, rfl⟩) hlk dX9_child_140 hw
  · refine lv_aload_n hx hb dX9_child_13 rfl (lv_at hl 5 rfl) ?_
    refine cw_getPr (a := h) hF hH fk_X9_11 dX9_child_14 hw (fun z7 hw => ?_)
    refine lv_iload hx hb dX9_child_17 (lv_at hl 0 rfl) ?_
    refine cw_aald (q := z7) hF hH dX9_child_19 hw (fun z8 hw => ?_)
    refine w_astoreq (lv' := [(6, va_rf z8), (5, .int x1), (4, .int a4), (3, .int a3), (2, va_rf a2), (1, .int a1), (0, .ref h)]) hF dX9_child_20 hl (by decide) rfl (fun ls hl => ?_)
    refine w_aloadq hF dX9_child_22 (lv_at hl 0 rfl) ?_
    refine cw_getI (q := z8) hF hH fk_X9_20 dX9_child_24 hw (fun z9 hw => ?_)
    obtain ⟨K12, hK13, hw⟩ := jc_open hw
    refine cw_join (K := K12) 56 (fun (x10 : Int32) => [(6, va_rf z8), (5, .int x1), (4, .int a4), (3, .int a3), (2, va_rf a2), (1, .int a1), (0, .ref h)]) (fun (x10 : Int32) => [.int x10]) hl hH (fun x10 κ11 ls H locs cells slots hl hw hH => ?_) (fun jn14 => ?_)
    · have hw := hK13 x10 κ11 hw
      have hl : lv_has ls 9 [(6, va_rf z8), (5, .int x1), (4, .int a4), (3, .int a3), (2, va_rf a2), (1, .int a1), (0, .ref h)] := hl
      refine lv_istore (lv' := [(7, .int x10), (6, va_rf z8), (5, .int x1), (4, .int a4), (3, .int a3), (2, va_rf a2), (1, .int a1), (0, .ref h)]) hx hb dX9_child_56 hl (by decide) (by generalize z8 = y; cases y <;> rfl) (fun ls hl => ?_)
      refine lv_iconst (v := 0) hx hb dX9_child_58 (by decide) ?_
      refine lv_istore (lv' := [(8, .int 0), (7, .int x10), (6, va_rf z8), (5, .int x1), (4, .int a4), (3, .int a3), (2, va_rf a2), (1, .int a1), (0, .ref h)]) hx hb dX9_child_59 hl (by decide) rfl (fun ls hl => ?_)
      refine cw_loop (β := Int32 × Int32) (fun x15 => [(8, .int x15.1), (7, .int x15.2), (6, va_rf z8), (5, .int x1), (4, .int a4), (3, .int a3), (2, va_rf a2), (1, .int a1), (0, .ref h)]) (0, x10) hl hw hH (fun K17 x15 κ16 ls H locs cells slots hl hw hH ih18 => ?_)
      have hl : lv_has ls 9 [(8, .int x15.1), (7, .int x15.2), (6, va_rf z8), (5, .int x1), (4, .int a4), (3, .int a3), (2, va_rf a2), (1, .int a1), (0, .ref h)] := hl
      refine lv_iload hx hb dX9_child_61 (lv_at hl 1 rfl) ?_
      obtain ⟨K21, hK22, hw⟩ := jc_open hw
      refine cw_join (K := K21) 125 (fun (x19 : Unit) => [(7, .int x15.2), (6, va_rf z8), (5, .int x1), (4, .int a4), (3, .int a3), (2, va_rf a2), (1, .int a1), (0, .ref h)]) (fun (x19 : Unit) => []) hl hH (fun x19 κ20 ls H locs cells slots hl hw hH => ?_) (fun jn23 => ?_)
      · have hw := hK22 x19 κ20 hw
        have hl : lv_has ls 9 [(7, .int x15.2), (6, va_rf z8), (5, .int x1), (4, .int a4), (3, .int a3), (2, va_rf a2), (1, .int a1), (0, .ref h)] := hl
        refine lv_iload hx hb dX9_child_125 (lv_at hl 0 rfl) ?_
        refine w_if_eq (tgt := 133) hF dX9_child_127 rfl hw (fun hw => ?_) (fun hw => ?_)
        · obtain ⟨z24, ez24⟩ : ∃ z : Int32, z = x1 + 1 := ⟨_, rfl⟩
          have hw := hw z24 ez24
          refine lv_iinc (lv' := [(5, .int z24), (7, .int x15.2), (6, va_rf z8), (4, .int a4), (3, .int a3), (2, va_rf a2), (1, .int a1), (0, .ref h)]) (k := 2) (v := z24) hx hb dX9_child_133 hl rfl ez24.symm (by decide) rfl (fun ls hl => ?_)
          refine lv_goto (tgt := 3) hx hb dX9_child_136 rfl ?_
          have hl : lv_has ls 9 [(5, .int z24), (4, .int a4), (3, .int a3), (2, va_rf a2), (1, .int a1), (0, .ref h)] := lv_sub hl [0, 3, 4, 5, 6, 7] rfl
          exact ih4 z24 κ20 ls _ _ _ _ hl hw hH
        · refine w_aloadq hF dX9_child_130 (lv_at hl 1 rfl) ?_
          exact cw_retq (v := z8) hF hH ⟨rfl, rfl⟩ hr (by first | exact Or.inl ⟨_, rfl⟩ | exact Or.inr ⟨_, rfl⟩) hlk dX9_child_132 hw
      · skip
        refine w_if_eq (tgt := 125) hF dX9_child_63 rfl hw (fun hw => ?_) (fun hw => ?_)
        · have hl : lv_has ls 9 [(7, .int x15.2), (6, va_rf z8), (5, .int x1), (4, .int a4), (3, .int a3), (2, va_rf a2), (1, .int a1), (0, .ref h)] := lv_sub hl [1, 2, 3, 4, 5, 6, 7, 8] rfl
          exact jn23 () κ16 ls _ _ _ _ hl hw hH
        · refine lv_iload hx hb dX9_child_66 (lv_at hl 0 rfl) ?_
          refine w_aloadq hF dX9_child_68 (lv_at hl 2 rfl) ?_
          refine cw_getI (q := z8) hF hH fk_X9_28 dX9_child_70 hw (fun z25 hw => ?_)
          refine w_icmp_ge (tgt := 125) hF dX9_child_73 rfl hw (fun hw => ?_) (fun hw => ?_)
          · have hl : lv_has ls 9 [(7, .int x15.2), (6, va_rf z8), (5, .int x1), (4, .int a4), (3, .int a3), (2, va_rf a2), (1, .int a1), (0, .ref h)] := lv_sub hl [1, 2, 3, 4, 5, 6, 7, 8] rfl
            exact jn23 () κ16 ls _ _ _ _ hl hw hH
          · refine lv_iload hx hb dX9_child_76 (lv_at hl 0 rfl) ?_
            refine w_aloadq hF dX9_child_78 (lv_at hl 2 rfl) ?_
            refine cw_getP (q := z8) hF hH fk_X9_31 dX9_child_80 hw (fun z26 hw => ?_)
            refine cw_alen (q := z26) hF hH hE dX9_child_83 hw (fun z27 hw => ?_)
            refine w_icmp_ge (tgt := 125) hF dX9_child_84 rfl hw (fun hw => ?_) (fun hw => ?_)
            · have hl : lv_has ls 9 [(7, .int x15.2), (6, va_rf z8), (5, .int x1), (4, .int a4), (3, .int a3), (2, va_rf a2), (1, .int a1), (0, .ref h)] := lv_sub hl [1, 2, 3, 4, 5, 6, 7, 8] rfl
              exact jn23 () κ16 ls _ _ _ _ hl hw hH
            · refine w_aloadq_n hF dX9_child_87 rfl (lv_at hl 6 rfl) ?_
              refine lv_iload_n hx hb dX9_child_88 rfl (lv_at hl 5 rfl) ?_
              refine lv_iload hx hb dX9_child_89 (lv_at hl 0 rfl) ?_
              refine lv_iadd hx hb dX9_child_91 ?_
              refine w_nmi hw (fun z28 hw => ?_)
              refine cw_cViq (q := a2) (As := [.int z28]) (rest := []) hF hH hA hE mv_X9_35 ci_X10 (by decide) hw (fun b hw sz => c_X10_unit l D t G _ b z28 _ hw sz) dX9_child_92 ⟨Nat.le_of_ble_eq_true rfl, Nat.le_of_ble_eq_true rfl⟩ rfl hl.1 (Nat.le_of_ble_eq_true rfl) rfl (fun z30 κ29 H locs cells slots hw hH => ?_)
              refine cw_cSiN (As := [.int z30]) (rest := []) hF hH hA hE msn_X9_41 (fun sz => c_X11_upper l D t G _ z30 _ hw sz) dX9_child_95 ⟨Nat.le_of_ble_eq_true rfl, Nat.le_of_ble_eq_true rfl⟩ rfl hl.1 (Nat.le_of_ble_eq_true rfl) rfl (fun z32 κ31 H locs cells slots hw hH => ?_)
              refine w_aloadq hF dX9_child_98 (lv_at hl 2 rfl) ?_
              refine cw_getP (q := z8) hF hH fk_X9_31 dX9_child_100 hw (fun z33 hw => ?_)
              refine lv_iload hx hb dX9_child_103 (lv_at hl 0 rfl) ?_
              refine cw_bald (q := z33) hF hH hE dX9_child_105 hw (fun z34 hw => ?_)
              refine cw_cSiN (As := [.int z34]) (rest := [.int z32]) hF hH hA hE msn_X9_41 (fun sz => c_X11_upper l D t G _ z34 _ hw sz) dX9_child_106 ⟨Nat.le_of_ble_eq_true rfl, Nat.le_of_ble_eq_true rfl⟩ rfl hl.1 (Nat.le_of_ble_eq_true rfl) rfl (fun z36 κ35 H locs cells slots hw hH => ?_)
              obtain ⟨K39, hK40, hw⟩ := jc_open hw
              refine cw_join (K := K39) 117 (fun (x37 : Int32) => [(8, .int x15.1), (6, va_rf z8), (5, .int x1), (4, .int a4), (3, .int a3), (2, va_rf a2), (1, .int a1), (0, .ref h)]) (fun (x37 : Int32) => [.int x37]) hl hH (fun x37 κ38 ls H locs cells slots hl hw hH => ?_) (fun jn41 => ?_)
              · have hw := hK40 x37 κ38 hw
                have hl : lv_has ls 9 [(8, .int x15.1), (6, va_rf z8), (5, .int x1), (4, .int a4), (3, .int a3), (2, va_rf a2), (1, .int a1), (0, .ref h)] := hl
                refine lv_istore (lv' := [(7, .int x37), (8, .int x15.1), (6, va_rf z8), (5, .int x1), (4, .int a4), (3, .int a3), (2, va_rf a2), (1, .int a1), (0, .ref h)]) hx hb dX9_child_117 hl (by decide) (by generalize z8 = y; cases y <;> rfl) (fun ls hl => ?_)
                obtain ⟨z42, ez42⟩ : ∃ z : Int32, z = x15.1 + 1 := ⟨_, rfl⟩
                have hw := hw z42 ez42
                refine lv_iinc (lv' := [(8, .int z42), (7, .int x37), (6, va_rf z8), (5, .int x1), (4, .int a4), (3, .int a3), (2, va_rf a2), (1, .int a1), (0, .ref h)]) (k := 1) (v := z42) hx hb dX9_child_119 hl rfl ez42.symm (by decide) rfl (fun ls hl => ?_)
                refine lv_goto (tgt := 61) hx hb dX9_child_122 rfl ?_
                exact ih18 (z42, x37) κ38 ls _ _ _ _ hl hw hH
              · skip
                refine w_icmp_ne (tgt := 116) hF dX9_child_109 rfl hw (fun hw => ?_) (fun hw => ?_)
                · refine lv_iconst (v := 0) hx hb dX9_child_116 (by decide) ?_
                  have hl : lv_has ls 9 [(8, .int x15.1), (6, va_rf z8), (5, .int x1), (4, .int a4), (3, .int a3), (2, va_rf a2), (1, .int a1), (0, .ref h)] := lv_sub hl [0, 2, 3, 4, 5, 6, 7, 8] rfl
                  exact jn41 0 κ35 ls _ _ _ _ hl hw hH
                · refine lv_iconst (v := 1) hx hb dX9_child_112 (by decide) ?_
                  refine lv_goto (tgt := 117) hx hb dX9_child_113 rfl ?_
                  have hl : lv_has ls 9 [(8, .int x15.1), (6, va_rf z8), (5, .int x1), (4, .int a4), (3, .int a3), (2, va_rf a2), (1, .int a1), (0, .ref h)] := lv_sub hl [0, 2, 3, 4, 5, 6, 7, 8] rfl
                  exact jn41 1 κ35 ls _ _ _ _ hl hw hH
    · skip
      obtain ⟨K45, hK46, hw⟩ := jc_open hw
      refine cw_join (K := K45) 55 (fun (x43 : Unit) => [(6, va_rf z8), (5, .int x1), (4, .int a4), (3, .int a3), (2, va_rf a2), (1, .int a1), (0, .ref h)]) (fun (x43 : Unit) => []) hl hH (fun x43 κ44 ls H locs cells slots hl hw hH => ?_) (fun jn47 => ?_)
      · have hw := hK46 x43 κ44 hw
        have hl : lv_has ls 9 [(6, va_rf z8), (5, .int x1), (4, .int a4), (3, .int a3), (2, va_rf a2), (1, .int a1), (0, .ref h)] := hl
        refine lv_iconst (v := 0) hx hb dX9_child_55 (by decide) ?_
        exact jn14 0 κ44 ls _ _ _ _ hl hw hH
      · skip
        refine w_if_eq (tgt := 55) hF dX9_child_27 rfl hw (fun hw => ?_) (fun hw => ?_)
        · exact jn47 () κ2 ls _ _ _ _ hl hw hH
        · refine w_aloadq hF dX9_child_30 (lv_at hl 0 rfl) ?_
          refine cw_getI (q := z8) hF hH fk_X9_24 dX9_child_32 hw (fun z48 hw => ?_)
          refine lv_iload_n hx hb dX9_child_35 rfl (lv_at hl 5 rfl) ?_
          refine w_icmp_ne (tgt := 55) hF dX9_child_36 rfl hw (fun hw => ?_) (fun hw => ?_)
          · exact jn47 () κ2 ls _ _ _ _ hl hw hH
          · refine w_aloadq hF dX9_child_39 (lv_at hl 0 rfl) ?_
            refine cw_getI (q := z8) hF hH fk_X9_28 dX9_child_41 hw (fun z49 hw => ?_)
            refine lv_iload hx hb dX9_child_44 (lv_at hl 2 rfl) ?_
            refine lv_iload_n hx hb dX9_child_46 rfl (lv_at hl 3 rfl) ?_
            refine lv_isub hx hb dX9_child_47 ?_
            refine w_nmi hw (fun z50 hw => ?_)
            refine w_icmp_ne (tgt := 55) hF dX9_child_48 rfl hw (fun hw => ?_) (fun hw => ?_)
            · exact jn47 () κ2 ls _ _ _ _ hl hw hH
            · refine lv_iconst (v := 1) hx hb dX9_child_51 (by decide) ?_
              refine lv_goto (tgt := 56) hx hb dX9_child_52 rfl ?_
              exact jn14 1 κ2 ls _ _ _ _ hl hw hH
set_option maxRecDepth 100000 in
def F_X9_holdsAny (G : GE) (h : Nat) (a1 : Int32) (post : Int32 → CS → Prop) (κ : CS) : Prop := lc (fun (K3 : Int32 → CS → Prop) (x1 : Int32) (κ2 : CS) => (h ∈ sL κ2.1 ∧ sK κ2.1 h = 6) ∧ ∀ z5 : Option Nat, z5 = sP κ2.1 h 0 → ∃ n : Nat, AL G κ2 z5 n ∧ ∀ z6 : Int32, z6 = nI n → ((z6.toInt ≤ x1.toInt) → (0 ≤ (0 : Int32).toInt ∧ (0 : Int32).toInt ≤ 1) ∧ post 0 κ2) ∧ ((x1.toInt < z6.toInt) → (h ∈ sL κ2.1 ∧ sK κ2.1 h = 6) ∧ ∀ z7 : Option Nat, z7 = sP κ2.1 h 0 → ∃ b : Nat, z7 = some b ∧ (b ∈ sL κ2.1 ∧ 24 ≤ sK κ2.1 b ∧ sK κ2.1 b < 28) ∧ (0 ≤ x1.toInt ∧ x1.toInt < (sN κ2.1 b : Int)) ∧ ∀ z8 : Option Nat, z8 = sP κ2.1 b x1.toInt.toNat → ∃ b : Nat, z8 = some b ∧ (b ∈ sL κ2.1 ∧ sK κ2.1 b = 5) ∧ ∀ z9 : Int32, z9 = sI κ2.1 b 1 → jc (fun (K12 : Unit → CS → Prop) => ((z9.toInt = 0) → K12 () κ2) ∧ ((¬ z9.toInt = 0) → (h ∈ sL κ2.1 ∧ sK κ2.1 h = 6) ∧ ∀ z16 : Option Nat, z16 = sP κ2.1 h 0 → ∃ b : Nat, z16 = some b ∧ (b ∈ sL κ2.1 ∧ 24 ≤ sK κ2.1 b ∧ sK κ2.1 b < 28) ∧ (0 ≤ x1.toInt ∧ x1.toInt < (sN κ2.1 b : Int)) ∧ ∀ z17 : Option Nat, z17 = sP κ2.1 b x1.toInt.toNat → ∃ b : Nat, z17 = some b ∧ (b ∈ sL κ2.1 ∧ sK κ2.1 b = 5) ∧ ∀ z18 : Int32, z18 = sI κ2.1 b 4 → ((¬ z18.toInt = a1.toInt) → K12 () κ2) ∧ ((z18.toInt = a1.toInt) → (0 ≤ (1 : Int32).toInt ∧ (1 : Int32).toInt ≤ 1) ∧ post 1 κ2))) (fun (x10 : Unit) (κ11 : CS) => ∀ z15 : Int32, z15 = x1 + 1 → K3 z15 κ11))) 0 κ
theorem dX9_holdsAny_0 : decode cX9_holdsAny 0 = .ok (.iconst 0, 1) := by decide +kernel
theorem dX9_holdsAny_1 : decode cX9_holdsAny 1 = .ok (.istore_n 2, 1) := by decide +kernel
theorem dX9_holdsAny_2 : decode cX9_holdsAny 2 = .ok (.iload_n 2, 1) := by decide +kernel
theorem dX9_holdsAny_3 : decode cX9_holdsAny 3 = .ok (.aload_n 0, 1) := by decide +kernel
theorem dX9_holdsAny_4 : decode cX9_holdsAny 4 = .ok (.getfield 11, 3) := by decide +kernel
theorem dX9_holdsAny_7 : decode cX9_holdsAny 7 = .ok (.arraylength, 1) := by decide +kernel
theorem dX9_holdsAny_8 : decode cX9_holdsAny 8 = .ok (.if_icmp .ge 36, 3) := by decide +kernel
theorem dX9_holdsAny_11 : decode cX9_holdsAny 11 = .ok (.aload_n 0, 1) := by decide +kernel
theorem dX9_holdsAny_12 : decode cX9_holdsAny 12 = .ok (.getfield 11, 3) := by decide +kernel
theorem dX9_holdsAny_15 : decode cX9_holdsAny 15 = .ok (.iload_n 2, 1) := by decide +kernel
theorem dX9_holdsAny_16 : decode cX9_holdsAny 16 = .ok (.aaload, 1) := by decide +kernel
theorem dX9_holdsAny_17 : decode cX9_holdsAny 17 = .ok (.getfield 20, 3) := by decide +kernel
theorem dX9_holdsAny_20 : decode cX9_holdsAny 20 = .ok (.ifCond .eq 18, 3) := by decide +kernel
theorem dX9_holdsAny_23 : decode cX9_holdsAny 23 = .ok (.aload_n 0, 1) := by decide +kernel
theorem dX9_holdsAny_24 : decode cX9_holdsAny 24 = .ok (.getfield 11, 3) := by decide +kernel
theorem dX9_holdsAny_27 : decode cX9_holdsAny 27 = .ok (.iload_n 2, 1) := by decide +kernel
theorem dX9_holdsAny_28 : decode cX9_holdsAny 28 = .ok (.aaload, 1) := by decide +kernel
theorem dX9_holdsAny_29 : decode cX9_holdsAny 29 = .ok (.getfield 24, 3) := by decide +kernel
theorem dX9_holdsAny_32 : decode cX9_holdsAny 32 = .ok (.iload_n 1, 1) := by decide +kernel
theorem dX9_holdsAny_33 : decode cX9_holdsAny 33 = .ok (.if_icmp .ne 5, 3) := by decide +kernel
theorem dX9_holdsAny_36 : decode cX9_holdsAny 36 = .ok (.iconst 1, 1) := by decide +kernel
theorem dX9_holdsAny_37 : decode cX9_holdsAny 37 = .ok (.ireturn, 1) := by decide +kernel
theorem dX9_holdsAny_38 : decode cX9_holdsAny 38 = .ok (.iinc 2 1, 3) := by decide +kernel
theorem dX9_holdsAny_41 : decode cX9_holdsAny 41 = .ok (.goto (-39), 3) := by decide +kernel
theorem dX9_holdsAny_44 : decode cX9_holdsAny 44 = .ok (.iconst 0, 1) := by decide +kernel
theorem dX9_holdsAny_45 : decode cX9_holdsAny 45 = .ok (.ireturn, 1) := by decide +kernel
set_option maxRecDepth 100000 in
set_option maxHeartbeats 4000000 in
theorem c_X9_holdsAny (l : Launch) (D : va_G) (t : Nat → ClassId) (G : GE) (κ : CS) (h : Nat) (a1 : Int32) (post : Int32 → CS → Prop) (hw : F_X9_holdsAny G h a1 post κ) (sz : Nat) : CMi l D t yX9_holdsAny cX9_holdsAny 3 (some .boolean) 0 14 G κ sz [.ref h, .int a1] post := by
  refine c_go (by decide) (Nat.le_of_ble_eq_true rfl) ?_
  intro p e s m below meth c ls A hF hr hlk hin hAe hH hA hE hl
  unfold cB
  rw [hAe]
  clear hAe
  have hF : FX p m c cX9_holdsAny 3 s _ RX9 D t := hF
  have hx := hF.1.1
  have hb := hF.1.2.1
  have hl : lv_has ls 3 [(0, .ref h), (1, .int a1)] := hl
  unfold F_X9_holdsAny at hw
  refine lv_iconst (v := 0) hx hb dX9_holdsAny_0 (by decide) ?_
  refine lv_istore_n (lv' := [(2, .int 0), (0, .ref h), (1, .int a1)]) hx hb dX9_holdsAny_1 rfl hl (by decide) rfl (fun ls hl => ?_)
  have hl : lv_has ls 3 [(2, .int 0), (1, .int a1), (0, .ref h)] := lv_sub hl [0, 2, 1] rfl
  refine cw_loop (β := Int32) (fun x1 => [(2, .int x1), (1, .int a1), (0, .ref h)]) 0 hl hw hH (fun K3 x1 κ2 ls H locs cells slots hl hw hH ih4 => ?_)
  have hl : lv_has ls 3 [(2, .int x1), (1, .int a1), (0, .ref h)] := hl
  refine lv_iload_n hx hb dX9_holdsAny_2 rfl (lv_at hl 0 rfl) ?_
  refine lv_aload_n hx hb dX9_holdsAny_3 rfl (lv_at hl 2 rfl) ?_
  refine cw_getPr (a := h) hF hH fk_X9_11 dX9_holdsAny_4 hw (fun z5 hw => ?_)
  refine cw_alen (q := z5) hF hH hE dX9_holdsAny_7 hw (fun z6 hw => ?_)
  refine w_icmp_ge (tgt := 44) hF dX9_holdsAny_8 rfl hw (fun hw => ?_) (fun hw => ?_)
  · refine lv_iconst (v := 0) hx hb dX9_holdsAny_44 (by decide) ?_
    exact cw_retz hF hH ⟨rfl, rfl⟩ hr hlk dX9_holdsAny_45 hw
  · refine lv_aload_n hx hb dX9_holdsAny_11 rfl (lv_at hl 2 rfl) ?_
    refine cw_getPr (a := h) hF hH fk_X9_11 dX9_holdsAny_12 hw (fun z7 hw => ?_)
    refine lv_iload_n hx hb dX9_holdsAny_15 rfl (lv_at hl 0 rfl) ?_
    refine cw_aald (q := z7) hF hH dX9_holdsAny_16 hw (fun z8 hw => ?_)
    refine cw_getI (q := z8) hF hH fk_X9_20 dX9_holdsAny_17 hw (fun z9 hw => ?_)
    obtain ⟨K12, hK13, hw⟩ := jc_open hw
    refine cw_join (K := K12) 38 (fun (x10 : Unit) => [(2, .int x1), (1, .int a1), (0, .ref h)]) (fun (x10 : Unit) => []) hl hH (fun x10 κ11 ls H locs cells slots hl hw hH => ?_) (fun jn14 => ?_)
    · have hw := hK13 x10 κ11 hw
      have hl : lv_has ls 3 [(2, .int x1), (1, .int a1), (0, .ref h)] := hl
      obtain ⟨z15, ez15⟩ : ∃ z : Int32, z = x1 + 1 := ⟨_, rfl⟩
      have hw := hw z15 ez15
      refine lv_iinc (lv' := [(2, .int z15), (1, .int a1), (0, .ref h)]) (k := 0) (v := z15) hx hb dX9_holdsAny_38 hl rfl ez15.symm (by decide) rfl (fun ls hl => ?_)
      refine lv_goto (tgt := 2) hx hb dX9_holdsAny_41 rfl ?_
      exact ih4 z15 κ11 ls _ _ _ _ hl hw hH
    · skip
      refine w_if_eq (tgt := 38) hF dX9_holdsAny_20 rfl hw (fun hw => ?_) (fun hw => ?_)
      · exact jn14 () κ2 ls _ _ _ _ hl hw hH
      · refine lv_aload_n hx hb dX9_holdsAny_23 rfl (lv_at hl 2 rfl) ?_
        refine cw_getPr (a := h) hF hH fk_X9_11 dX9_holdsAny_24 hw (fun z16 hw => ?_)
        refine lv_iload_n hx hb dX9_holdsAny_27 rfl (lv_at hl 0 rfl) ?_
        refine cw_aald (q := z16) hF hH dX9_holdsAny_28 hw (fun z17 hw => ?_)
        refine cw_getI (q := z17) hF hH fk_X9_24 dX9_holdsAny_29 hw (fun z18 hw => ?_)
        refine lv_iload_n hx hb dX9_holdsAny_32 rfl (lv_at hl 1 rfl) ?_
        refine w_icmp_ne (tgt := 38) hF dX9_holdsAny_33 rfl hw (fun hw => ?_) (fun hw => ?_)
        · exact jn14 () κ2 ls _ _ _ _ hl hw hH
        · refine lv_iconst (v := 1) hx hb dX9_holdsAny_36 (by decide) ?_
          exact cw_retz hF hH ⟨rfl, rfl⟩ hr hlk dX9_holdsAny_37 hw
set_option maxRecDepth 100000 in
def F_X9_isWithin (G : GE) (h : Nat) (a1 : Option Nat) (a2 : Option Nat) (post : Int32 → CS → Prop) (κ : CS) : Prop := lc (fun (K3 : (Int32 × Option Nat) → CS → Prop) (x1 : Int32 × Option Nat) (κ2 : CS) => (h ∈ sL κ2.1 ∧ sK κ2.1 h = 6) ∧ ∀ z5 : Option Nat, z5 = sP κ2.1 h 0 → ∃ n : Nat, AL G κ2 z5 n ∧ ∀ z6 : Int32, z6 = nI n → jc (fun (K9 : Unit → CS → Prop) => ((z6.toInt < x1.1.toInt) → K9 () κ2) ∧ ((x1.1.toInt ≤ z6.toInt) → ((x1.2 = none) → K9 () κ2) ∧ ((¬ x1.2 = none) → ((¬ x1.2 = a2) → ∃ b : Nat, x1.2 = some b ∧ (b ∈ sL κ2.1 ∧ sK κ2.1 b = 5) ∧ ∀ z12 : Int32, z12 = sI κ2.1 b 4 → (h ∈ sL κ2.1 ∧ sK κ2.1 h = 6) ∧ F_X9_node G h z12 (fun (z14 : Option Nat) (κ13 : CS) => ∀ z15 : Int32, z15 = x1.1 + 1 → K3 (z15, z14) κ13) κ2) ∧ ((x1.2 = a2) → (0 ≤ (1 : Int32).toInt ∧ (1 : Int32).toInt ≤ 1) ∧ post 1 κ2)))) (fun (x7 : Unit) (κ8 : CS) => (0 ≤ (0 : Int32).toInt ∧ (0 : Int32).toInt ≤ 1) ∧ post 0 κ8)) (0, a1) κ
theorem dX9_isWithin_0 : decode cX9_isWithin 0 = .ok (.aload_n 1, 1) := by decide +kernel
theorem dX9_isWithin_1 : decode cX9_isWithin 1 = .ok (.astore_n 3, 1) := by decide +kernel
theorem dX9_isWithin_2 : decode cX9_isWithin 2 = .ok (.iconst 0, 1) := by decide +kernel
theorem dX9_isWithin_3 : decode cX9_isWithin 3 = .ok (.istore 4, 2) := by decide +kernel
theorem dX9_isWithin_5 : decode cX9_isWithin 5 = .ok (.iload 4, 2) := by decide +kernel
theorem dX9_isWithin_7 : decode cX9_isWithin 7 = .ok (.aload_n 0, 1) := by decide +kernel
theorem dX9_isWithin_8 : decode cX9_isWithin 8 = .ok (.getfield 11, 3) := by decide +kernel
theorem dX9_isWithin_11 : decode cX9_isWithin 11 = .ok (.arraylength, 1) := by decide +kernel
theorem dX9_isWithin_12 : decode cX9_isWithin 12 = .ok (.if_icmp .gt 29, 3) := by decide +kernel
theorem dX9_isWithin_15 : decode cX9_isWithin 15 = .ok (.aload_n 3, 1) := by decide +kernel
theorem dX9_isWithin_16 : decode cX9_isWithin 16 = .ok (.ifnull 25, 3) := by decide +kernel
theorem dX9_isWithin_19 : decode cX9_isWithin 19 = .ok (.aload_n 3, 1) := by decide +kernel
theorem dX9_isWithin_20 : decode cX9_isWithin 20 = .ok (.aload_n 2, 1) := by decide +kernel
theorem dX9_isWithin_21 : decode cX9_isWithin 21 = .ok (.if_acmp .ne 5, 3) := by decide +kernel
theorem dX9_isWithin_24 : decode cX9_isWithin 24 = .ok (.iconst 1, 1) := by decide +kernel
theorem dX9_isWithin_25 : decode cX9_isWithin 25 = .ok (.ireturn, 1) := by decide +kernel
theorem dX9_isWithin_26 : decode cX9_isWithin 26 = .ok (.aload_n 0, 1) := by decide +kernel
theorem dX9_isWithin_27 : decode cX9_isWithin 27 = .ok (.aload_n 3, 1) := by decide +kernel
theorem dX9_isWithin_28 : decode cX9_isWithin 28 = .ok (.getfield 24, 3) := by decide +kernel
theorem dX9_isWithin_31 : decode cX9_isWithin 31 = .ok (.invokevirtual 44, 3) := by decide +kernel
theorem dX9_isWithin_34 : decode cX9_isWithin 34 = .ok (.astore_n 3, 1) := by decide +kernel
theorem dX9_isWithin_35 : decode cX9_isWithin 35 = .ok (.iinc 4 1, 3) := by decide +kernel
theorem dX9_isWithin_38 : decode cX9_isWithin 38 = .ok (.goto (-33), 3) := by decide +kernel
theorem dX9_isWithin_41 : decode cX9_isWithin 41 = .ok (.iconst 0, 1) := by decide +kernel
theorem dX9_isWithin_42 : decode cX9_isWithin 42 = .ok (.ireturn, 1) := by decide +kernel
set_option maxRecDepth 100000 in
set_option maxHeartbeats 4000000 in
theorem c_X9_isWithin (l : Launch) (D : va_G) (t : Nat → ClassId) (G : GE) (κ : CS) (h : Nat) (a1 : Option Nat) (a2 : Option Nat) (post : Int32 → CS → Prop) (hw : F_X9_isWithin G h a1 a2 post κ) (sz : Nat) : CMi l D t yX9_isWithin cX9_isWithin 5 (some .boolean) 1 35 G κ sz [.ref h, va_rf a1, va_rf a2] post := by
  refine c_go (by decide) (by cases a1 <;> cases a2 <;> exact Nat.le_of_ble_eq_true rfl) ?_
  intro p e s m below meth c ls A hF hr hlk hin hAe hH hA hE hl
  unfold cB
  rw [hAe]
  clear hAe
  have hF : FX p m c cX9_isWithin 5 s _ RX9 D t := hF
  have hx := hF.1.1
  have hb := hF.1.2.1
  have hl : lv_has ls 5 [(0, .ref h), (1, va_rf a1), (2, va_rf a2)] := (by have h2 := hl; clear hw; revert h2; cases a1 <;> cases a2 <;> exact id)
  unfold F_X9_isWithin at hw
  refine w_aloadq_n hF dX9_isWithin_0 rfl (lv_at hl 1 rfl) ?_
  refine w_astoreq_n (lv' := [(3, va_rf a1), (0, .ref h), (1, va_rf a1), (2, va_rf a2)]) hF dX9_isWithin_1 rfl hl (by decide) (by generalize a2 = y; cases y <;> rfl) (fun ls hl => ?_)
  refine lv_iconst (v := 0) hx hb dX9_isWithin_2 (by decide) ?_
  refine lv_istore (lv' := [(4, .int 0), (3, va_rf a1), (0, .ref h), (1, va_rf a1), (2, va_rf a2)]) hx hb dX9_isWithin_3 hl (by decide) (by generalize a1 = y; cases y <;> rfl) (fun ls hl => ?_)
  have hl : lv_has ls 5 [(4, .int 0), (3, va_rf a1), (2, va_rf a2), (0, .ref h)] := lv_sub hl [0, 1, 4, 2] rfl
  refine cw_loop (β := Int32 × Option Nat) (fun x1 => [(4, .int x1.1), (3, va_rf x1.2), (2, va_rf a2), (0, .ref h)]) (0, a1) hl hw hH (fun K3 x1 κ2 ls H locs cells slots hl hw hH ih4 => ?_)
  have hl : lv_has ls 5 [(4, .int x1.1), (3, va_rf x1.2), (2, va_rf a2), (0, .ref h)] := hl
  refine lv_iload hx hb dX9_isWithin_5 (lv_at hl 0 rfl) ?_
  refine lv_aload_n hx hb dX9_isWithin_7 rfl (lv_at hl 3 rfl) ?_
  refine cw_getPr (a := h) hF hH fk_X9_11 dX9_isWithin_8 hw (fun z5 hw => ?_)
  refine cw_alen (q := z5) hF hH hE dX9_isWithin_11 hw (fun z6 hw => ?_)
  obtain ⟨K9, hK10, hw⟩ := jc_open hw
  refine cw_join (K := K9) 41 (fun (x7 : Unit) => []) (fun (x7 : Unit) => []) hl hH (fun x7 κ8 ls H locs cells slots hl hw hH => ?_) (fun jn11 => ?_)
  · have hw := hK10 x7 κ8 hw
    have hl : lv_has ls 5 [] := hl
    refine lv_iconst (v := 0) hx hb dX9_isWithin_41 (by decide) ?_
    exact cw_retz hF hH ⟨rfl, rfl⟩ hr hlk dX9_isWithin_42 hw
  · skip
    refine w_icmp_gt (tgt := 41) hF dX9_isWithin_12 rfl hw (fun hw => ?_) (fun hw => ?_)
    · have hl : lv_has ls 5 [] := lv_sub hl [] rfl
      exact jn11 () κ2 ls _ _ _ _ hl hw hH
    · refine w_aloadq_n hF dX9_isWithin_15 rfl (lv_at hl 1 rfl) ?_
      refine cw_ifnull (q := x1.2) (tgt := 41) hF dX9_isWithin_16 rfl hw (fun hw => ?_) (fun hw => ?_)
      · have hl : lv_has ls 5 [] := lv_sub hl [] rfl
        exact jn11 () κ2 ls _ _ _ _ hl hw hH
      · refine w_aloadq_n hF dX9_isWithin_19 rfl (lv_at hl 1 rfl) ?_
        refine w_aloadq_n hF dX9_isWithin_20 rfl (lv_at hl 2 rfl) ?_
        refine cw_acmp_ne (rx := x1.2) (ry := a2) (tgt := 26) hF dX9_isWithin_21 rfl hw (fun hw => ?_) (fun hw => ?_)
        · refine lv_aload_n hx hb dX9_isWithin_26 rfl (lv_at hl 3 rfl) ?_
          refine w_aloadq_n hF dX9_isWithin_27 rfl (lv_at hl 1 rfl) ?_
          refine cw_getI (q := x1.2) hF hH fk_X9_24 dX9_isWithin_28 hw (fun z12 hw => ?_)
          refine cw_cVq (b := h) (As := [.int z12]) (rest := []) hF hH hA hE mv_X9_44 ci_X9 (by decide) (fun sz => c_X9_node l D t G _ h z12 _ hw.2 sz) dX9_isWithin_31 hw.1 ⟨Nat.le_of_ble_eq_true rfl, Nat.le_of_ble_eq_true rfl⟩ rfl hl.1 (Nat.le_of_ble_eq_true rfl) rfl (fun z14 κ13 H locs cells slots hw hH => ?_)
          refine w_astoreq_n (lv' := [(3, va_rf z14), (4, .int x1.1), (2, va_rf a2), (0, .ref h)]) hF dX9_isWithin_34 rfl hl (by decide) (by generalize a2 = y; cases y <;> rfl) (fun ls hl => ?_)
          obtain ⟨z15, ez15⟩ : ∃ z : Int32, z = x1.1 + 1 := ⟨_, rfl⟩
          have hw := hw z15 ez15
          refine lv_iinc (lv' := [(4, .int z15), (3, va_rf z14), (2, va_rf a2), (0, .ref h)]) (k := 1) (v := z15) hx hb dX9_isWithin_35 hl rfl ez15.symm (by decide) (by generalize z14 = y; cases y <;> rfl) (fun ls hl => ?_)
          refine lv_goto (tgt := 5) hx hb dX9_isWithin_38 rfl ?_
          exact ih4 (z15, z14) κ13 ls _ _ _ _ hl hw hH
        · refine lv_iconst (v := 1) hx hb dX9_isWithin_24 (by decide) ?_
          exact cw_retz hF hH ⟨rfl, rfl⟩ hr hlk dX9_isWithin_25 hw
set_option maxRecDepth 100000 in
def F_X9_apply (G : GE) (h : Nat) (a1 : Option Nat) (post : CS → Prop) (κ : CS) : Prop := ∃ b : Nat, a1 = some b ∧ (b ∈ sL κ.1 ∧ sK κ.1 b = 4) ∧ ∀ z1 : Int32, z1 = sI κ.1 b 1 → jc (fun (K4 : Unit → CS → Prop) => ((z1.toInt < 0) → K4 () κ) ∧ ((0 ≤ z1.toInt) → ∃ b : Nat, a1 = some b ∧ (b ∈ sL κ.1 ∧ sK κ.1 b = 4) ∧ ∀ z7 : Int32, z7 = sI κ.1 b 1 → (h ∈ sL κ.1 ∧ sK κ.1 h = 6) ∧ ∀ z8 : Option Nat, z8 = sP κ.1 h 0 → ∃ n : Nat, AL G κ z8 n ∧ ∀ z9 : Int32, z9 = nI n → ((z7.toInt < z9.toInt) → (h ∈ sL κ.1 ∧ sK κ.1 h = 6) ∧ ∀ z10 : Option Nat, z10 = sP κ.1 h 0 → ∃ b : Nat, a1 = some b ∧ (b ∈ sL κ.1 ∧ sK κ.1 b = 4) ∧ ∀ z11 : Int32, z11 = sI κ.1 b 1 → ∃ b : Nat, z10 = some b ∧ (b ∈ sL κ.1 ∧ 24 ≤ sK κ.1 b ∧ sK κ.1 b < 28) ∧ (0 ≤ z11.toInt ∧ z11.toInt < (sN κ.1 b : Int)) ∧ ∀ z12 : Option Nat, z12 = sP κ.1 b z11.toInt.toNat → (h ∈ sL κ.1 ∧ sK κ.1 h = 6) ∧ ∀ z13 : Int32, z13 = sI κ.1 h 1 → ∃ b : Nat, a1 = some b ∧ (b ∈ sL κ.1 ∧ sK κ.1 b = 4) ∧ ∀ z14 : Int32, z14 = sI κ.1 b 0 → jc (fun (K17 : Int32 → CS → Prop) => ((z14.toInt = (5 : Int32).toInt) → K17 0 κ) ∧ ((¬ z14.toInt = (5 : Int32).toInt) → K17 1 κ)) (fun (x15 : Int32) (κ16 : CS) => ∃ b : Nat, z12 = some b ∧ (b ∈ sL κ16.1 ∧ sK κ16.1 b = 5) ∧ ∀ z20 : Int32, z20 = sI κ16.1 b 1 → jc (fun (K23 : Int32 → CS → Prop) => ((z20.toInt = 0) → K23 0 κ16) ∧ ((¬ z20.toInt = 0) → K23 1 κ16)) (fun (x21 : Int32) (κ22 : CS) => ∀ z26 : Int32, z26 = x15 - x21 → ∀ z27 : Int32, z27 = z13 + z26 → (h ∈ sL κ22.1 ∧ sK κ22.1 h = 6) ∧ ∀ κ28 : CS, κ28 = (h_uI κ22.1 h 1 z27, κ22.2) → ∃ b : Nat, a1 = some b ∧ (b ∈ sL κ28.1 ∧ sK κ28.1 b = 4) ∧ ∀ z29 : Int32, z29 = sI κ28.1 b 0 → jc (fun (K32 : Int32 → CS → Prop) => ((z29.toInt = (5 : Int32).toInt) → K32 0 κ28) ∧ ((¬ z29.toInt = (5 : Int32).toInt) → K32 1 κ28)) (fun (x30 : Int32) (κ31 : CS) => (0 ≤ x30.toInt ∧ x30.toInt ≤ 1) ∧ ∃ b : Nat, z12 = some b ∧ (b ∈ sL κ31.1 ∧ sK κ31.1 b = 5) ∧ ∀ κ35 : CS, κ35 = (h_uI κ31.1 b 1 x30, κ31.2) → ∃ b : Nat, a1 = some b ∧ (b ∈ sL κ35.1 ∧ sK κ35.1 b = 4) ∧ ∀ z36 : Int32, z36 = sI κ35.1 b 0 → jc (fun (K39 : Unit → CS → Prop) => ((¬ z36.toInt = 0) → K39 () κ35) ∧ ((z36.toInt = 0) → ∃ b : Nat, z12 = some b ∧ (b ∈ sL κ35.1 ∧ sK κ35.1 b = 5) ∧ ∀ κ124 : CS, κ124 = (h_uI κ35.1 b 12 0, κ35.2) → (0 ≤ (0 : Int32).toInt ∧ (0 : Int32).toInt ≤ 1) ∧ ∃ b : Nat, z12 = some b ∧ (b ∈ sL κ124.1 ∧ sK κ124.1 b = 5) ∧ ∀ κ125 : CS, κ125 = (h_uI κ124.1 b 3 0, κ124.2) → K39 () κ125)) (fun (x37 : Unit) (κ38 : CS) => ∃ b : Nat, a1 = some b ∧ (b ∈ sL κ38.1 ∧ sK κ38.1 b = 4) ∧ ∀ z42 : Int32, z42 = sI κ38.1 b 3 → (0 ≤ z42.toInt ∧ z42.toInt ≤ 1) ∧ ∃ b : Nat, z12 = some b ∧ (b ∈ sL κ38.1 ∧ sK κ38.1 b = 5) ∧ ∀ κ43 : CS, κ43 = (h_uI κ38.1 b 2 z42, κ38.2) → ∃ b : Nat, a1 = some b ∧ (b ∈ sL κ43.1 ∧ sK κ43.1 b = 4) ∧ ∀ z44 : Int32, z44 = sI κ43.1 b 2 → ∃ b : Nat, z12 = some b ∧ (b ∈ sL κ43.1 ∧ sK κ43.1 b = 5) ∧ ∀ κ45 : CS, κ45 = (h_uI κ43.1 b 4 z44, κ43.2) → ∃ b : Nat, a1 = some b ∧ (b ∈ sL κ45.1 ∧ sK κ45.1 b = 4) ∧ ∀ z46 : Int32, z46 = sI κ45.1 b 5 → ∃ b : Nat, z12 = some b ∧ (b ∈ sL κ45.1 ∧ sK κ45.1 b = 5) ∧ ∀ κ47 : CS, κ47 = (h_uI κ45.1 b 6 z46, κ45.2) → ∃ b : Nat, a1 = some b ∧ (b ∈ sL κ47.1 ∧ sK κ47.1 b = 4) ∧ ∀ z48 : Option Nat, z48 = sP κ47.1 b 4 → ∃ b : Nat, z12 = some b ∧ (b ∈ sL κ47.1 ∧ sK κ47.1 b = 5) ∧ ∀ z49 : Option Nat, z49 = sP κ47.1 b 5 → ∃ b : Nat, z12 = some b ∧ (b ∈ sL κ47.1 ∧ sK κ47.1 b = 5) ∧ ∀ z50 : Option Nat, z50 = sP κ47.1 b 5 → ∃ n : Nat, AL G κ47 z50 n ∧ ∀ z51 : Int32, z51 = nI n → ∃ u0 : Nat, z48 = some u0 ∧ ∃ u1 : Nat, z49 = some u1 ∧ (u0 ∈ sL κ47.1 ∧ sK κ47.1 u0 = 20) ∧ (u1 ∈ sL κ47.1 ∧ sK κ47.1 u1 = 20) ∧ (0 ≤ (0 : Int32).toInt ∧ 0 ≤ (0 : Int32).toInt ∧ 0 ≤ z51.toInt ∧ (0 : Int32).toInt + z51.toInt ≤ (sN κ47.1 u0 : Int) ∧ (0 : Int32).toInt + z51.toInt ≤ (sN κ47.1 u1 : Int)) ∧ (∀ j : Nat, j < z51.toInt.toNat → -128 ≤ (sI κ47.1 u0 ((0 : Int32).toInt.toNat + j)).toInt ∧ (sI κ47.1 u0 ((0 : Int32).toInt.toNat + j)).toInt ≤ 127) ∧ ∀ κ52 : CS, κ52 = (h_cpI κ47.1 u0 u1 (0 : Int32).toInt.toNat (0 : Int32).toInt.toNat z51.toInt.toNat, κ47.2) → ∃ b : Nat, a1 = some b ∧ (b ∈ sL κ52.1 ∧ sK κ52.1 b = 4) ∧ ∀ z53 : Int32, z53 = sI κ52.1 b 6 → ∃ b : Nat, z12 = some b ∧ (b ∈ sL κ52.1 ∧ sK κ52.1 b = 5) ∧ ∀ κ54 : CS, κ54 = (h_uI κ52.1 b 7 z53, κ52.2) → ∃ b : Nat, a1 = some b ∧ (b ∈ sL κ54.1 ∧ sK κ54.1 b = 4) ∧ ∀ z55 : Int64, z55 = sJ κ54.1 b 7 → ∃ b : Nat, z12 = some b ∧ (b ∈ sL κ54.1 ∧ sK κ54.1 b = 5) ∧ ∀ κ56 : CS, κ56 = (h_uJ κ54.1 b 8 z55, κ54.2) → ∃ b : Nat, a1 = some b ∧ (b ∈ sL κ56.1 ∧ sK κ56.1 b = 4) ∧ ∀ z57 : Int64, z57 = sJ κ56.1 b 8 → ∃ b : Nat, z12 = some b ∧ (b ∈ sL κ56.1 ∧ sK κ56.1 b = 5) ∧ ∀ κ58 : CS, κ58 = (h_uJ κ56.1 b 9 z57, κ56.2) → ∃ b : Nat, a1 = some b ∧ (b ∈ sL κ58.1 ∧ sK κ58.1 b = 4) ∧ ∀ z59 : Int64, z59 = sJ κ58.1 b 9 → ∃ b : Nat, z12 = some b ∧ (b ∈ sL κ58.1 ∧ sK κ58.1 b = 5) ∧ ∀ κ60 : CS, κ60 = (h_uJ κ58.1 b 10 z59, κ58.2) → ∃ b : Nat, a1 = some b ∧ (b ∈ sL κ60.1 ∧ sK κ60.1 b = 4) ∧ ∀ z61 : Int64, z61 = sJ κ60.1 b 10 → ∃ b : Nat, z12 = some b ∧ (b ∈ sL κ60.1 ∧ sK κ60.1 b = 5) ∧ ∀ κ62 : CS, κ62 = (h_uJ κ60.1 b 11 z61, κ60.2) → ∃ b : Nat, a1 = some b ∧ (b ∈ sL κ62.1 ∧ sK κ62.1 b = 4) ∧ ∀ z63 : Int32, z63 = sI κ62.1 b 11 → ∀ z65 : Int32, z65.toInt = min z63.toInt ((4096 : Int32).toInt) → ∀ z67 : Int32, z67.toInt = max ((0 : Int32).toInt) z65.toInt → ∃ b : Nat, z12 = some b ∧ (b ∈ sL κ62.1 ∧ sK κ62.1 b = 5) ∧ ∀ z68 : Option Nat, z68 = sP κ62.1 b 13 → ∃ n : Nat, AL G κ62 z68 n ∧ ∀ z69 : Int32, z69 = nI n → jc (fun (K72 : Unit → CS → Prop) => ((z67.toInt ≤ z69.toInt) → K72 () κ62) ∧ ((z69.toInt < z67.toInt) → ∃ b : Nat, z12 = some b ∧ (b ∈ sL κ62.1 ∧ sK κ62.1 b = 5) ∧ ∀ z115 : Option Nat, z115 = sP κ62.1 b 13 → ∀ z116 : Int32, z116 = z67 + 1024 → ∀ z117 : Int32, z117 = z116 - 1 → ∀ z118 : Int32, z118 = z67 - 1 → ∀ z119 : Int32, z119 = z118 - z118 / 1024 * 1024 → ∀ z120 : Int32, z120 = z117 - z119 → F_J7_copyOf_9075b G z115 z120 (fun (z122 : Option Nat) (κ121 : CS) => ∃ b : Nat, z12 = some b ∧ (b ∈ sL κ121.1 ∧ sK κ121.1 b = 5) ∧ ∀ κ123 : CS, κ123 = (h_uP κ121.1 b 13 z122, κ121.2) → K72 () κ123) κ62)) (fun (x70 : Unit) (κ71 : CS) => ∃ b : Nat, z12 = some b ∧ (b ∈ sL κ71.1 ∧ sK κ71.1 b = 5) ∧ ∀ z75 : Int32, z75 = sI κ71.1 b 12 → jc (fun (K78 : Unit → CS → Prop) => ((z67.toInt ≤ z75.toInt) → K78 () κ71) ∧ ((z75.toInt < z67.toInt) → ∃ b : Nat, z12 = some b ∧ (b ∈ sL κ71.1 ∧ sK κ71.1 b = 5) ∧ ∀ z111 : Option Nat, z111 = sP κ71.1 b 13 → ∃ b : Nat, z12 = some b ∧ (b ∈ sL κ71.1 ∧ sK κ71.1 b = 5) ∧ ∀ z112 : Int32, z112 = sI κ71.1 b 12 → F_J7_fill_eb02e G z111 z112 z67 0 (fun (κ113 : CS) => K78 () κ113) κ71)) (fun (x76 : Unit) (κ77 : CS) => ∃ b : Nat, z12 = some b ∧ (b ∈ sL κ77.1 ∧ sK κ77.1 b = 5) ∧ ∀ κ81 : CS, κ81 = (h_uI κ77.1 b 12 z67, κ77.2) → ∃ b : Nat, a1 = some b ∧ (b ∈ sL κ81.1 ∧ sK κ81.1 b = 4) ∧ ∀ z82 : Int32, z82 = sI κ81.1 b 12 → jc (fun (K85 : Int32 → CS → Prop) => jc (fun (K101 : Unit → CS → Prop) => ((z82.toInt < 0) → K101 () κ81) ∧ ((0 ≤ z82.toInt) → ∃ b : Nat, a1 = some b ∧ (b ∈ sL κ81.1 ∧ sK κ81.1 b = 4) ∧ ∀ z104 : Int32, z104 = sI κ81.1 b 13 → ((z104.toInt < 0) → K101 () κ81) ∧ ((0 ≤ z104.toInt) → ∃ b : Nat, a1 = some b ∧ (b ∈ sL κ81.1 ∧ sK κ81.1 b = 4) ∧ ∀ z105 : Int32, z105 = sI κ81.1 b 12 → ∃ b : Nat, a1 = some b ∧ (b ∈ sL κ81.1 ∧ sK κ81.1 b = 4) ∧ ∀ z106 : Int32, z106 = sI κ81.1 b 13 → ∀ z107 : Int32, z107 = z105 + z106 → ((z67.toInt < z107.toInt) → K101 () κ81) ∧ ((z107.toInt ≤ z67.toInt) → ∃ b : Nat, a1 = some b ∧ (b ∈ sL κ81.1 ∧ sK κ81.1 b = 4) ∧ ∀ z108 : Int32, z108 = sI κ81.1 b 13 → ∃ b : Nat, a1 = some b ∧ (b ∈ sL κ81.1 ∧ sK κ81.1 b = 4) ∧ ∀ z109 : Option Nat, z109 = sP κ81.1 b 14 → ∃ n : Nat, AL G κ81 z109 n ∧ ∀ z110 : Int32, z110 = nI n → ((z110.toInt < z108.toInt) → K101 () κ81) ∧ ((z108.toInt ≤ z110.toInt) → K85 1 κ81))))) (fun (x99 : Unit) (κ100 : CS) => K85 0 κ100)) (fun (x83 : Int32) (κ84 : CS) => ∃ b : Nat, a1 = some b ∧ (b ∈ sL κ84.1 ∧ sK κ84.1 b = 4) ∧ ∀ z88 : Int32, z88 = sI κ84.1 b 0 → jc (fun (K91 : Unit → CS → Prop) => ((¬ z88.toInt = (1 : Int32).toInt) → K91 () κ84) ∧ ((z88.toInt = (1 : Int32).toInt) → ((x83.toInt = 0) → K91 () κ84) ∧ ((¬ x83.toInt = 0) → ∃ b : Nat, a1 = some b ∧ (b ∈ sL κ84.1 ∧ sK κ84.1 b = 4) ∧ ∀ z94 : Option Nat, z94 = sP κ84.1 b 14 → ∃ b : Nat, z12 = some b ∧ (b ∈ sL κ84.1 ∧ sK κ84.1 b = 5) ∧ ∀ z95 : Option Nat, z95 = sP κ84.1 b 13 → ∃ b : Nat, a1 = some b ∧ (b ∈ sL κ84.1 ∧ sK κ84.1 b = 4) ∧ ∀ z96 : Int32, z96 = sI κ84.1 b 12 → ∃ b : Nat, a1 = some b ∧ (b ∈ sL κ84.1 ∧ sK κ84.1 b = 4) ∧ ∀ z97 : Int32, z97 = sI κ84.1 b 13 → ∃ u0 : Nat, z94 = some u0 ∧ ∃ u1 : Nat, z95 = some u1 ∧ (u0 ∈ sL κ84.1 ∧ sK κ84.1 u0 = 20) ∧ (u1 ∈ sL κ84.1 ∧ sK κ84.1 u1 = 20) ∧ (0 ≤ (0 : Int32).toInt ∧ 0 ≤ z96.toInt ∧ 0 ≤ z97.toInt ∧ (0 : Int32).toInt + z97.toInt ≤ (sN κ84.1 u0 : Int) ∧ z96.toInt + z97.toInt ≤ (sN κ84.1 u1 : Int)) ∧ (∀ j : Nat, j < z97.toInt.toNat → -128 ≤ (sI κ84.1 u0 ((0 : Int32).toInt.toNat + j)).toInt ∧ (sI κ84.1 u0 ((0 : Int32).toInt.toNat + j)).toInt ≤ 127) ∧ ∀ κ98 : CS, κ98 = (h_cpI κ84.1 u0 u1 (0 : Int32).toInt.toNat z96.toInt.toNat z97.toInt.toNat, κ84.2) → K91 () κ98))) (fun (x89 : Unit) (κ90 : CS) => post κ90))))))))) ∧ ((z9.toInt ≤ z7.toInt) → K4 () κ))) (fun (x2 : Unit) (κ3 : CS) => post κ3)
theorem dX9_apply_0 : decode cX9_apply 0 = .ok (.aload_n 1, 1) := by decide +kernel
theorem dX9_apply_1 : decode cX9_apply 1 = .ok (.getfield 48, 3) := by decide +kernel
theorem dX9_apply_4 : decode cX9_apply 4 = .ok (.ifCond .lt 15, 3) := by decide +kernel
theorem dX9_apply_7 : decode cX9_apply 7 = .ok (.aload_n 1, 1) := by decide +kernel
theorem dX9_apply_8 : decode cX9_apply 8 = .ok (.getfield 48, 3) := by decide +kernel
theorem dX9_apply_11 : decode cX9_apply 11 = .ok (.aload_n 0, 1) := by decide +kernel
theorem dX9_apply_12 : decode cX9_apply 12 = .ok (.getfield 11, 3) := by decide +kernel
theorem dX9_apply_15 : decode cX9_apply 15 = .ok (.arraylength, 1) := by decide +kernel
theorem dX9_apply_16 : decode cX9_apply 16 = .ok (.if_icmp .lt 4, 3) := by decide +kernel
theorem dX9_apply_19 : decode cX9_apply 19 = .ok (.return_, 1) := by decide +kernel
theorem dX9_apply_20 : decode cX9_apply 20 = .ok (.aload_n 0, 1) := by decide +kernel
theorem dX9_apply_21 : decode cX9_apply 21 = .ok (.getfield 11, 3) := by decide +kernel
theorem dX9_apply_24 : decode cX9_apply 24 = .ok (.aload_n 1, 1) := by decide +kernel
theorem dX9_apply_25 : decode cX9_apply 25 = .ok (.getfield 48, 3) := by decide +kernel
theorem dX9_apply_28 : decode cX9_apply 28 = .ok (.aaload, 1) := by decide +kernel
theorem dX9_apply_29 : decode cX9_apply 29 = .ok (.astore_n 2, 1) := by decide +kernel
theorem dX9_apply_30 : decode cX9_apply 30 = .ok (.aload_n 0, 1) := by decide +kernel
theorem dX9_apply_31 : decode cX9_apply 31 = .ok (.dup, 1) := by decide +kernel
theorem dX9_apply_32 : decode cX9_apply 32 = .ok (.getfield 52, 3) := by decide +kernel
theorem dX9_apply_35 : decode cX9_apply 35 = .ok (.aload_n 1, 1) := by decide +kernel
theorem dX9_apply_36 : decode cX9_apply 36 = .ok (.getfield 55, 3) := by decide +kernel
theorem dX9_apply_39 : decode cX9_apply 39 = .ok (.iconst 5, 1) := by decide +kernel
theorem dX9_apply_40 : decode cX9_apply 40 = .ok (.if_icmp .eq 7, 3) := by decide +kernel
theorem dX9_apply_43 : decode cX9_apply 43 = .ok (.iconst 1, 1) := by decide +kernel
theorem dX9_apply_44 : decode cX9_apply 44 = .ok (.goto 4, 3) := by decide +kernel
theorem dX9_apply_47 : decode cX9_apply 47 = .ok (.iconst 0, 1) := by decide +kernel
theorem dX9_apply_48 : decode cX9_apply 48 = .ok (.aload_n 2, 1) := by decide +kernel
theorem dX9_apply_49 : decode cX9_apply 49 = .ok (.getfield 20, 3) := by decide +kernel
theorem dX9_apply_52 : decode cX9_apply 52 = .ok (.ifCond .eq 7, 3) := by decide +kernel
theorem dX9_apply_55 : decode cX9_apply 55 = .ok (.iconst 1, 1) := by decide +kernel
theorem dX9_apply_56 : decode cX9_apply 56 = .ok (.goto 4, 3) := by decide +kernel
theorem dX9_apply_59 : decode cX9_apply 59 = .ok (.iconst 0, 1) := by decide +kernel
theorem dX9_apply_60 : decode cX9_apply 60 = .ok (.isub, 1) := by decide +kernel
theorem dX9_apply_61 : decode cX9_apply 61 = .ok (.iadd, 1) := by decide +kernel
theorem dX9_apply_62 : decode cX9_apply 62 = .ok (.putfield 52, 3) := by decide +kernel
theorem dX9_apply_65 : decode cX9_apply 65 = .ok (.aload_n 2, 1) := by decide +kernel
theorem dX9_apply_66 : decode cX9_apply 66 = .ok (.aload_n 1, 1) := by decide +kernel
theorem dX9_apply_67 : decode cX9_apply 67 = .ok (.getfield 55, 3) := by decide +kernel
theorem dX9_apply_70 : decode cX9_apply 70 = .ok (.iconst 5, 1) := by decide +kernel
theorem dX9_apply_71 : decode cX9_apply 71 = .ok (.if_icmp .eq 7, 3) := by decide +kernel
theorem dX9_apply_74 : decode cX9_apply 74 = .ok (.iconst 1, 1) := by decide +kernel
theorem dX9_apply_75 : decode cX9_apply 75 = .ok (.goto 4, 3) := by decide +kernel
theorem dX9_apply_78 : decode cX9_apply 78 = .ok (.iconst 0, 1) := by decide +kernel
theorem dX9_apply_79 : decode cX9_apply 79 = .ok (.putfield 20, 3) := by decide +kernel
theorem dX9_apply_82 : decode cX9_apply 82 = .ok (.aload_n 1, 1) := by decide +kernel
theorem dX9_apply_83 : decode cX9_apply 83 = .ok (.getfield 55, 3) := by decide +kernel
theorem dX9_apply_86 : decode cX9_apply 86 = .ok (.ifCond .ne 13, 3) := by decide +kernel
theorem dX9_apply_89 : decode cX9_apply 89 = .ok (.aload_n 2, 1) := by decide +kernel
theorem dX9_apply_90 : decode cX9_apply 90 = .ok (.iconst 0, 1) := by decide +kernel
theorem dX9_apply_91 : decode cX9_apply 91 = .ok (.putfield 58, 3) := by decide +kernel
theorem dX9_apply_94 : decode cX9_apply 94 = .ok (.aload_n 2, 1) := by decide +kernel
theorem dX9_apply_95 : decode cX9_apply 95 = .ok (.iconst 0, 1) := by decide +kernel
theorem dX9_apply_96 : decode cX9_apply 96 = .ok (.putfield 61, 3) := by decide +kernel
theorem dX9_apply_99 : decode cX9_apply 99 = .ok (.aload_n 2, 1) := by decide +kernel
theorem dX9_apply_100 : decode cX9_apply 100 = .ok (.aload_n 1, 1) := by decide +kernel
theorem dX9_apply_101 : decode cX9_apply 101 = .ok (.getfield 64, 3) := by decide +kernel
theorem dX9_apply_104 : decode cX9_apply 104 = .ok (.putfield 67, 3) := by decide +kernel
theorem dX9_apply_107 : decode cX9_apply 107 = .ok (.aload_n 2, 1) := by decide +kernel
theorem dX9_apply_108 : decode cX9_apply 108 = .ok (.aload_n 1, 1) := by decide +kernel
theorem dX9_apply_109 : decode cX9_apply 109 = .ok (.getfield 68, 3) := by decide +kernel
theorem dX9_apply_112 : decode cX9_apply 112 = .ok (.putfield 24, 3) := by decide +kernel
theorem dX9_apply_115 : decode cX9_apply 115 = .ok (.aload_n 2, 1) := by decide +kernel
theorem dX9_apply_116 : decode cX9_apply 116 = .ok (.aload_n 1, 1) := by decide +kernel
theorem dX9_apply_117 : decode cX9_apply 117 = .ok (.getfield 69, 3) := by decide +kernel
theorem dX9_apply_120 : decode cX9_apply 120 = .ok (.putfield 28, 3) := by decide +kernel
theorem dX9_apply_123 : decode cX9_apply 123 = .ok (.aload_n 1, 1) := by decide +kernel
theorem dX9_apply_124 : decode cX9_apply 124 = .ok (.getfield 70, 3) := by decide +kernel
theorem dX9_apply_127 : decode cX9_apply 127 = .ok (.iconst 0, 1) := by decide +kernel
theorem dX9_apply_128 : decode cX9_apply 128 = .ok (.aload_n 2, 1) := by decide +kernel
theorem dX9_apply_129 : decode cX9_apply 129 = .ok (.getfield 31, 3) := by decide +kernel
theorem dX9_apply_132 : decode cX9_apply 132 = .ok (.iconst 0, 1) := by decide +kernel
theorem dX9_apply_133 : decode cX9_apply 133 = .ok (.aload_n 2, 1) := by decide +kernel
theorem dX9_apply_134 : decode cX9_apply 134 = .ok (.getfield 31, 3) := by decide +kernel
theorem dX9_apply_137 : decode cX9_apply 137 = .ok (.arraylength, 1) := by decide +kernel
theorem dX9_apply_138 : decode cX9_apply 138 = .ok (.invokestatic 71, 3) := by decide +kernel
theorem dX9_apply_141 : decode cX9_apply 141 = .ok (.aload_n 2, 1) := by decide +kernel
theorem dX9_apply_142 : decode cX9_apply 142 = .ok (.aload_n 1, 1) := by decide +kernel
theorem dX9_apply_143 : decode cX9_apply 143 = .ok (.getfield 77, 3) := by decide +kernel
theorem dX9_apply_146 : decode cX9_apply 146 = .ok (.putfield 80, 3) := by decide +kernel
theorem dX9_apply_149 : decode cX9_apply 149 = .ok (.aload_n 2, 1) := by decide +kernel
theorem dX9_apply_150 : decode cX9_apply 150 = .ok (.aload_n 1, 1) := by decide +kernel
theorem dX9_apply_151 : decode cX9_apply 151 = .ok (.getfield 81, 3) := by decide +kernel
theorem dX9_apply_154 : decode cX9_apply 154 = .ok (.putfield 85, 3) := by decide +kernel
theorem dX9_apply_157 : decode cX9_apply 157 = .ok (.aload_n 2, 1) := by decide +kernel
theorem dX9_apply_158 : decode cX9_apply 158 = .ok (.aload_n 1, 1) := by decide +kernel
theorem dX9_apply_159 : decode cX9_apply 159 = .ok (.getfield 86, 3) := by decide +kernel
theorem dX9_apply_162 : decode cX9_apply 162 = .ok (.putfield 89, 3) := by decide +kernel
theorem dX9_apply_165 : decode cX9_apply 165 = .ok (.aload_n 2, 1) := by decide +kernel
theorem dX9_apply_166 : decode cX9_apply 166 = .ok (.aload_n 1, 1) := by decide +kernel
theorem dX9_apply_167 : decode cX9_apply 167 = .ok (.getfield 90, 3) := by decide +kernel
theorem dX9_apply_170 : decode cX9_apply 170 = .ok (.putfield 93, 3) := by decide +kernel
theorem dX9_apply_173 : decode cX9_apply 173 = .ok (.aload_n 2, 1) := by decide +kernel
theorem dX9_apply_174 : decode cX9_apply 174 = .ok (.aload_n 1, 1) := by decide +kernel
theorem dX9_apply_175 : decode cX9_apply 175 = .ok (.getfield 94, 3) := by decide +kernel
theorem dX9_apply_178 : decode cX9_apply 178 = .ok (.putfield 97, 3) := by decide +kernel
theorem dX9_apply_181 : decode cX9_apply 181 = .ok (.iconst 0, 1) := by decide +kernel
theorem dX9_apply_182 : decode cX9_apply 182 = .ok (.aload_n 1, 1) := by decide +kernel
theorem dX9_apply_183 : decode cX9_apply 183 = .ok (.getfield 98, 3) := by decide +kernel
theorem dX9_apply_186 : decode cX9_apply 186 = .ok (.sipush 4096, 3) := by decide +kernel
theorem dX9_apply_189 : decode cX9_apply 189 = .ok (.invokestatic 99, 3) := by decide +kernel
theorem dX9_apply_192 : decode cX9_apply 192 = .ok (.invokestatic 105, 3) := by decide +kernel
theorem dX9_apply_195 : decode cX9_apply 195 = .ok (.istore_n 3, 1) := by decide +kernel
theorem dX9_apply_196 : decode cX9_apply 196 = .ok (.iload_n 3, 1) := by decide +kernel
theorem dX9_apply_197 : decode cX9_apply 197 = .ok (.aload_n 2, 1) := by decide +kernel
theorem dX9_apply_198 : decode cX9_apply 198 = .ok (.getfield 108, 3) := by decide +kernel
theorem dX9_apply_201 : decode cX9_apply 201 = .ok (.arraylength, 1) := by decide +kernel
theorem dX9_apply_202 : decode cX9_apply 202 = .ok (.if_icmp .le 29, 3) := by decide +kernel
theorem dX9_apply_205 : decode cX9_apply 205 = .ok (.aload_n 2, 1) := by decide +kernel
theorem dX9_apply_206 : decode cX9_apply 206 = .ok (.aload_n 2, 1) := by decide +kernel
theorem dX9_apply_207 : decode cX9_apply 207 = .ok (.getfield 108, 3) := by decide +kernel
theorem dX9_apply_210 : decode cX9_apply 210 = .ok (.iload_n 3, 1) := by decide +kernel
theorem dX9_apply_211 : decode cX9_apply 211 = .ok (.sipush 1024, 3) := by decide +kernel
theorem dX9_apply_214 : decode cX9_apply 214 = .ok (.iadd, 1) := by decide +kernel
theorem dX9_apply_215 : decode cX9_apply 215 = .ok (.iconst 1, 1) := by decide +kernel
theorem dX9_apply_216 : decode cX9_apply 216 = .ok (.isub, 1) := by decide +kernel
theorem dX9_apply_217 : decode cX9_apply 217 = .ok (.iload_n 3, 1) := by decide +kernel
theorem dX9_apply_218 : decode cX9_apply 218 = .ok (.iconst 1, 1) := by decide +kernel
theorem dX9_apply_219 : decode cX9_apply 219 = .ok (.isub, 1) := by decide +kernel
theorem dX9_apply_220 : decode cX9_apply 220 = .ok (.sipush 1024, 3) := by decide +kernel
theorem dX9_apply_223 : decode cX9_apply 223 = .ok (.irem, 1) := by decide +kernel
theorem dX9_apply_224 : decode cX9_apply 224 = .ok (.isub, 1) := by decide +kernel
theorem dX9_apply_225 : decode cX9_apply 225 = .ok (.invokestatic 111, 3) := by decide +kernel
theorem dX9_apply_228 : decode cX9_apply 228 = .ok (.putfield 108, 3) := by decide +kernel
theorem dX9_apply_231 : decode cX9_apply 231 = .ok (.iload_n 3, 1) := by decide +kernel
theorem dX9_apply_232 : decode cX9_apply 232 = .ok (.aload_n 2, 1) := by decide +kernel
theorem dX9_apply_233 : decode cX9_apply 233 = .ok (.getfield 58, 3) := by decide +kernel
theorem dX9_apply_236 : decode cX9_apply 236 = .ok (.if_icmp .le 16, 3) := by decide +kernel
theorem dX9_apply_239 : decode cX9_apply 239 = .ok (.aload_n 2, 1) := by decide +kernel
theorem dX9_apply_240 : decode cX9_apply 240 = .ok (.getfield 108, 3) := by decide +kernel
theorem dX9_apply_243 : decode cX9_apply 243 = .ok (.aload_n 2, 1) := by decide +kernel
theorem dX9_apply_244 : decode cX9_apply 244 = .ok (.getfield 58, 3) := by decide +kernel
theorem dX9_apply_247 : decode cX9_apply 247 = .ok (.iload_n 3, 1) := by decide +kernel
theorem dX9_apply_248 : decode cX9_apply 248 = .ok (.iconst 0, 1) := by decide +kernel
theorem dX9_apply_249 : decode cX9_apply 249 = .ok (.invokestatic 117, 3) := by decide +kernel
theorem dX9_apply_252 : decode cX9_apply 252 = .ok (.aload_n 2, 1) := by decide +kernel
theorem dX9_apply_253 : decode cX9_apply 253 = .ok (.iload_n 3, 1) := by decide +kernel
theorem dX9_apply_254 : decode cX9_apply 254 = .ok (.putfield 58, 3) := by decide +kernel
theorem dX9_apply_257 : decode cX9_apply 257 = .ok (.aload_n 1, 1) := by decide +kernel
theorem dX9_apply_258 : decode cX9_apply 258 = .ok (.getfield 121, 3) := by decide +kernel
theorem dX9_apply_261 : decode cX9_apply 261 = .ok (.ifCond .lt 39, 3) := by decide +kernel
theorem dX9_apply_264 : decode cX9_apply 264 = .ok (.aload_n 1, 1) := by decide +kernel
theorem dX9_apply_265 : decode cX9_apply 265 = .ok (.getfield 124, 3) := by decide +kernel
theorem dX9_apply_268 : decode cX9_apply 268 = .ok (.ifCond .lt 32, 3) := by decide +kernel
theorem dX9_apply_271 : decode cX9_apply 271 = .ok (.aload_n 1, 1) := by decide +kernel
theorem dX9_apply_272 : decode cX9_apply 272 = .ok (.getfield 121, 3) := by decide +kernel
theorem dX9_apply_275 : decode cX9_apply 275 = .ok (.aload_n 1, 1) := by decide +kernel
theorem dX9_apply_276 : decode cX9_apply 276 = .ok (.getfield 124, 3) := by decide +kernel
theorem dX9_apply_279 : decode cX9_apply 279 = .ok (.iadd, 1) := by decide +kernel
theorem dX9_apply_280 : decode cX9_apply 280 = .ok (.iload_n 3, 1) := by decide +kernel
theorem dX9_apply_281 : decode cX9_apply 281 = .ok (.if_icmp .gt 19, 3) := by decide +kernel
theorem dX9_apply_284 : decode cX9_apply 284 = .ok (.aload_n 1, 1) := by decide +kernel
theorem dX9_apply_285 : decode cX9_apply 285 = .ok (.getfield 124, 3) := by decide +kernel
theorem dX9_apply_288 : decode cX9_apply 288 = .ok (.aload_n 1, 1) := by decide +kernel
theorem dX9_apply_289 : decode cX9_apply 289 = .ok (.getfield 127, 3) := by decide +kernel
theorem dX9_apply_292 : decode cX9_apply 292 = .ok (.arraylength, 1) := by decide +kernel
theorem dX9_apply_293 : decode cX9_apply 293 = .ok (.if_icmp .gt 7, 3) := by decide +kernel
theorem dX9_apply_296 : decode cX9_apply 296 = .ok (.iconst 1, 1) := by decide +kernel
theorem dX9_apply_297 : decode cX9_apply 297 = .ok (.goto 4, 3) := by decide +kernel
theorem dX9_apply_300 : decode cX9_apply 300 = .ok (.iconst 0, 1) := by decide +kernel
theorem dX9_apply_301 : decode cX9_apply 301 = .ok (.istore 4, 2) := by decide +kernel
theorem dX9_apply_303 : decode cX9_apply 303 = .ok (.aload_n 1, 1) := by decide +kernel
theorem dX9_apply_304 : decode cX9_apply 304 = .ok (.getfield 55, 3) := by decide +kernel
theorem dX9_apply_307 : decode cX9_apply 307 = .ok (.iconst 1, 1) := by decide +kernel
theorem dX9_apply_308 : decode cX9_apply 308 = .ok (.if_icmp .ne 28, 3) := by decide +kernel
theorem dX9_apply_311 : decode cX9_apply 311 = .ok (.iload 4, 2) := by decide +kernel
theorem dX9_apply_313 : decode cX9_apply 313 = .ok (.ifCond .eq 23, 3) := by decide +kernel
theorem dX9_apply_316 : decode cX9_apply 316 = .ok (.aload_n 1, 1) := by decide +kernel
theorem dX9_apply_317 : decode cX9_apply 317 = .ok (.getfield 127, 3) := by decide +kernel
theorem dX9_apply_320 : decode cX9_apply 320 = .ok (.iconst 0, 1) := by decide +kernel
theorem dX9_apply_321 : decode cX9_apply 321 = .ok (.aload_n 2, 1) := by decide +kernel
theorem dX9_apply_322 : decode cX9_apply 322 = .ok (.getfield 108, 3) := by decide +kernel
theorem dX9_apply_325 : decode cX9_apply 325 = .ok (.aload_n 1, 1) := by decide +kernel
theorem dX9_apply_326 : decode cX9_apply 326 = .ok (.getfield 121, 3) := by decide +kernel
theorem dX9_apply_329 : decode cX9_apply 329 = .ok (.aload_n 1, 1) := by decide +kernel
theorem dX9_apply_330 : decode cX9_apply 330 = .ok (.getfield 124, 3) := by decide +kernel
theorem dX9_apply_333 : decode cX9_apply 333 = .ok (.invokestatic 71, 3) := by decide +kernel
theorem dX9_apply_336 : decode cX9_apply 336 = .ok (.return_, 1) := by decide +kernel
set_option maxRecDepth 100000 in
set_option maxHeartbeats 4000000 in
theorem c_X9_apply (l : Launch) (D : va_G) (t : Nat → ClassId) (G : GE) (κ : CS) (h : Nat) (a1 : Option Nat) (post : CS → Prop) (hw : F_X9_apply G h a1 post κ) (sz : Nat) : CMv l D t yX9_apply cX9_apply 5 2 62 G κ sz [.ref h, va_rf a1] post := by
  refine c_go (by decide) (by cases a1 <;> exact Nat.le_of_ble_eq_true rfl) ?_
  intro p e s m below meth c ls A hF hr hlk hin hAe hH hA hE hl
  unfold cB
  rw [hAe]
  clear hAe
  have hF : FX p m c cX9_apply 5 s _ RX9 D t := hF
  have hx := hF.1.1
  have hb := hF.1.2.1
  have hl : lv_has ls 5 [(0, .ref h), (1, va_rf a1)] := (by have h2 := hl; clear hw; revert h2; cases a1 <;> exact id)
  unfold F_X9_apply at hw
  refine w_aloadq_n hF dX9_apply_0 rfl (lv_at hl 1 rfl) ?_
  refine cw_getI (q := a1) hF hH fk_X9_48 dX9_apply_1 hw (fun z1 hw => ?_)
  obtain ⟨K4, hK5, hw⟩ := jc_open hw
  refine cw_join (K := K4) 19 (fun (x2 : Unit) => []) (fun (x2 : Unit) => []) hl hH (fun x2 κ3 ls H locs cells slots hl hw hH => ?_) (fun jn6 => ?_)
  · have hw := hK5 x2 κ3 hw
    have hl : lv_has ls 5 [] := hl
    exact cw_retv hF hH ⟨rfl, rfl⟩ hr hlk dX9_apply_19 hw
  · skip
    refine w_if_lt (tgt := 19) hF dX9_apply_4 rfl hw (fun hw => ?_) (fun hw => ?_)
    · have hl : lv_has ls 5 [] := lv_sub hl [] rfl
      exact jn6 () κ ls _ _ _ _ hl hw hH
    · refine w_aloadq_n hF dX9_apply_7 rfl (lv_at hl 1 rfl) ?_
      refine cw_getI (q := a1) hF hH fk_X9_48 dX9_apply_8 hw (fun z7 hw => ?_)
      refine lv_aload_n hx hb dX9_apply_11 rfl (lv_at hl 0 rfl) ?_
      refine cw_getPr (a := h) hF hH fk_X9_11 dX9_apply_12 hw (fun z8 hw => ?_)
      refine cw_alen (q := z8) hF hH hE dX9_apply_15 hw (fun z9 hw => ?_)
      refine w_icmp_lt (tgt := 20) hF dX9_apply_16 rfl hw (fun hw => ?_) (fun hw => ?_)
      · refine lv_aload_n hx hb dX9_apply_20 rfl (lv_at hl 0 rfl) ?_
        refine cw_getPr (a := h) hF hH fk_X9_11 dX9_apply_21 hw (fun z10 hw => ?_)
        refine w_aloadq_n hF dX9_apply_24 rfl (lv_at hl 1 rfl) ?_
        refine cw_getI (q := a1) hF hH fk_X9_48 dX9_apply_25 hw (fun z11 hw => ?_)
        refine cw_aald (q := z10) hF hH dX9_apply_28 hw (fun z12 hw => ?_)
        refine w_astoreq_n (lv' := [(2, va_rf z12), (0, .ref h), (1, va_rf a1)]) hF dX9_apply_29 rfl hl (by decide) (by generalize a1 = y; cases y <;> rfl) (fun ls hl => ?_)
        refine lv_aload_n hx hb dX9_apply_30 rfl (lv_at hl 1 rfl) ?_
        refine lv_dup hx hb dX9_apply_31 rfl ?_
        refine cw_getIr (a := h) hF hH fk_X9_52 dX9_apply_32 hw (fun z13 hw => ?_)
        refine w_aloadq_n hF dX9_apply_35 rfl (lv_at hl 2 rfl) ?_
        refine cw_getI (q := a1) hF hH fk_X9_55 dX9_apply_36 hw (fun z14 hw => ?_)
        refine lv_iconst (v := 5) hx hb dX9_apply_39 (by decide) ?_
        obtain ⟨K17, hK18, hw⟩ := jc_open hw
        refine cw_join (K := K17) 48 (fun (x15 : Int32) => [(2, va_rf z12), (1, va_rf a1)]) (fun (x15 : Int32) => [.int x15, .int z13, .ref h]) hl hH (fun x15 κ16 ls H locs cells slots hl hw hH => ?_) (fun jn19 => ?_)
        · have hw := hK18 x15 κ16 hw
          have hl : lv_has ls 5 [(2, va_rf z12), (1, va_rf a1)] := hl
          refine w_aloadq_n hF dX9_apply_48 rfl (lv_at hl 0 rfl) ?_
          refine cw_getI (q := z12) hF hH fk_X9_20 dX9_apply_49 hw (fun z20 hw => ?_)
          obtain ⟨K23, hK24, hw⟩ := jc_open hw
          refine cw_join (K := K23) 60 (fun (x21 : Int32) => [(2, va_rf z12), (1, va_rf a1)]) (fun (x21 : Int32) => [.int x21, .int x15, .int z13, .ref h]) hl hH (fun x21 κ22 ls H locs cells slots hl hw hH => ?_) (fun jn25 => ?_)
          · have hw := hK24 x21 κ22 hw
            have hl : lv_has ls 5 [(2, va_rf z12), (1, va_rf a1)] := hl
            refine lv_isub hx hb dX9_apply_60 ?_
            refine w_nmi hw (fun z26 hw => ?_)
            refine lv_iadd hx hb dX9_apply_61 ?_
            refine w_nmi hw (fun z27 hw => ?_)
            refine cw_putIr (a := h) (v := z27) hF hH fk_X9_52 dX9_apply_62 rfl rfl rfl hw (fun κ28 H locs cells slots hw hH => ?_)
            refine w_aloadq_n hF dX9_apply_65 rfl (lv_at hl 0 rfl) ?_
            refine w_aloadq_n hF dX9_apply_66 rfl (lv_at hl 1 rfl) ?_
            refine cw_getI (q := a1) hF hH fk_X9_55 dX9_apply_67 hw (fun z29 hw => ?_)
            refine lv_iconst (v := 5) hx hb dX9_apply_70 (by decide) ?_
            obtain ⟨K32, hK33, hw⟩ := jc_open hw
            refine cw_join (K := K32) 79 (fun (x30 : Int32) => [(2, va_rf z12), (1, va_rf a1)]) (fun (x30 : Int32) => [.int x30, va_rf z12]) hl hH (fun x30 κ31 ls H locs cells slots hl hw hH => ?_) (fun jn34 => ?_)
            · have hw := hK33 x30 κ31 hw
              have hl : lv_has ls 5 [(2, va_rf z12), (1, va_rf a1)] := hl
              refine cw_putZ (q := z12) (v := x30) hF hH fk_X9_20 dX9_apply_79 rfl rfl hw (fun κ35 H locs cells slots hw hH => ?_)
              refine w_aloadq_n hF dX9_apply_82 rfl (lv_at hl 1 rfl) ?_
              refine cw_getI (q := a1) hF hH fk_X9_55 dX9_apply_83 hw (fun z36 hw => ?_)
              obtain ⟨K39, hK40, hw⟩ := jc_open hw
              refine cw_join (K := K39) 99 (fun (x37 : Unit) => [(2, va_rf z12), (1, va_rf a1)]) (fun (x37 : Unit) => []) hl hH (fun x37 κ38 ls H locs cells slots hl hw hH => ?_) (fun jn41 => ?_)
              · have hw := hK40 x37 κ38 hw
                have hl : lv_has ls 5 [(2, va_rf z12), (1, va_rf a1)] := hl
                refine w_aloadq_n hF dX9_apply_99 rfl (lv_at hl 0 rfl) ?_
                refine w_aloadq_n hF dX9_apply_100 rfl (lv_at hl 1 rfl) ?_
                refine cw_getI (q := a1) hF hH fk_X9_64 dX9_apply_101 hw (fun z42 hw => ?_)
                refine cw_putZ (q := z12) (v := z42) hF hH fk_X9_67 dX9_apply_104 rfl rfl hw (fun κ43 H locs cells slots hw hH => ?_)
                refine w_aloadq_n hF dX9_apply_107 rfl (lv_at hl 0 rfl) ?_
                refine w_aloadq_n hF dX9_apply_108 rfl (lv_at hl 1 rfl) ?_
                refine cw_getI (q := a1) hF hH fk_X9_68 dX9_apply_109 hw (fun z44 hw => ?_)
                refine cw_putI (q := z12) (v := z44) hF hH fk_X9_24 dX9_apply_112 rfl rfl rfl hw (fun κ45 H locs cells slots hw hH => ?_)
                refine w_aloadq_n hF dX9_apply_115 rfl (lv_at hl 0 rfl) ?_
                refine w_aloadq_n hF dX9_apply_116 rfl (lv_at hl 1 rfl) ?_
                refine cw_getI (q := a1) hF hH fk_X9_69 dX9_apply_117 hw (fun z46 hw => ?_)
                refine cw_putI (q := z12) (v := z46) hF hH fk_X9_28 dX9_apply_120 rfl rfl rfl hw (fun κ47 H locs cells slots hw hH => ?_)
                refine w_aloadq_n hF dX9_apply_123 rfl (lv_at hl 1 rfl) ?_
                refine cw_getP (q := a1) hF hH fk_X9_70 dX9_apply_124 hw (fun z48 hw => ?_)
                refine lv_iconst (v := 0) hx hb dX9_apply_127 (by decide) ?_
                refine w_aloadq_n hF dX9_apply_128 rfl (lv_at hl 0 rfl) ?_
                refine cw_getP (q := z12) hF hH fk_X9_31 dX9_apply_129 hw (fun z49 hw => ?_)
                refine lv_iconst (v := 0) hx hb dX9_apply_132 (by decide) ?_
                refine w_aloadq_n hF dX9_apply_133 rfl (lv_at hl 0 rfl) ?_
                refine cw_getP (q := z12) hF hH fk_X9_31 dX9_apply_134 hw (fun z50 hw => ?_)
                refine cw_alen (q := z50) hF hH hE dX9_apply_137 hw (fun z51 hw => ?_)
                refine cw_copyB (q0 := z48) (q1 := z49) hF hH (wc_11 7 rfl) (wc_10 14 rfl) (wc_10 15 rfl) (wc_5 17 rfl) (Nat.le_of_ble_eq_true rfl) (Nat.le_of_ble_eq_true rfl) hl.1 dX9_apply_138 hw (fun κ52 H locs cells slots hw hH => ?_)
                refine w_aloadq_n hF dX9_apply_141 rfl (lv_at hl 0 rfl) ?_
                refine w_aloadq_n hF dX9_apply_142 rfl (lv_at hl 1 rfl) ?_
                refine cw_getI (q := a1) hF hH fk_X9_77 dX9_apply_143 hw (fun z53 hw => ?_)
                refine cw_putI (q := z12) (v := z53) hF hH fk_X9_80 dX9_apply_146 rfl rfl rfl hw (fun κ54 H locs cells slots hw hH => ?_)
                refine w_aloadq_n hF dX9_apply_149 rfl (lv_at hl 0 rfl) ?_
                refine w_aloadq_n hF dX9_apply_150 rfl (lv_at hl 1 rfl) ?_
                refine cw_getJ (q := a1) hF hH fk_X9_81 dX9_apply_151 hw (fun z55 hw => ?_)
                refine cw_putJ (q := z12) (v := z55) hF hH fk_X9_85 dX9_apply_154 rfl rfl rfl hw (fun κ56 H locs cells slots hw hH => ?_)
                refine w_aloadq_n hF dX9_apply_157 rfl (lv_at hl 0 rfl) ?_
                refine w_aloadq_n hF dX9_apply_158 rfl (lv_at hl 1 rfl) ?_
                refine cw_getJ (q := a1) hF hH fk_X9_86 dX9_apply_159 hw (fun z57 hw => ?_)
                refine cw_putJ (q := z12) (v := z57) hF hH fk_X9_89 dX9_apply_162 rfl rfl rfl hw (fun κ58 H locs cells slots hw hH => ?_)
                refine w_aloadq_n hF dX9_apply_165 rfl (lv_at hl 0 rfl) ?_
                refine w_aloadq_n hF dX9_apply_166 rfl (lv_at hl 1 rfl) ?_
                refine cw_getJ (q := a1) hF hH fk_X9_90 dX9_apply_167 hw (fun z59 hw => ?_)
                refine cw_putJ (q := z12) (v := z59) hF hH fk_X9_93 dX9_apply_170 rfl rfl rfl hw (fun κ60 H locs cells slots hw hH => ?_)
                refine w_aloadq_n hF dX9_apply_173 rfl (lv_at hl 0 rfl) ?_
                refine w_aloadq_n hF dX9_apply_174 rfl (lv_at hl 1 rfl) ?_
                refine cw_getJ (q := a1) hF hH fk_X9_94 dX9_apply_175 hw (fun z61 hw => ?_)
                refine cw_putJ (q := z12) (v := z61) hF hH fk_X9_97 dX9_apply_178 rfl rfl rfl hw (fun κ62 H locs cells slots hw hH => ?_)
                refine lv_iconst (v := 0) hx hb dX9_apply_181 (by decide) ?_
                refine w_aloadq_n hF dX9_apply_182 rfl (lv_at hl 1 rfl) ?_
                refine cw_getI (q := a1) hF hH fk_X9_98 dX9_apply_183 hw (fun z63 hw => ?_)
                refine lv_sipush (v := 4096) hx hb dX9_apply_186 (by decide) ?_
                refine cw_mmin hF hH hl.1 (wc_11 14 rfl) (wc_10 25 rfl) (wc_5 5 rfl) (wc_10 24 rfl) (Nat.le_of_ble_eq_true rfl) (Nat.le_of_ble_eq_true rfl) dX9_apply_189 hw (fun z65 hw => ?_)
                refine cw_mmax hF hH hl.1 (wc_11 15 rfl) (wc_10 1 rfl) (wc_5 5 rfl) (wc_10 0 rfl) (Nat.le_of_ble_eq_true rfl) (Nat.le_of_ble_eq_true rfl) dX9_apply_192 hw (fun z67 hw => ?_)
                refine lv_istore_n (lv' := [(3, .int z67), (2, va_rf z12), (1, va_rf a1)]) hx hb dX9_apply_195 rfl hl (by decide) (by generalize z12 = y; cases y <;> rfl) (fun ls hl => ?_)
                refine lv_iload_n hx hb dX9_apply_196 rfl (lv_at hl 0 rfl) ?_
                refine w_aloadq_n hF dX9_apply_197 rfl (lv_at hl 1 rfl) ?_
                refine cw_getP (q := z12) hF hH fk_X9_108 dX9_apply_198 hw (fun z68 hw => ?_)
                refine cw_alen (q := z68) hF hH hE dX9_apply_201 hw (fun z69 hw => ?_)
                obtain ⟨K72, hK73, hw⟩ := jc_open hw
                refine cw_join (K := K72) 231 (fun (x70 : Unit) => [(3, .int z67), (2, va_rf z12), (1, va_rf a1)]) (fun (x70 : Unit) => []) hl hH (fun x70 κ71 ls H locs cells slots hl hw hH => ?_) (fun jn74 => ?_)
                · have hw := hK73 x70 κ71 hw
                  have hl : lv_has ls 5 [(3, .int z67), (2, va_rf z12), (1, va_rf a1)] := hl
                  refine lv_iload_n hx hb dX9_apply_231 rfl (lv_at hl 0 rfl) ?_
                  refine w_aloadq_n hF dX9_apply_232 rfl (lv_at hl 1 rfl) ?_
                  refine cw_getI (q := z12) hF hH fk_X9_58 dX9_apply_233 hw (fun z75 hw => ?_)
                  obtain ⟨K78, hK79, hw⟩ := jc_open hw
                  refine cw_join (K := K78) 252 (fun (x76 : Unit) => [(3, .int z67), (2, va_rf z12), (1, va_rf a1)]) (fun (x76 : Unit) => []) hl hH (fun x76 κ77 ls H locs cells slots hl hw hH => ?_) (fun jn80 => ?_)
                  · have hw := hK79 x76 κ77 hw
                    have hl : lv_has ls 5 [(3, .int z67), (2, va_rf z12), (1, va_rf a1)] := hl
                    refine w_aloadq_n hF dX9_apply_252 rfl (lv_at hl 1 rfl) ?_
                    refine lv_iload_n hx hb dX9_apply_253 rfl (lv_at hl 0 rfl) ?_
                    refine cw_putI (q := z12) (v := z67) hF hH fk_X9_58 dX9_apply_254 rfl rfl rfl hw (fun κ81 H locs cells slots hw hH => ?_)
                    refine w_aloadq_n hF dX9_apply_257 rfl (lv_at hl 2 rfl) ?_
                    refine cw_getI (q := a1) hF hH fk_X9_121 dX9_apply_258 hw (fun z82 hw => ?_)
                    obtain ⟨K85, hK86, hw⟩ := jc_open hw
                    refine cw_join (K := K85) 301 (fun (x83 : Int32) => [(2, va_rf z12), (1, va_rf a1)]) (fun (x83 : Int32) => [.int x83]) hl hH (fun x83 κ84 ls H locs cells slots hl hw hH => ?_) (fun jn87 => ?_)
                    · have hw := hK86 x83 κ84 hw
                      have hl : lv_has ls 5 [(2, va_rf z12), (1, va_rf a1)] := hl
                      refine lv_istore (lv' := [(4, .int x83), (2, va_rf z12), (1, va_rf a1)]) hx hb dX9_apply_301 hl (by decide) rfl (fun ls hl => ?_)
                      refine w_aloadq_n hF dX9_apply_303 rfl (lv_at hl 2 rfl) ?_
                      refine cw_getI (q := a1) hF hH fk_X9_55 dX9_apply_304 hw (fun z88 hw => ?_)
                      refine lv_iconst (v := 1) hx hb dX9_apply_307 (by decide) ?_
                      obtain ⟨K91, hK92, hw⟩ := jc_open hw
                      refine cw_join (K := K91) 336 (fun (x89 : Unit) => []) (fun (x89 : Unit) => []) hl hH (fun x89 κ90 ls H locs cells slots hl hw hH => ?_) (fun jn93 => ?_)
                      · have hw := hK92 x89 κ90 hw
                        have hl : lv_has ls 5 [] := hl
                        exact cw_retv hF hH ⟨rfl, rfl⟩ hr hlk dX9_apply_336 hw
                      · skip
                        refine w_icmp_ne (tgt := 336) hF dX9_apply_308 rfl hw (fun hw => ?_) (fun hw => ?_)
                        · have hl : lv_has ls 5 [] := lv_sub hl [] rfl
                          exact jn93 () κ84 ls _ _ _ _ hl hw hH
                        · refine lv_iload hx hb dX9_apply_311 (lv_at hl 0 rfl) ?_
                          refine w_if_eq (tgt := 336) hF dX9_apply_313 rfl hw (fun hw => ?_) (fun hw => ?_)
                          · have hl : lv_has ls 5 [] := lv_sub hl [] rfl
                            exact jn93 () κ84 ls _ _ _ _ hl hw hH
                          · refine w_aloadq_n hF dX9_apply_316 rfl (lv_at hl 2 rfl) ?_
                            refine cw_getP (q := a1) hF hH fk_X9_127 dX9_apply_317 hw (fun z94 hw => ?_)
                            refine lv_iconst (v := 0) hx hb dX9_apply_320 (by decide) ?_
                            refine w_aloadq_n hF dX9_apply_321 rfl (lv_at hl 1 rfl) ?_
                            refine cw_getP (q := z12) hF hH fk_X9_108 dX9_apply_322 hw (fun z95 hw => ?_)
                            refine w_aloadq_n hF dX9_apply_325 rfl (lv_at hl 2 rfl) ?_
                            refine cw_getI (q := a1) hF hH fk_X9_121 dX9_apply_326 hw (fun z96 hw => ?_)
                            refine w_aloadq_n hF dX9_apply_329 rfl (lv_at hl 2 rfl) ?_
                            refine cw_getI (q := a1) hF hH fk_X9_124 dX9_apply_330 hw (fun z97 hw => ?_)
                            refine cw_copyB (q0 := z94) (q1 := z95) hF hH (wc_11 7 rfl) (wc_10 14 rfl) (wc_10 15 rfl) (wc_5 17 rfl) (Nat.le_of_ble_eq_true rfl) (Nat.le_of_ble_eq_true rfl) hl.1 dX9_apply_333 hw (fun κ98 H locs cells slots hw hH => ?_)
                            have hl : lv_has ls 5 [] := lv_sub hl [] rfl
                            exact jn93 () κ98 ls _ _ _ _ hl hw hH
                    · skip
                      obtain ⟨K101, hK102, hw⟩ := jc_open hw
                      refine cw_join (K := K101) 300 (fun (x99 : Unit) => [(2, va_rf z12), (1, va_rf a1)]) (fun (x99 : Unit) => []) hl hH (fun x99 κ100 ls H locs cells slots hl hw hH => ?_) (fun jn103 => ?_)
                      · have hw := hK102 x99 κ100 hw
                        have hl : lv_has ls 5 [(2, va_rf z12), (1, va_rf a1)] := hl
                        refine lv_iconst (v := 0) hx hb dX9_apply_300 (by decide) ?_
                        exact jn87 0 κ100 ls _ _ _ _ hl hw hH
                      · skip
                        refine w_if_lt (tgt := 300) hF dX9_apply_261 rfl hw (fun hw => ?_) (fun hw => ?_)
                        · have hl : lv_has ls 5 [(2, va_rf z12), (1, va_rf a1)] := lv_sub hl [1, 2] rfl
                          exact jn103 () κ81 ls _ _ _ _ hl hw hH
                        · refine w_aloadq_n hF dX9_apply_264 rfl (lv_at hl 2 rfl) ?_
                          refine cw_getI (q := a1) hF hH fk_X9_124 dX9_apply_265 hw (fun z104 hw => ?_)
                          refine w_if_lt (tgt := 300) hF dX9_apply_268 rfl hw (fun hw => ?_) (fun hw => ?_)
                          · have hl : lv_has ls 5 [(2, va_rf z12), (1, va_rf a1)] := lv_sub hl [1, 2] rfl
                            exact jn103 () κ81 ls _ _ _ _ hl hw hH
                          · refine w_aloadq_n hF dX9_apply_271 rfl (lv_at hl 2 rfl) ?_
                            refine cw_getI (q := a1) hF hH fk_X9_121 dX9_apply_272 hw (fun z105 hw => ?_)
                            refine w_aloadq_n hF dX9_apply_275 rfl (lv_at hl 2 rfl) ?_
                            refine cw_getI (q := a1) hF hH fk_X9_124 dX9_apply_276 hw (fun z106 hw => ?_)
                            refine lv_iadd hx hb dX9_apply_279 ?_
                            refine w_nmi hw (fun z107 hw => ?_)
                            refine lv_iload_n hx hb dX9_apply_280 rfl (lv_at hl 0 rfl) ?_
                            refine w_icmp_gt (tgt := 300) hF dX9_apply_281 rfl hw (fun hw => ?_) (fun hw => ?_)
                            · have hl : lv_has ls 5 [(2, va_rf z12), (1, va_rf a1)] := lv_sub hl [1, 2] rfl
                              exact jn103 () κ81 ls _ _ _ _ hl hw hH
                            · refine w_aloadq_n hF dX9_apply_284 rfl (lv_at hl 2 rfl) ?_
                              refine cw_getI (q := a1) hF hH fk_X9_124 dX9_apply_285 hw (fun z108 hw => ?_)
                              refine w_aloadq_n hF dX9_apply_288 rfl (lv_at hl 2 rfl) ?_
                              refine cw_getP (q := a1) hF hH fk_X9_127 dX9_apply_289 hw (fun z109 hw => ?_)
                              refine cw_alen (q := z109) hF hH hE dX9_apply_292 hw (fun z110 hw => ?_)
                              refine w_icmp_gt (tgt := 300) hF dX9_apply_293 rfl hw (fun hw => ?_) (fun hw => ?_)
                              · have hl : lv_has ls 5 [(2, va_rf z12), (1, va_rf a1)] := lv_sub hl [1, 2] rfl
                                exact jn103 () κ81 ls _ _ _ _ hl hw hH
                              · refine lv_iconst (v := 1) hx hb dX9_apply_296 (by decide) ?_
                                refine lv_goto (tgt := 301) hx hb dX9_apply_297 rfl ?_
                                have hl : lv_has ls 5 [(2, va_rf z12), (1, va_rf a1)] := lv_sub hl [1, 2] rfl
                                exact jn87 1 κ81 ls _ _ _ _ hl hw hH
                  · skip
                    refine w_icmp_le (tgt := 252) hF dX9_apply_236 rfl hw (fun hw => ?_) (fun hw => ?_)
                    · exact jn80 () κ71 ls _ _ _ _ hl hw hH
                    · refine w_aloadq_n hF dX9_apply_239 rfl (lv_at hl 1 rfl) ?_
                      refine cw_getP (q := z12) hF hH fk_X9_108 dX9_apply_240 hw (fun z111 hw => ?_)
                      refine w_aloadq_n hF dX9_apply_243 rfl (lv_at hl 1 rfl) ?_
                      refine cw_getI (q := z12) hF hH fk_X9_58 dX9_apply_244 hw (fun z112 hw => ?_)
                      refine lv_iload_n hx hb dX9_apply_247 rfl (lv_at hl 0 rfl) ?_
                      refine lv_iconst (v := 0) hx hb dX9_apply_248 (by decide) ?_
                      refine cw_cSv (As := [va_rf z111, .int z112, .int z67, .int 0]) (rest := []) hF hH hA hE ms_X9_117 (fun sz => c_J7_fill_eb02e l D t G _ z111 z112 z67 0 _ hw sz) dX9_apply_249 ⟨Nat.le_of_ble_eq_true rfl, Nat.le_of_ble_eq_true rfl⟩ rfl hl.1 (Nat.le_of_ble_eq_true rfl) rfl (fun κ113 H locs cells slots hw hH => ?_)
                      exact jn80 () κ113 ls _ _ _ _ hl hw hH
                · skip
                  refine w_icmp_le (tgt := 231) hF dX9_apply_202 rfl hw (fun hw => ?_) (fun hw => ?_)
                  · exact jn74 () κ62 ls _ _ _ _ hl hw hH
                  · refine w_aloadq_n hF dX9_apply_205 rfl (lv_at hl 1 rfl) ?_
                    refine w_aloadq_n hF dX9_apply_206 rfl (lv_at hl 1 rfl) ?_
                    refine cw_getP (q := z12) hF hH fk_X9_108 dX9_apply_207 hw (fun z115 hw => ?_)
                    refine lv_iload_n hx hb dX9_apply_210 rfl (lv_at hl 0 rfl) ?_
                    refine lv_sipush (v := 1024) hx hb dX9_apply_211 (by decide) ?_
                    refine lv_iadd hx hb dX9_apply_214 ?_
                    refine w_nmi hw (fun z116 hw => ?_)
                    refine lv_iconst (v := 1) hx hb dX9_apply_215 (by decide) ?_
                    refine lv_isub hx hb dX9_apply_216 ?_
                    refine w_nmi hw (fun z117 hw => ?_)
                    refine lv_iload_n hx hb dX9_apply_217 rfl (lv_at hl 0 rfl) ?_
                    refine lv_iconst (v := 1) hx hb dX9_apply_218 (by decide) ?_
                    refine lv_isub hx hb dX9_apply_219 ?_
                    refine w_nmi hw (fun z118 hw => ?_)
                    refine lv_sipush (v := 1024) hx hb dX9_apply_220 (by decide) ?_
                    refine lv_irem hx hb dX9_apply_223 (by decide) ?_
                    refine w_nmi hw (fun z119 hw => ?_)
                    refine lv_isub hx hb dX9_apply_224 ?_
                    refine w_nmi hw (fun z120 hw => ?_)
                    refine cw_cSq (As := [va_rf z115, .int z120]) (rest := [va_rf z12]) hF hH hA hE ms_X9_111 (fun sz => c_J7_copyOf_9075b l D t G _ z115 z120 _ hw sz) dX9_apply_225 ⟨Nat.le_of_ble_eq_true rfl, Nat.le_of_ble_eq_true rfl⟩ rfl hl.1 (by simp only [List.map_cons, List.map_nil, cat_rf]; exact Nat.le_of_ble_eq_true rfl) rfl (fun z122 κ121 H locs cells slots hw hH => ?_)
                    refine cw_putP (q := z12) (v := z122) hF hH fk_X9_108 dX9_apply_228 rfl rfl hw (fun κ123 H locs cells slots hw hH => ?_)
                    exact jn74 () κ123 ls _ _ _ _ hl hw hH
              · skip
                refine w_if_ne (tgt := 99) hF dX9_apply_86 rfl hw (fun hw => ?_) (fun hw => ?_)
                · exact jn41 () κ35 ls _ _ _ _ hl hw hH
                · refine w_aloadq_n hF dX9_apply_89 rfl (lv_at hl 0 rfl) ?_
                  refine lv_iconst (v := 0) hx hb dX9_apply_90 (by decide) ?_
                  refine cw_putI (q := z12) (v := 0) hF hH fk_X9_58 dX9_apply_91 rfl rfl rfl hw (fun κ124 H locs cells slots hw hH => ?_)
                  refine w_aloadq_n hF dX9_apply_94 rfl (lv_at hl 0 rfl) ?_
                  refine lv_iconst (v := 0) hx hb dX9_apply_95 (by decide) ?_
                  refine cw_putZ (q := z12) (v := 0) hF hH fk_X9_61 dX9_apply_96 rfl rfl hw (fun κ125 H locs cells slots hw hH => ?_)
                  exact jn41 () κ125 ls _ _ _ _ hl hw hH
            · skip
              refine w_icmp_eq (tgt := 78) hF dX9_apply_71 rfl hw (fun hw => ?_) (fun hw => ?_)
              · refine lv_iconst (v := 0) hx hb dX9_apply_78 (by decide) ?_
                exact jn34 0 κ28 ls _ _ _ _ hl hw hH
              · refine lv_iconst (v := 1) hx hb dX9_apply_74 (by decide) ?_
                refine lv_goto (tgt := 79) hx hb dX9_apply_75 rfl ?_
                exact jn34 1 κ28 ls _ _ _ _ hl hw hH
          · skip
            refine w_if_eq (tgt := 59) hF dX9_apply_52 rfl hw (fun hw => ?_) (fun hw => ?_)
            · refine lv_iconst (v := 0) hx hb dX9_apply_59 (by decide) ?_
              exact jn25 0 κ16 ls _ _ _ _ hl hw hH
            · refine lv_iconst (v := 1) hx hb dX9_apply_55 (by decide) ?_
              refine lv_goto (tgt := 60) hx hb dX9_apply_56 rfl ?_
              exact jn25 1 κ16 ls _ _ _ _ hl hw hH
        · skip
          refine w_icmp_eq (tgt := 47) hF dX9_apply_40 rfl hw (fun hw => ?_) (fun hw => ?_)
          · refine lv_iconst (v := 0) hx hb dX9_apply_47 (by decide) ?_
            have hl : lv_has ls 5 [(2, va_rf z12), (1, va_rf a1)] := lv_sub hl [0, 2] rfl
            exact jn19 0 κ ls _ _ _ _ hl hw hH
          · refine lv_iconst (v := 1) hx hb dX9_apply_43 (by decide) ?_
            refine lv_goto (tgt := 48) hx hb dX9_apply_44 rfl ?_
            have hl : lv_has ls 5 [(2, va_rf z12), (1, va_rf a1)] := lv_sub hl [0, 2] rfl
            exact jn19 1 κ ls _ _ _ _ hl hw hH
      · have hl : lv_has ls 5 [] := lv_sub hl [] rfl
        exact jn6 () κ ls _ _ _ _ hl hw hH
set_option maxRecDepth 100000 in
def F_X9_copyFrom (G : GE) (h : Nat) (a1 : Option Nat) (post : CS → Prop) (κ : CS) : Prop := lc (fun (K3 : Int32 → CS → Prop) (x1 : Int32) (κ2 : CS) => (h ∈ sL κ2.1 ∧ sK κ2.1 h = 6) ∧ ∀ z5 : Option Nat, z5 = sP κ2.1 h 0 → ∃ n : Nat, AL G κ2 z5 n ∧ ∀ z6 : Int32, z6 = nI n → ((z6.toInt ≤ x1.toInt) → ∃ b : Nat, a1 = some b ∧ (b ∈ sL κ2.1 ∧ sK κ2.1 b = 6) ∧ ∀ z7 : Int32, z7 = sI κ2.1 b 1 → (h ∈ sL κ2.1 ∧ sK κ2.1 h = 6) ∧ ∀ κ8 : CS, κ8 = (h_uI κ2.1 h 1 z7, κ2.2) → post κ8) ∧ ((x1.toInt < z6.toInt) → (h ∈ sL κ2.1 ∧ sK κ2.1 h = 6) ∧ ∀ z9 : Option Nat, z9 = sP κ2.1 h 0 → ∃ b : Nat, z9 = some b ∧ (b ∈ sL κ2.1 ∧ 24 ≤ sK κ2.1 b ∧ sK κ2.1 b < 28) ∧ (0 ≤ x1.toInt ∧ x1.toInt < (sN κ2.1 b : Int)) ∧ ∀ z10 : Option Nat, z10 = sP κ2.1 b x1.toInt.toNat → ∃ b : Nat, a1 = some b ∧ (b ∈ sL κ2.1 ∧ sK κ2.1 b = 6) ∧ ∀ z11 : Option Nat, z11 = sP κ2.1 b 0 → ∃ b : Nat, z11 = some b ∧ (b ∈ sL κ2.1 ∧ 24 ≤ sK κ2.1 b ∧ sK κ2.1 b < 28) ∧ (0 ≤ x1.toInt ∧ x1.toInt < (sN κ2.1 b : Int)) ∧ ∀ z12 : Option Nat, z12 = sP κ2.1 b x1.toInt.toNat → ∃ b : Nat, z10 = some b ∧ (b ∈ sL κ2.1 ∧ sK κ2.1 b = 5) ∧ F_X4_copyFrom G b z12 (fun (κ13 : CS) => ∀ z15 : Int32, z15 = x1 + 1 → K3 z15 κ13) κ2)) 0 κ
theorem dX9_copyFrom_0 : decode cX9_copyFrom 0 = .ok (.iconst 0, 1) := by decide +kernel
theorem dX9_copyFrom_1 : decode cX9_copyFrom 1 = .ok (.istore_n 2, 1) := by decide +kernel
theorem dX9_copyFrom_2 : decode cX9_copyFrom 2 = .ok (.iload_n 2, 1) := by decide +kernel
theorem dX9_copyFrom_3 : decode cX9_copyFrom 3 = .ok (.aload_n 0, 1) := by decide +kernel
theorem dX9_copyFrom_4 : decode cX9_copyFrom 4 = .ok (.getfield 11, 3) := by decide +kernel
theorem dX9_copyFrom_7 : decode cX9_copyFrom 7 = .ok (.arraylength, 1) := by decide +kernel
theorem dX9_copyFrom_8 : decode cX9_copyFrom 8 = .ok (.if_icmp .ge 24, 3) := by decide +kernel
theorem dX9_copyFrom_11 : decode cX9_copyFrom 11 = .ok (.aload_n 0, 1) := by decide +kernel
theorem dX9_copyFrom_12 : decode cX9_copyFrom 12 = .ok (.getfield 11, 3) := by decide +kernel
theorem dX9_copyFrom_15 : decode cX9_copyFrom 15 = .ok (.iload_n 2, 1) := by decide +kernel
theorem dX9_copyFrom_16 : decode cX9_copyFrom 16 = .ok (.aaload, 1) := by decide +kernel
theorem dX9_copyFrom_17 : decode cX9_copyFrom 17 = .ok (.aload_n 1, 1) := by decide +kernel
theorem dX9_copyFrom_18 : decode cX9_copyFrom 18 = .ok (.getfield 11, 3) := by decide +kernel
theorem dX9_copyFrom_21 : decode cX9_copyFrom 21 = .ok (.iload_n 2, 1) := by decide +kernel
theorem dX9_copyFrom_22 : decode cX9_copyFrom 22 = .ok (.aaload, 1) := by decide +kernel
theorem dX9_copyFrom_23 : decode cX9_copyFrom 23 = .ok (.invokevirtual 130, 3) := by decide +kernel
theorem dX9_copyFrom_26 : decode cX9_copyFrom 26 = .ok (.iinc 2 1, 3) := by decide +kernel
theorem dX9_copyFrom_29 : decode cX9_copyFrom 29 = .ok (.goto (-27), 3) := by decide +kernel
theorem dX9_copyFrom_32 : decode cX9_copyFrom 32 = .ok (.aload_n 0, 1) := by decide +kernel
theorem dX9_copyFrom_33 : decode cX9_copyFrom 33 = .ok (.aload_n 1, 1) := by decide +kernel
theorem dX9_copyFrom_34 : decode cX9_copyFrom 34 = .ok (.getfield 52, 3) := by decide +kernel
theorem dX9_copyFrom_37 : decode cX9_copyFrom 37 = .ok (.putfield 52, 3) := by decide +kernel
theorem dX9_copyFrom_40 : decode cX9_copyFrom 40 = .ok (.return_, 1) := by decide +kernel
set_option maxRecDepth 100000 in
set_option maxHeartbeats 4000000 in
theorem c_X9_copyFrom (l : Launch) (D : va_G) (t : Nat → ClassId) (G : GE) (κ : CS) (h : Nat) (a1 : Option Nat) (post : CS → Prop) (hw : F_X9_copyFrom G h a1 post κ) (sz : Nat) : CMv l D t yX9_copyFrom cX9_copyFrom 3 2 61 G κ sz [.ref h, va_rf a1] post := by
  refine c_go (by decide) (by cases a1 <;> exact Nat.le_of_ble_eq_true rfl) ?_
  intro p e s m below meth c ls A hF hr hlk hin hAe hH hA hE hl
  unfold cB
  rw [hAe]
  clear hAe
  have hF : FX p m c cX9_copyFrom 3 s _ RX9 D t := hF
  have hx := hF.1.1
  have hb := hF.1.2.1
  have hl : lv_has ls 3 [(0, .ref h), (1, va_rf a1)] := (by have h2 := hl; clear hw; revert h2; cases a1 <;> exact id)
  unfold F_X9_copyFrom at hw
  refine lv_iconst (v := 0) hx hb dX9_copyFrom_0 (by decide) ?_
  refine lv_istore_n (lv' := [(2, .int 0), (0, .ref h), (1, va_rf a1)]) hx hb dX9_copyFrom_1 rfl hl (by decide) (by generalize a1 = y; cases y <;> rfl) (fun ls hl => ?_)
  have hl : lv_has ls 3 [(2, .int 0), (1, va_rf a1), (0, .ref h)] := lv_sub hl [0, 2, 1] rfl
  refine cw_loop (β := Int32) (fun x1 => [(2, .int x1), (1, va_rf a1), (0, .ref h)]) 0 hl hw hH (fun K3 x1 κ2 ls H locs cells slots hl hw hH ih4 => ?_)
  have hl : lv_has ls 3 [(2, .int x1), (1, va_rf a1), (0, .ref h)] := hl
  refine lv_iload_n hx hb dX9_copyFrom_2 rfl (lv_at hl 0 rfl) ?_
  refine lv_aload_n hx hb dX9_copyFrom_3 rfl (lv_at hl 2 rfl) ?_
  refine cw_getPr (a := h) hF hH fk_X9_11 dX9_copyFrom_4 hw (fun z5 hw => ?_)
  refine cw_alen (q := z5) hF hH hE dX9_copyFrom_7 hw (fun z6 hw => ?_)
  refine w_icmp_ge (tgt := 32) hF dX9_copyFrom_8 rfl hw (fun hw => ?_) (fun hw => ?_)
  · refine lv_aload_n hx hb dX9_copyFrom_32 rfl (lv_at hl 2 rfl) ?_
    refine w_aloadq_n hF dX9_copyFrom_33 rfl (lv_at hl 1 rfl) ?_
    refine cw_getI (q := a1) hF hH fk_X9_52 dX9_copyFrom_34 hw (fun z7 hw => ?_)
    refine cw_putIr (a := h) (v := z7) hF hH fk_X9_52 dX9_copyFrom_37 rfl rfl rfl hw (fun κ8 H locs cells slots hw hH => ?_)
    exact cw_retv hF hH ⟨rfl, rfl⟩ hr hlk dX9_copyFrom_40 hw
  · refine lv_aload_n hx hb dX9_copyFrom_11 rfl (lv_at hl 2 rfl) ?_
    refine cw_getPr (a := h) hF hH fk_X9_11 dX9_copyFrom_12 hw (fun z9 hw => ?_)
    refine lv_iload_n hx hb dX9_copyFrom_15 rfl (lv_at hl 0 rfl) ?_
    refine cw_aald (q := z9) hF hH dX9_copyFrom_16 hw (fun z10 hw => ?_)
    refine w_aloadq_n hF dX9_copyFrom_17 rfl (lv_at hl 1 rfl) ?_
    refine cw_getP (q := a1) hF hH fk_X9_11 dX9_copyFrom_18 hw (fun z11 hw => ?_)
    refine lv_iload_n hx hb dX9_copyFrom_21 rfl (lv_at hl 0 rfl) ?_
    refine cw_aald (q := z11) hF hH dX9_copyFrom_22 hw (fun z12 hw => ?_)
    refine cw_cVvq (q := z10) (As := [va_rf z12]) (rest := []) hF hH hA hE mv_X9_130 ci_X4 (by decide) hw (fun b hw sz => c_X4_copyFrom l D t G _ b z12 _ hw sz) dX9_copyFrom_23 ⟨Nat.le_of_ble_eq_true rfl, Nat.le_of_ble_eq_true rfl⟩ rfl hl.1 (Nat.le_of_ble_eq_true rfl) rfl (fun κ13 H locs cells slots hw hH => ?_)
    obtain ⟨z15, ez15⟩ : ∃ z : Int32, z = x1 + 1 := ⟨_, rfl⟩
    have hw := hw z15 ez15
    refine lv_iinc (lv' := [(2, .int z15), (1, va_rf a1), (0, .ref h)]) (k := 0) (v := z15) hx hb dX9_copyFrom_26 hl rfl ez15.symm (by decide) (by generalize a1 = y; cases y <;> rfl) (fun ls hl => ?_)
    refine lv_goto (tgt := 2) hx hb dX9_copyFrom_29 rfl ?_
    exact ih4 z15 κ13 ls _ _ _ _ hl hw hH
set_option maxRecDepth 100000 in
def F_X10_init (G : GE) (h : Nat) (post : CS → Prop) (κ : CS) : Prop := (0 ≤ (0 : Int32).toInt ∧ (0 : Int32).toInt ≤ 1000000) ∧ ((0 : Int32).toInt.toNat + 12 ≤ κ.2) ∧ ∀ o2 : Nat, o2 ∉ sL κ.1 → ∀ κ3 : CS, κ3 = (h_uN κ.1 o2 21 (0 : Int32).toInt.toNat, κ.2 - ((0 : Int32).toInt.toNat + 12)) → (h ∈ sL κ3.1 ∧ sK κ3.1 h = 13) ∧ ∀ κ4 : CS, κ4 = (h_uP κ3.1 h 8 (some o2), κ3.2) → post κ4
theorem dX10_init_0 : decode cX10_init 0 = .ok (.aload_n 0, 1) := by decide +kernel
theorem dX10_init_1 : decode cX10_init 1 = .ok (.invokespecial 3, 3) := by decide +kernel
theorem dX10_init_4 : decode cX10_init 4 = .ok (.aload_n 0, 1) := by decide +kernel
theorem dX10_init_5 : decode cX10_init 5 = .ok (.iconst 0, 1) := by decide +kernel
theorem dX10_init_6 : decode cX10_init 6 = .ok (.newarray .int, 2) := by decide +kernel
theorem dX10_init_8 : decode cX10_init 8 = .ok (.putfield 9, 3) := by decide +kernel
theorem dX10_init_11 : decode cX10_init 11 = .ok (.return_, 1) := by decide +kernel
set_option maxRecDepth 100000 in
set_option maxHeartbeats 4000000 in
theorem c_X10_init (l : Launch) (D : va_G) (t : Nat → ClassId) (G : GE) (κ : CS) (h : Nat) (post : CS → Prop) (hw : F_X10_init G h post κ) (sz : Nat) : CMv l D t yX10_init cX10_init 1 1 30 G κ sz [.ref h] post := by
  refine c_go (by decide) (Nat.le_of_ble_eq_true rfl) ?_
  intro p e s m below meth c ls A hF hr hlk hin hAe hH hA hE hl
  unfold cB
  rw [hAe]
  clear hAe
  have hF : FX p m c cX10_init 1 s _ RX10 D t := hF
  have hx := hF.1.1
  have hb := hF.1.2.1
  have hl : lv_has ls 1 [(0, .ref h)] := hl
  unfold F_X10_init at hw
  refine lv_aload_n hx hb dX10_init_0 rfl (lv_at hl 0 rfl) ?_
  refine W.objInit hx hb hF.1.2.2.2.1 (hF.1.2.2.2.2 _ (wc_25 13 rfl)) (hF.1.2.2.2.2 _ (wc_5 1 rfl)) (hF.1.2.2.2.2 _ (wc_5 0 rfl)) rfl (hl.1.trans hF.1.2.2.1.symm) rfl dX10_init_1 (Nat.le_of_ble_eq_true rfl) (Nat.le_of_ble_eq_true rfl) ?_
  refine lv_aload_n hx hb dX10_init_4 rfl (lv_at hl 0 rfl) ?_
  refine lv_iconst (v := 0) hx hb dX10_init_5 (by decide) ?_
  refine cw_newarr_int hF hH hA (wc_6 20 rfl) dX10_init_6 hw (fun o2 κ3 H locs cells slots hw hH => ?_)
  refine cw_putPr (a := h) (v := (some o2)) hF hH fk_X10_9 dX10_init_8 rfl rfl hw (fun κ4 H locs cells slots hw hH => ?_)
  exact cw_retv hF hH ⟨rfl, rfl⟩ hr hlk dX10_init_11 hw
set_option maxRecDepth 100000 in
def F_X10_takeOptions (G : GE) (h : Nat) (a1 : Int32) (post : CS → Prop) (κ : CS) : Prop := ∀ z1 : Int32, z1 = a1 &&& 1 → jc (fun (K4 : Int32 → CS → Prop) => ((z1.toInt = 0) → K4 0 κ) ∧ ((¬ z1.toInt = 0) → K4 1 κ)) (fun (x2 : Int32) (κ3 : CS) => (0 ≤ x2.toInt ∧ x2.toInt ≤ 1) ∧ (h ∈ sL κ3.1 ∧ sK κ3.1 h = 13) ∧ ∀ κ7 : CS, κ7 = (h_uI κ3.1 h 5 x2, κ3.2) → ∀ z8 : Int32, z8 = a1 &&& 64 → jc (fun (K11 : Int32 → CS → Prop) => ((z8.toInt = 0) → K11 0 κ7) ∧ ((¬ z8.toInt = 0) → K11 1 κ7)) (fun (x9 : Int32) (κ10 : CS) => (0 ≤ x9.toInt ∧ x9.toInt ≤ 1) ∧ (h ∈ sL κ10.1 ∧ sK κ10.1 h = 13) ∧ ∀ κ14 : CS, κ14 = (h_uI κ10.1 h 6 x9, κ10.2) → ∀ z15 : Int32, z15 = a1 &&& 4096 → jc (fun (K18 : Int32 → CS → Prop) => ((z15.toInt = 0) → K18 0 κ14) ∧ ((¬ z15.toInt = 0) → K18 1 κ14)) (fun (x16 : Int32) (κ17 : CS) => (0 ≤ x16.toInt ∧ x16.toInt ≤ 1) ∧ (h ∈ sL κ17.1 ∧ sK κ17.1 h = 13) ∧ ∀ κ21 : CS, κ21 = (h_uI κ17.1 h 7 x16, κ17.2) → post κ21)))
theorem dX10_takeOptions_0 : decode cX10_takeOptions 0 = .ok (.aload_n 0, 1) := by decide +kernel
theorem dX10_takeOptions_1 : decode cX10_takeOptions 1 = .ok (.iload_n 1, 1) := by decide +kernel
theorem dX10_takeOptions_2 : decode cX10_takeOptions 2 = .ok (.iconst 1, 1) := by decide +kernel
theorem dX10_takeOptions_3 : decode cX10_takeOptions 3 = .ok (.iand, 1) := by decide +kernel
theorem dX10_takeOptions_4 : decode cX10_takeOptions 4 = .ok (.ifCond .eq 7, 3) := by decide +kernel
theorem dX10_takeOptions_7 : decode cX10_takeOptions 7 = .ok (.iconst 1, 1) := by decide +kernel
theorem dX10_takeOptions_8 : decode cX10_takeOptions 8 = .ok (.goto 4, 3) := by decide +kernel
theorem dX10_takeOptions_11 : decode cX10_takeOptions 11 = .ok (.iconst 0, 1) := by decide +kernel
theorem dX10_takeOptions_12 : decode cX10_takeOptions 12 = .ok (.putfield 15, 3) := by decide +kernel
theorem dX10_takeOptions_15 : decode cX10_takeOptions 15 = .ok (.aload_n 0, 1) := by decide +kernel
theorem dX10_takeOptions_16 : decode cX10_takeOptions 16 = .ok (.iload_n 1, 1) := by decide +kernel
theorem dX10_takeOptions_17 : decode cX10_takeOptions 17 = .ok (.bipush 64, 2) := by decide +kernel
theorem dX10_takeOptions_19 : decode cX10_takeOptions 19 = .ok (.iand, 1) := by decide +kernel
theorem dX10_takeOptions_20 : decode cX10_takeOptions 20 = .ok (.ifCond .eq 7, 3) := by decide +kernel
theorem dX10_takeOptions_23 : decode cX10_takeOptions 23 = .ok (.iconst 1, 1) := by decide +kernel
theorem dX10_takeOptions_24 : decode cX10_takeOptions 24 = .ok (.goto 4, 3) := by decide +kernel
theorem dX10_takeOptions_27 : decode cX10_takeOptions 27 = .ok (.iconst 0, 1) := by decide +kernel
theorem dX10_takeOptions_28 : decode cX10_takeOptions 28 = .ok (.putfield 19, 3) := by decide +kernel
theorem dX10_takeOptions_31 : decode cX10_takeOptions 31 = .ok (.aload_n 0, 1) := by decide +kernel
theorem dX10_takeOptions_32 : decode cX10_takeOptions 32 = .ok (.iload_n 1, 1) := by decide +kernel
theorem dX10_takeOptions_33 : decode cX10_takeOptions 33 = .ok (.sipush 4096, 3) := by decide +kernel
theorem dX10_takeOptions_36 : decode cX10_takeOptions 36 = .ok (.iand, 1) := by decide +kernel
theorem dX10_takeOptions_37 : decode cX10_takeOptions 37 = .ok (.ifCond .eq 7, 3) := by decide +kernel
theorem dX10_takeOptions_40 : decode cX10_takeOptions 40 = .ok (.iconst 1, 1) := by decide +kernel
theorem dX10_takeOptions_41 : decode cX10_takeOptions 41 = .ok (.goto 4, 3) := by decide +kernel
theorem dX10_takeOptions_44 : decode cX10_takeOptions 44 = .ok (.iconst 0, 1) := by decide +kernel
theorem dX10_takeOptions_45 : decode cX10_takeOptions 45 = .ok (.putfield 22, 3) := by decide +kernel
theorem dX10_takeOptions_48 : decode cX10_takeOptions 48 = .ok (.return_, 1) := by decide +kernel
set_option maxRecDepth 100000 in
set_option maxHeartbeats 4000000 in
theorem c_X10_takeOptions (l : Launch) (D : va_G) (t : Nat → ClassId) (G : GE) (κ : CS) (h : Nat) (a1 : Int32) (post : CS → Prop) (hw : F_X10_takeOptions G h a1 post κ) (sz : Nat) : CMv l D t yX10_takeOptions cX10_takeOptions 2 0 14 G κ sz [.ref h, .int a1] post := by
  refine c_go (by decide) (Nat.le_of_ble_eq_true rfl) ?_
  intro p e s m below meth c ls A hF hr hlk hin hAe hH hA hE hl
  unfold cB
  rw [hAe]
  clear hAe
  have hF : FX p m c cX10_takeOptions 2 s _ RX10 D t := hF
  have hx := hF.1.1
  have hb := hF.1.2.1
  have hl : lv_has ls 2 [(0, .ref h), (1, .int a1)] := hl
  unfold F_X10_takeOptions at hw
  refine lv_aload_n hx hb dX10_takeOptions_0 rfl (lv_at hl 0 rfl) ?_
  refine lv_iload_n hx hb dX10_takeOptions_1 rfl (lv_at hl 1 rfl) ?_
  refine lv_iconst (v := 1) hx hb dX10_takeOptions_2 (by decide) ?_
  refine lv_iand hx hb dX10_takeOptions_3 ?_
  refine w_nmi hw (fun z1 hw => ?_)
  obtain ⟨K4, hK5, hw⟩ := jc_open hw
  refine cw_join (K := K4) 12 (fun (x2 : Int32) => [(1, .int a1), (0, .ref h)]) (fun (x2 : Int32) => [.int x2, .ref h]) hl hH (fun x2 κ3 ls H locs cells slots hl hw hH => ?_) (fun jn6 => ?_)
  · have hw := hK5 x2 κ3 hw
    have hl : lv_has ls 2 [(1, .int a1), (0, .ref h)] := hl
    refine cw_putZr (a := h) (v := x2) hF hH fk_X10_15 dX10_takeOptions_12 rfl rfl hw (fun κ7 H locs cells slots hw hH => ?_)
    refine lv_aload_n hx hb dX10_takeOptions_15 rfl (lv_at hl 1 rfl) ?_
    refine lv_iload_n hx hb dX10_takeOptions_16 rfl (lv_at hl 0 rfl) ?_
    refine lv_bipush (v := 64) hx hb dX10_takeOptions_17 (by decide) ?_
    refine lv_iand hx hb dX10_takeOptions_19 ?_
    refine w_nmi hw (fun z8 hw => ?_)
    obtain ⟨K11, hK12, hw⟩ := jc_open hw
    refine cw_join (K := K11) 28 (fun (x9 : Int32) => [(1, .int a1), (0, .ref h)]) (fun (x9 : Int32) => [.int x9, .ref h]) hl hH (fun x9 κ10 ls H locs cells slots hl hw hH => ?_) (fun jn13 => ?_)
    · have hw := hK12 x9 κ10 hw
      have hl : lv_has ls 2 [(1, .int a1), (0, .ref h)] := hl
      refine cw_putZr (a := h) (v := x9) hF hH fk_X10_19 dX10_takeOptions_28 rfl rfl hw (fun κ14 H locs cells slots hw hH => ?_)
      refine lv_aload_n hx hb dX10_takeOptions_31 rfl (lv_at hl 1 rfl) ?_
      refine lv_iload_n hx hb dX10_takeOptions_32 rfl (lv_at hl 0 rfl) ?_
      refine lv_sipush (v := 4096) hx hb dX10_takeOptions_33 (by decide) ?_
      refine lv_iand hx hb dX10_takeOptions_36 ?_
      refine w_nmi hw (fun z15 hw => ?_)
      obtain ⟨K18, hK19, hw⟩ := jc_open hw
      refine cw_join (K := K18) 45 (fun (x16 : Int32) => []) (fun (x16 : Int32) => [.int x16, .ref h]) hl hH (fun x16 κ17 ls H locs cells slots hl hw hH => ?_) (fun jn20 => ?_)
      · have hw := hK19 x16 κ17 hw
        have hl : lv_has ls 2 [] := hl
        refine cw_putZr (a := h) (v := x16) hF hH fk_X10_22 dX10_takeOptions_45 rfl rfl hw (fun κ21 H locs cells slots hw hH => ?_)
        exact cw_retv hF hH ⟨rfl, rfl⟩ hr hlk dX10_takeOptions_48 hw
      · skip
        refine w_if_eq (tgt := 44) hF dX10_takeOptions_37 rfl hw (fun hw => ?_) (fun hw => ?_)
        · refine lv_iconst (v := 0) hx hb dX10_takeOptions_44 (by decide) ?_
          have hl : lv_has ls 2 [] := lv_sub hl [] rfl
          exact jn20 0 κ14 ls _ _ _ _ hl hw hH
        · refine lv_iconst (v := 1) hx hb dX10_takeOptions_40 (by decide) ?_
          refine lv_goto (tgt := 45) hx hb dX10_takeOptions_41 rfl ?_
          have hl : lv_has ls 2 [] := lv_sub hl [] rfl
          exact jn20 1 κ14 ls _ _ _ _ hl hw hH
    · skip
      refine w_if_eq (tgt := 27) hF dX10_takeOptions_20 rfl hw (fun hw => ?_) (fun hw => ?_)
      · refine lv_iconst (v := 0) hx hb dX10_takeOptions_27 (by decide) ?_
        exact jn13 0 κ7 ls _ _ _ _ hl hw hH
      · refine lv_iconst (v := 1) hx hb dX10_takeOptions_23 (by decide) ?_
        refine lv_goto (tgt := 28) hx hb dX10_takeOptions_24 rfl ?_
        exact jn13 1 κ7 ls _ _ _ _ hl hw hH
  · skip
    refine w_if_eq (tgt := 11) hF dX10_takeOptions_4 rfl hw (fun hw => ?_) (fun hw => ?_)
    · refine lv_iconst (v := 0) hx hb dX10_takeOptions_11 (by decide) ?_
      have hl : lv_has ls 2 [(1, .int a1), (0, .ref h)] := lv_sub hl [1, 0] rfl
      exact jn6 0 κ ls _ _ _ _ hl hw hH
    · refine lv_iconst (v := 1) hx hb dX10_takeOptions_7 (by decide) ?_
      refine lv_goto (tgt := 12) hx hb dX10_takeOptions_8 rfl ?_
      have hl : lv_has ls 2 [(1, .int a1), (0, .ref h)] := lv_sub hl [1, 0] rfl
      exact jn6 1 κ ls _ _ _ _ hl hw hH

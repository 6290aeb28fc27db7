/-! the class, lifted: 2 -/
set_option maxRecDepth 100000 in
def F_X4_tellStanding (G : GE) (h : Nat) (a1 : Option Nat) (a2 : Int32) (post : CS → Prop) (κ : CS) : Prop := (h ∈ sL κ.1 ∧ sK κ.1 h = 5) ∧ F_X4_room G h  (fun (z2 : Int32) (κ1 : CS) => ∀ z3 : Int64, z3 = (z2 : Int32).toInt64 → ∃ b : Nat, a1 = some b ∧ (b ∈ sL κ1.1 ∧ sK κ1.1 b = 2) ∧ F_X6_put G b a2 8 z3 (fun (κ4 : CS) => ∀ z6 : Int32, z6 = a2 + 8 → (h ∈ sL κ4.1 ∧ sK κ4.1 h = 5) ∧ ∀ z7 : Int32, z7 = sI κ4.1 h 12 → ∀ z8 : Int64, z8 = (z7 : Int32).toInt64 → ∃ b : Nat, a1 = some b ∧ (b ∈ sL κ4.1 ∧ sK κ4.1 b = 2) ∧ F_X6_put G b z6 8 z8 (fun (κ9 : CS) => ∀ z11 : Int32, z11 = a2 + 16 → (h ∈ sL κ9.1 ∧ sK κ9.1 h = 5) ∧ ∀ z12 : Int32, z12 = sI κ9.1 h 3 → jc (fun (K15 : Int64 → CS → Prop) => ((z12.toInt = 0) → K15 1 κ9) ∧ ((¬ z12.toInt = 0) → K15 0 κ9)) (fun (x13 : Int64) (κ14 : CS) => ∃ b : Nat, a1 = some b ∧ (b ∈ sL κ14.1 ∧ sK κ14.1 b = 2) ∧ F_X6_put G b z11 4 x13 (fun (κ18 : CS) => ∀ z20 : Int32, z20 = a2 + 20 → (h ∈ sL κ18.1 ∧ sK κ18.1 h = 5) ∧ ∀ z21 : Int32, z21 = sI κ18.1 h 3 → jc (fun (K24 : Int64 → CS → Prop) => ((z21.toInt = 0) → K24 0 κ18) ∧ ((¬ z21.toInt = 0) → K24 1 κ18)) (fun (x22 : Int64) (κ23 : CS) => ∃ b : Nat, a1 = some b ∧ (b ∈ sL κ23.1 ∧ sK κ23.1 b = 2) ∧ F_X6_put G b z20 1 x22 (fun (κ27 : CS) => ∀ z29 : Int32, z29 = a2 + 21 → (h ∈ sL κ27.1 ∧ sK κ27.1 h = 5) ∧ ∀ z30 : Int32, z30 = sI κ27.1 h 2 → jc (fun (K33 : Int64 → CS → Prop) => ((z30.toInt = 0) → K33 0 κ27) ∧ ((¬ z30.toInt = 0) → K33 1 κ27)) (fun (x31 : Int64) (κ32 : CS) => ∃ b : Nat, a1 = some b ∧ (b ∈ sL κ32.1 ∧ sK κ32.1 b = 2) ∧ F_X6_put G b z29 1 x31 (fun (κ36 : CS) => post κ36) κ32)) κ23)) κ14)) κ4) κ1) κ
theorem dX4_tellStanding_0 : decode cX4_tellStanding 0 = .ok (.aload_n 1, 1) := by decide +kernel
theorem dX4_tellStanding_1 : decode cX4_tellStanding 1 = .ok (.iload_n 2, 1) := by decide +kernel
theorem dX4_tellStanding_2 : decode cX4_tellStanding 2 = .ok (.bipush 8, 2) := by decide +kernel
theorem dX4_tellStanding_4 : decode cX4_tellStanding 4 = .ok (.aload_n 0, 1) := by decide +kernel
theorem dX4_tellStanding_5 : decode cX4_tellStanding 5 = .ok (.invokevirtual 54, 3) := by decide +kernel
theorem dX4_tellStanding_8 : decode cX4_tellStanding 8 = .ok (.i2l, 1) := by decide +kernel
theorem dX4_tellStanding_9 : decode cX4_tellStanding 9 = .ok (.invokevirtual 39, 3) := by decide +kernel
theorem dX4_tellStanding_12 : decode cX4_tellStanding 12 = .ok (.aload_n 1, 1) := by decide +kernel
theorem dX4_tellStanding_13 : decode cX4_tellStanding 13 = .ok (.iload_n 2, 1) := by decide +kernel
theorem dX4_tellStanding_14 : decode cX4_tellStanding 14 = .ok (.bipush 8, 2) := by decide +kernel
theorem dX4_tellStanding_16 : decode cX4_tellStanding 16 = .ok (.iadd, 1) := by decide +kernel
theorem dX4_tellStanding_17 : decode cX4_tellStanding 17 = .ok (.bipush 8, 2) := by decide +kernel
theorem dX4_tellStanding_19 : decode cX4_tellStanding 19 = .ok (.aload_n 0, 1) := by decide +kernel
theorem dX4_tellStanding_20 : decode cX4_tellStanding 20 = .ok (.getfield 32, 3) := by decide +kernel
theorem dX4_tellStanding_23 : decode cX4_tellStanding 23 = .ok (.i2l, 1) := by decide +kernel
theorem dX4_tellStanding_24 : decode cX4_tellStanding 24 = .ok (.invokevirtual 39, 3) := by decide +kernel
theorem dX4_tellStanding_27 : decode cX4_tellStanding 27 = .ok (.aload_n 1, 1) := by decide +kernel
theorem dX4_tellStanding_28 : decode cX4_tellStanding 28 = .ok (.iload_n 2, 1) := by decide +kernel
theorem dX4_tellStanding_29 : decode cX4_tellStanding 29 = .ok (.bipush 16, 2) := by decide +kernel
theorem dX4_tellStanding_31 : decode cX4_tellStanding 31 = .ok (.iadd, 1) := by decide +kernel
theorem dX4_tellStanding_32 : decode cX4_tellStanding 32 = .ok (.iconst 4, 1) := by decide +kernel
theorem dX4_tellStanding_33 : decode cX4_tellStanding 33 = .ok (.aload_n 0, 1) := by decide +kernel
theorem dX4_tellStanding_34 : decode cX4_tellStanding 34 = .ok (.getfield 61, 3) := by decide +kernel
theorem dX4_tellStanding_37 : decode cX4_tellStanding 37 = .ok (.ifCond .eq 7, 3) := by decide +kernel
theorem dX4_tellStanding_40 : decode cX4_tellStanding 40 = .ok (.lconst 0, 1) := by decide +kernel
theorem dX4_tellStanding_41 : decode cX4_tellStanding 41 = .ok (.goto 4, 3) := by decide +kernel
theorem dX4_tellStanding_44 : decode cX4_tellStanding 44 = .ok (.lconst 1, 1) := by decide +kernel
theorem dX4_tellStanding_45 : decode cX4_tellStanding 45 = .ok (.invokevirtual 39, 3) := by decide +kernel
theorem dX4_tellStanding_48 : decode cX4_tellStanding 48 = .ok (.aload_n 1, 1) := by decide +kernel
theorem dX4_tellStanding_49 : decode cX4_tellStanding 49 = .ok (.iload_n 2, 1) := by decide +kernel
theorem dX4_tellStanding_50 : decode cX4_tellStanding 50 = .ok (.bipush 20, 2) := by decide +kernel
theorem dX4_tellStanding_52 : decode cX4_tellStanding 52 = .ok (.iadd, 1) := by decide +kernel
theorem dX4_tellStanding_53 : decode cX4_tellStanding 53 = .ok (.iconst 1, 1) := by decide +kernel
theorem dX4_tellStanding_54 : decode cX4_tellStanding 54 = .ok (.aload_n 0, 1) := by decide +kernel
theorem dX4_tellStanding_55 : decode cX4_tellStanding 55 = .ok (.getfield 61, 3) := by decide +kernel
theorem dX4_tellStanding_58 : decode cX4_tellStanding 58 = .ok (.ifCond .eq 7, 3) := by decide +kernel
theorem dX4_tellStanding_61 : decode cX4_tellStanding 61 = .ok (.lconst 1, 1) := by decide +kernel
theorem dX4_tellStanding_62 : decode cX4_tellStanding 62 = .ok (.goto 4, 3) := by decide +kernel
theorem dX4_tellStanding_65 : decode cX4_tellStanding 65 = .ok (.lconst 0, 1) := by decide +kernel
theorem dX4_tellStanding_66 : decode cX4_tellStanding 66 = .ok (.invokevirtual 39, 3) := by decide +kernel
theorem dX4_tellStanding_69 : decode cX4_tellStanding 69 = .ok (.aload_n 1, 1) := by decide +kernel
theorem dX4_tellStanding_70 : decode cX4_tellStanding 70 = .ok (.iload_n 2, 1) := by decide +kernel
theorem dX4_tellStanding_71 : decode cX4_tellStanding 71 = .ok (.bipush 21, 2) := by decide +kernel
theorem dX4_tellStanding_73 : decode cX4_tellStanding 73 = .ok (.iadd, 1) := by decide +kernel
theorem dX4_tellStanding_74 : decode cX4_tellStanding 74 = .ok (.iconst 1, 1) := by decide +kernel
theorem dX4_tellStanding_75 : decode cX4_tellStanding 75 = .ok (.aload_n 0, 1) := by decide +kernel
theorem dX4_tellStanding_76 : decode cX4_tellStanding 76 = .ok (.getfield 28, 3) := by decide +kernel
theorem dX4_tellStanding_79 : decode cX4_tellStanding 79 = .ok (.ifCond .eq 7, 3) := by decide +kernel
theorem dX4_tellStanding_82 : decode cX4_tellStanding 82 = .ok (.lconst 1, 1) := by decide +kernel
theorem dX4_tellStanding_83 : decode cX4_tellStanding 83 = .ok (.goto 4, 3) := by decide +kernel
theorem dX4_tellStanding_86 : decode cX4_tellStanding 86 = .ok (.lconst 0, 1) := by decide +kernel
theorem dX4_tellStanding_87 : decode cX4_tellStanding 87 = .ok (.invokevirtual 39, 3) := by decide +kernel
theorem dX4_tellStanding_90 : decode cX4_tellStanding 90 = .ok (.return_, 1) := by decide +kernel
set_option maxRecDepth 100000 in
set_option maxHeartbeats 4000000 in
theorem c_X4_tellStanding (l : Launch) (D : va_G) (t : Nat → ClassId) (G : GE) (κ : CS) (h : Nat) (a1 : Option Nat) (a2 : Int32) (post : CS → Prop) (hw : F_X4_tellStanding G h a1 a2 post κ) (sz : Nat) : CMv l D t yX4_tellStanding cX4_tellStanding 3 1 40 G κ sz [.ref h, va_rf a1, .int a2] post := by
  refine c_go (by decide) (by cases a1 <;> exact Nat.le_of_ble_eq_true rfl) ?_
  intro p e s m below meth c ls A hF hr hlk hin hAe hH hA hE hl
  unfold cB
  rw [hAe]
  clear hAe
  have hF : FX p m c cX4_tellStanding 3 s _ RX4 D t := hF
  have hx := hF.1.1
  have hb := hF.1.2.1
  have hl : lv_has ls 3 [(0, .ref h), (1, va_rf a1), (2, .int a2)] := (by have h2 := hl; clear hw; revert h2; cases a1 <;> exact id)
  unfold F_X4_tellStanding at hw
  refine w_aloadq_n hF dX4_tellStanding_0 rfl (lv_at hl 1 rfl) ?_
  refine lv_iload_n hx hb dX4_tellStanding_1 rfl (lv_at hl 2 rfl) ?_
  refine lv_bipush (v := 8) hx hb dX4_tellStanding_2 (by decide) ?_
  refine lv_aload_n hx hb dX4_tellStanding_4 rfl (lv_at hl 0 rfl) ?_
  refine cw_cVi (b := h) (As := []) (rest := [.int 8, .int a2, va_rf a1]) hF hH hA hE mv_X4_54 ci_X4 (by decide) (fun sz => c_X4_room l D t G _ h  _ hw.2 sz) dX4_tellStanding_5 hw.1 ⟨Nat.le_of_ble_eq_true rfl, Nat.le_of_ble_eq_true rfl⟩ rfl hl.1 (by simp only [List.map_cons, List.map_nil, cat_rf]; exact Nat.le_of_ble_eq_true rfl) rfl (fun z2 κ1 H locs cells slots hw hH => ?_)
  refine lv_i2l hx hb dX4_tellStanding_8 rfl ?_
  refine w_nml hw (fun z3 hw => ?_)
  refine cw_cVvq (q := a1) (As := [.int a2, .int 8, .long z3]) (rest := []) hF hH hA hE mv_X4_39 ci_X6 (by decide) hw (fun b hw sz => c_X6_put l D t G _ b a2 8 z3 _ hw sz) dX4_tellStanding_9 ⟨Nat.le_of_ble_eq_true rfl, Nat.le_of_ble_eq_true rfl⟩ rfl hl.1 (Nat.le_of_ble_eq_true rfl) rfl (fun κ4 H locs cells slots hw hH => ?_)
  refine w_aloadq_n hF dX4_tellStanding_12 rfl (lv_at hl 1 rfl) ?_
  refine lv_iload_n hx hb dX4_tellStanding_13 rfl (lv_at hl 2 rfl) ?_
  refine lv_bipush (v := 8) hx hb dX4_tellStanding_14 (by decide) ?_
  refine lv_iadd hx hb dX4_tellStanding_16 ?_
  refine w_nmi hw (fun z6 hw => ?_)
  refine lv_bipush (v := 8) hx hb dX4_tellStanding_17 (by decide) ?_
  refine lv_aload_n hx hb dX4_tellStanding_19 rfl (lv_at hl 0 rfl) ?_
  refine cw_getIr (a := h) hF hH fk_X4_32 dX4_tellStanding_20 hw (fun z7 hw => ?_)
  refine lv_i2l hx hb dX4_tellStanding_23 rfl ?_
  refine w_nml hw (fun z8 hw => ?_)
  refine cw_cVvq (q := a1) (As := [.int z6, .int 8, .long z8]) (rest := []) hF hH hA hE mv_X4_39 ci_X6 (by decide) hw (fun b hw sz => c_X6_put l D t G _ b z6 8 z8 _ hw sz) dX4_tellStanding_24 ⟨Nat.le_of_ble_eq_true rfl, Nat.le_of_ble_eq_true rfl⟩ rfl hl.1 (Nat.le_of_ble_eq_true rfl) rfl (fun κ9 H locs cells slots hw hH => ?_)
  refine w_aloadq_n hF dX4_tellStanding_27 rfl (lv_at hl 1 rfl) ?_
  refine lv_iload_n hx hb dX4_tellStanding_28 rfl (lv_at hl 2 rfl) ?_
  refine lv_bipush (v := 16) hx hb dX4_tellStanding_29 (by decide) ?_
  refine lv_iadd hx hb dX4_tellStanding_31 ?_
  refine w_nmi hw (fun z11 hw => ?_)
  refine lv_iconst (v := 4) hx hb dX4_tellStanding_32 (by decide) ?_
  refine lv_aload_n hx hb dX4_tellStanding_33 rfl (lv_at hl 0 rfl) ?_
  refine cw_getIr (a := h) hF hH fk_X4_61 dX4_tellStanding_34 hw (fun z12 hw => ?_)
  obtain ⟨K15, hK16, hw⟩ := jc_open hw
  refine cw_join (K := K15) 45 (fun (x13 : Int64) => [(2, .int a2), (1, va_rf a1), (0, .ref h)]) (fun (x13 : Int64) => [.long x13, .int 4, .int z11, va_rf a1]) hl hH (fun x13 κ14 ls H locs cells slots hl hw hH => ?_) (fun jn17 => ?_)
  · have hw := hK16 x13 κ14 hw
    have hl : lv_has ls 3 [(2, .int a2), (1, va_rf a1), (0, .ref h)] := hl
    refine cw_cVvq (q := a1) (As := [.int z11, .int 4, .long x13]) (rest := []) hF hH hA hE mv_X4_39 ci_X6 (by decide) hw (fun b hw sz => c_X6_put l D t G _ b z11 4 x13 _ hw sz) dX4_tellStanding_45 ⟨Nat.le_of_ble_eq_true rfl, Nat.le_of_ble_eq_true rfl⟩ rfl hl.1 (Nat.le_of_ble_eq_true rfl) rfl (fun κ18 H locs cells slots hw hH => ?_)
    refine w_aloadq_n hF dX4_tellStanding_48 rfl (lv_at hl 1 rfl) ?_
    refine lv_iload_n hx hb dX4_tellStanding_49 rfl (lv_at hl 0 rfl) ?_
    refine lv_bipush (v := 20) hx hb dX4_tellStanding_50 (by decide) ?_
    refine lv_iadd hx hb dX4_tellStanding_52 ?_
    refine w_nmi hw (fun z20 hw => ?_)
    refine lv_iconst (v := 1) hx hb dX4_tellStanding_53 (by decide) ?_
    refine lv_aload_n hx hb dX4_tellStanding_54 rfl (lv_at hl 2 rfl) ?_
    refine cw_getIr (a := h) hF hH fk_X4_61 dX4_tellStanding_55 hw (fun z21 hw => ?_)
    obtain ⟨K24, hK25, hw⟩ := jc_open hw
    refine cw_join (K := K24) 66 (fun (x22 : Int64) => [(2, .int a2), (1, va_rf a1), (0, .ref h)]) (fun (x22 : Int64) => [.long x22, .int 1, .int z20, va_rf a1]) hl hH (fun x22 κ23 ls H locs cells slots hl hw hH => ?_) (fun jn26 => ?_)
    · have hw := hK25 x22 κ23 hw
      have hl : lv_has ls 3 [(2, .int a2), (1, va_rf a1), (0, .ref h)] := hl
      refine cw_cVvq (q := a1) (As := [.int z20, .int 1, .long x22]) (rest := []) hF hH hA hE mv_X4_39 ci_X6 (by decide) hw (fun b hw sz => c_X6_put l D t G _ b z20 1 x22 _ hw sz) dX4_tellStanding_66 ⟨Nat.le_of_ble_eq_true rfl, Nat.le_of_ble_eq_true rfl⟩ rfl hl.1 (Nat.le_of_ble_eq_true rfl) rfl (fun κ27 H locs cells slots hw hH => ?_)
      refine w_aloadq_n hF dX4_tellStanding_69 rfl (lv_at hl 1 rfl) ?_
      refine lv_iload_n hx hb dX4_tellStanding_70 rfl (lv_at hl 0 rfl) ?_
      refine lv_bipush (v := 21) hx hb dX4_tellStanding_71 (by decide) ?_
      refine lv_iadd hx hb dX4_tellStanding_73 ?_
      refine w_nmi hw (fun z29 hw => ?_)
      refine lv_iconst (v := 1) hx hb dX4_tellStanding_74 (by decide) ?_
      refine lv_aload_n hx hb dX4_tellStanding_75 rfl (lv_at hl 2 rfl) ?_
      refine cw_getIr (a := h) hF hH fk_X4_28 dX4_tellStanding_76 hw (fun z30 hw => ?_)
      obtain ⟨K33, hK34, hw⟩ := jc_open hw
      refine cw_join (K := K33) 87 (fun (x31 : Int64) => []) (fun (x31 : Int64) => [.long x31, .int 1, .int z29, va_rf a1]) hl hH (fun x31 κ32 ls H locs cells slots hl hw hH => ?_) (fun jn35 => ?_)
      · have hw := hK34 x31 κ32 hw
        have hl : lv_has ls 3 [] := hl
        refine cw_cVvq (q := a1) (As := [.int z29, .int 1, .long x31]) (rest := []) hF hH hA hE mv_X4_39 ci_X6 (by decide) hw (fun b hw sz => c_X6_put l D t G _ b z29 1 x31 _ hw sz) dX4_tellStanding_87 ⟨Nat.le_of_ble_eq_true rfl, Nat.le_of_ble_eq_true rfl⟩ rfl hl.1 (Nat.le_of_ble_eq_true rfl) rfl (fun κ36 H locs cells slots hw hH => ?_)
        exact cw_retv hF hH ⟨rfl, rfl⟩ hr hlk dX4_tellStanding_90 hw
      · skip
        refine w_if_eq (tgt := 86) hF dX4_tellStanding_79 rfl hw (fun hw => ?_) (fun hw => ?_)
        · refine lv_lconst (v := 0) hx hb dX4_tellStanding_86 (by decide) ?_
          have hl : lv_has ls 3 [] := lv_sub hl [] rfl
          exact jn35 0 κ27 ls _ _ _ _ hl hw hH
        · refine lv_lconst (v := 1) hx hb dX4_tellStanding_82 (by decide) ?_
          refine lv_goto (tgt := 87) hx hb dX4_tellStanding_83 rfl ?_
          have hl : lv_has ls 3 [] := lv_sub hl [] rfl
          exact jn35 1 κ27 ls _ _ _ _ hl hw hH
    · skip
      refine w_if_eq (tgt := 65) hF dX4_tellStanding_58 rfl hw (fun hw => ?_) (fun hw => ?_)
      · refine lv_lconst (v := 0) hx hb dX4_tellStanding_65 (by decide) ?_
        exact jn26 0 κ18 ls _ _ _ _ hl hw hH
      · refine lv_lconst (v := 1) hx hb dX4_tellStanding_61 (by decide) ?_
        refine lv_goto (tgt := 66) hx hb dX4_tellStanding_62 rfl ?_
        exact jn26 1 κ18 ls _ _ _ _ hl hw hH
  · skip
    refine w_if_eq (tgt := 44) hF dX4_tellStanding_37 rfl hw (fun hw => ?_) (fun hw => ?_)
    · refine lv_lconst (v := 1) hx hb dX4_tellStanding_44 (by decide) ?_
      have hl : lv_has ls 3 [(2, .int a2), (1, va_rf a1), (0, .ref h)] := lv_sub hl [2, 1, 0] rfl
      exact jn17 1 κ9 ls _ _ _ _ hl hw hH
    · refine lv_lconst (v := 0) hx hb dX4_tellStanding_40 (by decide) ?_
      refine lv_goto (tgt := 45) hx hb dX4_tellStanding_41 rfl ?_
      have hl : lv_has ls 3 [(2, .int a2), (1, va_rf a1), (0, .ref h)] := lv_sub hl [2, 1, 0] rfl
      exact jn17 0 κ9 ls _ _ _ _ hl hw hH
set_option maxRecDepth 100000 in
def F_X11_upper (G : GE) (a0 : Int32) (post : Int32 → CS → Prop) (κ : CS) : Prop := jc (fun (K3 : Int32 → CS → Prop) => jc (fun (K8 : Unit → CS → Prop) => ((a0.toInt < (97 : Int32).toInt) → K8 () κ) ∧ (((97 : Int32).toInt ≤ a0.toInt) → (((122 : Int32).toInt < a0.toInt) → K8 () κ) ∧ ((a0.toInt ≤ (122 : Int32).toInt) → ∀ z11 : Int32, z11 = a0 - 32 → K3 z11 κ))) (fun (x6 : Unit) (κ7 : CS) => K3 a0 κ7)) (fun (x1 : Int32) (κ2 : CS) => post x1 κ2)
theorem dX11_upper_0 : decode cX11_upper 0 = .ok (.iload_n 0, 1) := by decide +kernel
theorem dX11_upper_1 : decode cX11_upper 1 = .ok (.bipush 97, 2) := by decide +kernel
theorem dX11_upper_3 : decode cX11_upper 3 = .ok (.if_icmp .lt 16, 3) := by decide +kernel
theorem dX11_upper_6 : decode cX11_upper 6 = .ok (.iload_n 0, 1) := by decide +kernel
theorem dX11_upper_7 : decode cX11_upper 7 = .ok (.bipush 122, 2) := by decide +kernel
theorem dX11_upper_9 : decode cX11_upper 9 = .ok (.if_icmp .gt 10, 3) := by decide +kernel
theorem dX11_upper_12 : decode cX11_upper 12 = .ok (.iload_n 0, 1) := by decide +kernel
theorem dX11_upper_13 : decode cX11_upper 13 = .ok (.bipush 32, 2) := by decide +kernel
theorem dX11_upper_15 : decode cX11_upper 15 = .ok (.isub, 1) := by decide +kernel
theorem dX11_upper_16 : decode cX11_upper 16 = .ok (.goto 4, 3) := by decide +kernel
theorem dX11_upper_19 : decode cX11_upper 19 = .ok (.iload_n 0, 1) := by decide +kernel
theorem dX11_upper_20 : decode cX11_upper 20 = .ok (.ireturn, 1) := by decide +kernel
set_option maxRecDepth 100000 in
set_option maxHeartbeats 4000000 in
theorem c_X11_upper (l : Launch) (D : va_G) (t : Nat → ClassId) (G : GE) (κ : CS) (a0 : Int32) (post : Int32 → CS → Prop) (hw : F_X11_upper G a0 post κ) (sz : Nat) : CMi l D t yX11_upper cX11_upper 1 (some .int) 0 14 G κ sz [.int a0] post := by
  refine c_go (by decide) (Nat.le_of_ble_eq_true rfl) ?_
  intro p e s m below meth c ls A hF hr hlk hin hAe hH hA hE hl
  unfold cB
  rw [hAe]
  clear hAe
  have hF : FX p m c cX11_upper 1 s _ RX11 D t := hF
  have hx := hF.1.1
  have hb := hF.1.2.1
  have hl : lv_has ls 1 [(0, .int a0)] := hl
  unfold F_X11_upper at hw
  refine lv_iload_n hx hb dX11_upper_0 rfl (lv_at hl 0 rfl) ?_
  refine lv_bipush (v := 97) hx hb dX11_upper_1 (by decide) ?_
  obtain ⟨K3, hK4, hw⟩ := jc_open hw
  refine cw_join (K := K3) 20 (fun (x1 : Int32) => []) (fun (x1 : Int32) => [.int x1]) hl hH (fun x1 κ2 ls H locs cells slots hl hw hH => ?_) (fun jn5 => ?_)
  · have hw := hK4 x1 κ2 hw
    have hl : lv_has ls 1 [] := hl
    exact cw_reti hF hH ⟨rfl, rfl⟩ hr rfl hlk dX11_upper_20 hw
  · skip
    obtain ⟨K8, hK9, hw⟩ := jc_open hw
    refine cw_join (K := K8) 19 (fun (x6 : Unit) => [(0, .int a0)]) (fun (x6 : Unit) => []) hl hH (fun x6 κ7 ls H locs cells slots hl hw hH => ?_) (fun jn10 => ?_)
    · have hw := hK9 x6 κ7 hw
      have hl : lv_has ls 1 [(0, .int a0)] := hl
      refine lv_iload_n hx hb dX11_upper_19 rfl (lv_at hl 0 rfl) ?_
      have hl : lv_has ls 1 [] := lv_sub hl [] rfl
      exact jn5 a0 κ7 ls _ _ _ _ hl hw hH
    · skip
      refine w_icmp_lt (tgt := 19) hF dX11_upper_3 rfl hw (fun hw => ?_) (fun hw => ?_)
      · exact jn10 () κ ls _ _ _ _ hl hw hH
      · refine lv_iload_n hx hb dX11_upper_6 rfl (lv_at hl 0 rfl) ?_
        refine lv_bipush (v := 122) hx hb dX11_upper_7 (by decide) ?_
        refine w_icmp_gt (tgt := 19) hF dX11_upper_9 rfl hw (fun hw => ?_) (fun hw => ?_)
        · exact jn10 () κ ls _ _ _ _ hl hw hH
        · refine lv_iload_n hx hb dX11_upper_12 rfl (lv_at hl 0 rfl) ?_
          refine lv_bipush (v := 32) hx hb dX11_upper_13 (by decide) ?_
          refine lv_isub hx hb dX11_upper_15 ?_
          refine w_nmi hw (fun z11 hw => ?_)
          refine lv_goto (tgt := 20) hx hb dX11_upper_16 rfl ?_
          have hl : lv_has ls 1 [] := lv_sub hl [] rfl
          exact jn5 z11 κ ls _ _ _ _ hl hw hH
set_option maxRecDepth 100000 in
def F_X4_isBehind (G : GE) (h : Nat) (a1 : Option Nat) (a2 : Int32) (post : Int32 → CS → Prop) (κ : CS) : Prop := (h ∈ sL κ.1 ∧ sK κ.1 h = 5) ∧ ∀ z1 : Int32, z1 = sI κ.1 h 6 → ∀ z3 : Int32, z3.toInt = min z1.toInt a2.toInt → lc (fun (K6 : Int32 → CS → Prop) (x4 : Int32) (κ5 : CS) => jc (fun (K10 : Unit → CS → Prop) => ((z3.toInt ≤ x4.toInt) → K10 () κ5) ∧ ((x4.toInt < z3.toInt) → (h ∈ sL κ5.1 ∧ sK κ5.1 h = 5) ∧ ∀ z19 : Option Nat, z19 = sP κ5.1 h 5 → ∃ n : Nat, AL G κ5 z19 n ∧ ∀ z20 : Int32, z20 = nI n → ((z20.toInt ≤ x4.toInt) → K10 () κ5) ∧ ((x4.toInt < z20.toInt) → ∃ n : Nat, AL G κ5 a1 n ∧ ∀ z21 : Int32, z21 = nI n → ((z21.toInt ≤ x4.toInt) → K10 () κ5) ∧ ((x4.toInt < z21.toInt) → (h ∈ sL κ5.1 ∧ sK κ5.1 h = 5) ∧ ∀ z22 : Option Nat, z22 = sP κ5.1 h 5 → ∃ (f : Nat → Int32) (n : Nat), BA G κ5 z22 f n ∧ (0 ≤ x4.toInt ∧ x4.toInt < (n : Int)) ∧ ∀ z23 : Int32, z23 = f x4.toInt.toNat → F_X11_upper G z23 (fun (z25 : Int32) (κ24 : CS) => ∃ (f : Nat → Int32) (n : Nat), BA G κ24 a1 f n ∧ (0 ≤ x4.toInt ∧ x4.toInt < (n : Int)) ∧ ∀ z26 : Int32, z26 = f x4.toInt.toNat → F_X11_upper G z26 (fun (z28 : Int32) (κ27 : CS) => ∀ z29 : Int32, z29 = z25 - z28 → ((z29.toInt = 0) → ∀ z30 : Int32, z30 = x4 + 1 → K6 z30 κ27) ∧ ((¬ z29.toInt = 0) → jc (fun (K33 : Int32 → CS → Prop) => ((z29.toInt ≤ 0) → K33 0 κ27) ∧ ((0 < z29.toInt) → K33 1 κ27)) (fun (x31 : Int32) (κ32 : CS) => (0 ≤ x31.toInt ∧ x31.toInt ≤ 1) ∧ post x31 κ32))) κ24) κ5)))) (fun (x8 : Unit) (κ9 : CS) => (h ∈ sL κ9.1 ∧ sK κ9.1 h = 5) ∧ ∀ z13 : Int32, z13 = sI κ9.1 h 6 → jc (fun (K16 : Int32 → CS → Prop) => ((z13.toInt ≤ a2.toInt) → K16 0 κ9) ∧ ((a2.toInt < z13.toInt) → K16 1 κ9)) (fun (x14 : Int32) (κ15 : CS) => (0 ≤ x14.toInt ∧ x14.toInt ≤ 1) ∧ post x14 κ15))) 0 κ
theorem dX4_isBehind_0 : decode cX4_isBehind 0 = .ok (.aload_n 0, 1) := by decide +kernel
theorem dX4_isBehind_1 : decode cX4_isBehind 1 = .ok (.getfield 64, 3) := by decide +kernel
theorem dX4_isBehind_4 : decode cX4_isBehind 4 = .ok (.iload_n 2, 1) := by decide +kernel
theorem dX4_isBehind_5 : decode cX4_isBehind 5 = .ok (.invokestatic 67, 3) := by decide +kernel
theorem dX4_isBehind_8 : decode cX4_isBehind 8 = .ok (.istore_n 3, 1) := by decide +kernel
theorem dX4_isBehind_9 : decode cX4_isBehind 9 = .ok (.iconst 0, 1) := by decide +kernel
theorem dX4_isBehind_10 : decode cX4_isBehind 10 = .ok (.istore 4, 2) := by decide +kernel
theorem dX4_isBehind_12 : decode cX4_isBehind 12 = .ok (.iload 4, 2) := by decide +kernel
theorem dX4_isBehind_14 : decode cX4_isBehind 14 = .ok (.iload_n 3, 1) := by decide +kernel
theorem dX4_isBehind_15 : decode cX4_isBehind 15 = .ok (.if_icmp .ge 62, 3) := by decide +kernel
theorem dX4_isBehind_18 : decode cX4_isBehind 18 = .ok (.iload 4, 2) := by decide +kernel
theorem dX4_isBehind_20 : decode cX4_isBehind 20 = .ok (.aload_n 0, 1) := by decide +kernel
theorem dX4_isBehind_21 : decode cX4_isBehind 21 = .ok (.getfield 15, 3) := by decide +kernel
theorem dX4_isBehind_24 : decode cX4_isBehind 24 = .ok (.arraylength, 1) := by decide +kernel
theorem dX4_isBehind_25 : decode cX4_isBehind 25 = .ok (.if_icmp .ge 52, 3) := by decide +kernel
theorem dX4_isBehind_28 : decode cX4_isBehind 28 = .ok (.iload 4, 2) := by decide +kernel
theorem dX4_isBehind_30 : decode cX4_isBehind 30 = .ok (.aload_n 1, 1) := by decide +kernel
theorem dX4_isBehind_31 : decode cX4_isBehind 31 = .ok (.arraylength, 1) := by decide +kernel
theorem dX4_isBehind_32 : decode cX4_isBehind 32 = .ok (.if_icmp .ge 45, 3) := by decide +kernel
theorem dX4_isBehind_35 : decode cX4_isBehind 35 = .ok (.aload_n 0, 1) := by decide +kernel
theorem dX4_isBehind_36 : decode cX4_isBehind 36 = .ok (.getfield 15, 3) := by decide +kernel
theorem dX4_isBehind_39 : decode cX4_isBehind 39 = .ok (.iload 4, 2) := by decide +kernel
theorem dX4_isBehind_41 : decode cX4_isBehind 41 = .ok (.baload, 1) := by decide +kernel
theorem dX4_isBehind_42 : decode cX4_isBehind 42 = .ok (.invokestatic 73, 3) := by decide +kernel
theorem dX4_isBehind_45 : decode cX4_isBehind 45 = .ok (.aload_n 1, 1) := by decide +kernel
theorem dX4_isBehind_46 : decode cX4_isBehind 46 = .ok (.iload 4, 2) := by decide +kernel
theorem dX4_isBehind_48 : decode cX4_isBehind 48 = .ok (.baload, 1) := by decide +kernel
theorem dX4_isBehind_49 : decode cX4_isBehind 49 = .ok (.invokestatic 73, 3) := by decide +kernel
theorem dX4_isBehind_52 : decode cX4_isBehind 52 = .ok (.isub, 1) := by decide +kernel
theorem dX4_isBehind_53 : decode cX4_isBehind 53 = .ok (.istore 5, 2) := by decide +kernel
theorem dX4_isBehind_55 : decode cX4_isBehind 55 = .ok (.iload 5, 2) := by decide +kernel
theorem dX4_isBehind_57 : decode cX4_isBehind 57 = .ok (.ifCond .eq 14, 3) := by decide +kernel
theorem dX4_isBehind_60 : decode cX4_isBehind 60 = .ok (.iload 5, 2) := by decide +kernel
theorem dX4_isBehind_62 : decode cX4_isBehind 62 = .ok (.ifCond .le 7, 3) := by decide +kernel
theorem dX4_isBehind_65 : decode cX4_isBehind 65 = .ok (.iconst 1, 1) := by decide +kernel
theorem dX4_isBehind_66 : decode cX4_isBehind 66 = .ok (.goto 4, 3) := by decide +kernel
theorem dX4_isBehind_69 : decode cX4_isBehind 69 = .ok (.iconst 0, 1) := by decide +kernel
theorem dX4_isBehind_70 : decode cX4_isBehind 70 = .ok (.ireturn, 1) := by decide +kernel
theorem dX4_isBehind_71 : decode cX4_isBehind 71 = .ok (.iinc 4 1, 3) := by decide +kernel
theorem dX4_isBehind_74 : decode cX4_isBehind 74 = .ok (.goto (-62), 3) := by decide +kernel
theorem dX4_isBehind_77 : decode cX4_isBehind 77 = .ok (.aload_n 0, 1) := by decide +kernel
theorem dX4_isBehind_78 : decode cX4_isBehind 78 = .ok (.getfield 64, 3) := by decide +kernel
theorem dX4_isBehind_81 : decode cX4_isBehind 81 = .ok (.iload_n 2, 1) := by decide +kernel
theorem dX4_isBehind_82 : decode cX4_isBehind 82 = .ok (.if_icmp .le 7, 3) := by decide +kernel
theorem dX4_isBehind_85 : decode cX4_isBehind 85 = .ok (.iconst 1, 1) := by decide +kernel
theorem dX4_isBehind_86 : decode cX4_isBehind 86 = .ok (.goto 4, 3) := by decide +kernel
theorem dX4_isBehind_89 : decode cX4_isBehind 89 = .ok (.iconst 0, 1) := by decide +kernel
theorem dX4_isBehind_90 : decode cX4_isBehind 90 = .ok (.ireturn, 1) := by decide +kernel
set_option maxRecDepth 100000 in
set_option maxHeartbeats 4000000 in
theorem c_X4_isBehind (l : Launch) (D : va_G) (t : Nat → ClassId) (G : GE) (κ : CS) (h : Nat) (a1 : Option Nat) (a2 : Int32) (post : Int32 → CS → Prop) (hw : F_X4_isBehind G h a1 a2 post κ) (sz : Nat) : CMi l D t yX4_isBehind cX4_isBehind 6 (some .boolean) 1 40 G κ sz [.ref h, va_rf a1, .int a2] post := by
  refine c_go (by decide) (by cases a1 <;> exact Nat.le_of_ble_eq_true rfl) ?_
  intro p e s m below meth c ls A hF hr hlk hin hAe hH hA hE hl
  unfold cB
  rw [hAe]
  clear hAe
  have hF : FX p m c cX4_isBehind 6 s _ RX4 D t := hF
  have hx := hF.1.1
  have hb := hF.1.2.1
  have hl : lv_has ls 6 [(0, .ref h), (1, va_rf a1), (2, .int a2)] := (by have h2 := hl; clear hw; revert h2; cases a1 <;> exact id)
  unfold F_X4_isBehind at hw
  refine lv_aload_n hx hb dX4_isBehind_0 rfl (lv_at hl 0 rfl) ?_
  refine cw_getIr (a := h) hF hH fk_X4_64 dX4_isBehind_1 hw (fun z1 hw => ?_)
  refine lv_iload_n hx hb dX4_isBehind_4 rfl (lv_at hl 2 rfl) ?_
  refine cw_mmin hF hH hl.1 (wc_30 8 rfl) (wc_10 25 rfl) (wc_5 5 rfl) (wc_10 24 rfl) (Nat.le_of_ble_eq_true rfl) (Nat.le_of_ble_eq_true rfl) dX4_isBehind_5 hw (fun z3 hw => ?_)
  refine lv_istore_n (lv' := [(3, .int z3), (0, .ref h), (1, va_rf a1), (2, .int a2)]) hx hb dX4_isBehind_8 rfl hl (by decide) rfl (fun ls hl => ?_)
  refine lv_iconst (v := 0) hx hb dX4_isBehind_9 (by decide) ?_
  refine lv_istore (lv' := [(4, .int 0), (3, .int z3), (0, .ref h), (1, va_rf a1), (2, .int a2)]) hx hb dX4_isBehind_10 hl (by decide) rfl (fun ls hl => ?_)
  have hl : lv_has ls 6 [(4, .int 0), (3, .int z3), (2, .int a2), (1, va_rf a1), (0, .ref h)] := lv_sub hl [0, 1, 4, 3, 2] rfl
  refine cw_loop (β := Int32) (fun x4 => [(4, .int x4), (3, .int z3), (2, .int a2), (1, va_rf a1), (0, .ref h)]) 0 hl hw hH (fun K6 x4 κ5 ls H locs cells slots hl hw hH ih7 => ?_)
  have hl : lv_has ls 6 [(4, .int x4), (3, .int z3), (2, .int a2), (1, va_rf a1), (0, .ref h)] := hl
  refine lv_iload hx hb dX4_isBehind_12 (lv_at hl 0 rfl) ?_
  refine lv_iload_n hx hb dX4_isBehind_14 rfl (lv_at hl 1 rfl) ?_
  obtain ⟨K10, hK11, hw⟩ := jc_open hw
  refine cw_join (K := K10) 77 (fun (x8 : Unit) => [(2, .int a2), (0, .ref h)]) (fun (x8 : Unit) => []) hl hH (fun x8 κ9 ls H locs cells slots hl hw hH => ?_) (fun jn12 => ?_)
  · have hw := hK11 x8 κ9 hw
    have hl : lv_has ls 6 [(2, .int a2), (0, .ref h)] := hl
    refine lv_aload_n hx hb dX4_isBehind_77 rfl (lv_at hl 1 rfl) ?_
    refine cw_getIr (a := h) hF hH fk_X4_64 dX4_isBehind_78 hw (fun z13 hw => ?_)
    refine lv_iload_n hx hb dX4_isBehind_81 rfl (lv_at hl 0 rfl) ?_
    obtain ⟨K16, hK17, hw⟩ := jc_open hw
    refine cw_join (K := K16) 90 (fun (x14 : Int32) => []) (fun (x14 : Int32) => [.int x14]) hl hH (fun x14 κ15 ls H locs cells slots hl hw hH => ?_) (fun jn18 => ?_)
    · have hw := hK17 x14 κ15 hw
      have hl : lv_has ls 6 [] := hl
      exact cw_retz hF hH ⟨rfl, rfl⟩ hr hlk dX4_isBehind_90 hw
    · skip
      refine w_icmp_le (tgt := 89) hF dX4_isBehind_82 rfl hw (fun hw => ?_) (fun hw => ?_)
      · refine lv_iconst (v := 0) hx hb dX4_isBehind_89 (by decide) ?_
        have hl : lv_has ls 6 [] := lv_sub hl [] rfl
        exact jn18 0 κ9 ls _ _ _ _ hl hw hH
      · refine lv_iconst (v := 1) hx hb dX4_isBehind_85 (by decide) ?_
        refine lv_goto (tgt := 90) hx hb dX4_isBehind_86 rfl ?_
        have hl : lv_has ls 6 [] := lv_sub hl [] rfl
        exact jn18 1 κ9 ls _ _ _ _ hl hw hH
  · skip
    refine w_icmp_ge (tgt := 77) hF dX4_isBehind_15 rfl hw (fun hw => ?_) (fun hw => ?_)
    · have hl : lv_has ls 6 [(2, .int a2), (0, .ref h)] := lv_sub hl [2, 4] rfl
      exact jn12 () κ5 ls _ _ _ _ hl hw hH
    · refine lv_iload hx hb dX4_isBehind_18 (lv_at hl 0 rfl) ?_
      refine lv_aload_n hx hb dX4_isBehind_20 rfl (lv_at hl 4 rfl) ?_
      refine cw_getPr (a := h) hF hH fk_X4_15 dX4_isBehind_21 hw (fun z19 hw => ?_)
      refine cw_alen (q := z19) hF hH hE dX4_isBehind_24 hw (fun z20 hw => ?_)
      refine w_icmp_ge (tgt := 77) hF dX4_isBehind_25 rfl hw (fun hw => ?_) (fun hw => ?_)
      · have hl : lv_has ls 6 [(2, .int a2), (0, .ref h)] := lv_sub hl [2, 4] rfl
        exact jn12 () κ5 ls _ _ _ _ hl hw hH
      · refine lv_iload hx hb dX4_isBehind_28 (lv_at hl 0 rfl) ?_
        refine w_aloadq_n hF dX4_isBehind_30 rfl (lv_at hl 3 rfl) ?_
        refine cw_alen (q := a1) hF hH hE dX4_isBehind_31 hw (fun z21 hw => ?_)
        refine w_icmp_ge (tgt := 77) hF dX4_isBehind_32 rfl hw (fun hw => ?_) (fun hw => ?_)
        · have hl : lv_has ls 6 [(2, .int a2), (0, .ref h)] := lv_sub hl [2, 4] rfl
          exact jn12 () κ5 ls _ _ _ _ hl hw hH
        · refine lv_aload_n hx hb dX4_isBehind_35 rfl (lv_at hl 4 rfl) ?_
          refine cw_getPr (a := h) hF hH fk_X4_15 dX4_isBehind_36 hw (fun z22 hw => ?_)
          refine lv_iload hx hb dX4_isBehind_39 (lv_at hl 0 rfl) ?_
          refine cw_bald (q := z22) hF hH hE dX4_isBehind_41 hw (fun z23 hw => ?_)
          refine cw_cSiN (As := [.int z23]) (rest := []) hF hH hA hE msn_X4_73 (fun sz => c_X11_upper l D t G _ z23 _ hw sz) dX4_isBehind_42 ⟨Nat.le_of_ble_eq_true rfl, Nat.le_of_ble_eq_true rfl⟩ rfl hl.1 (Nat.le_of_ble_eq_true rfl) rfl (fun z25 κ24 H locs cells slots hw hH => ?_)
          refine w_aloadq_n hF dX4_isBehind_45 rfl (lv_at hl 3 rfl) ?_
          refine lv_iload hx hb dX4_isBehind_46 (lv_at hl 0 rfl) ?_
          refine cw_bald (q := a1) hF hH hE dX4_isBehind_48 hw (fun z26 hw => ?_)
          refine cw_cSiN (As := [.int z26]) (rest := [.int z25]) hF hH hA hE msn_X4_73 (fun sz => c_X11_upper l D t G _ z26 _ hw sz) dX4_isBehind_49 ⟨Nat.le_of_ble_eq_true rfl, Nat.le_of_ble_eq_true rfl⟩ rfl hl.1 (Nat.le_of_ble_eq_true rfl) rfl (fun z28 κ27 H locs cells slots hw hH => ?_)
          refine lv_isub hx hb dX4_isBehind_52 ?_
          refine w_nmi hw (fun z29 hw => ?_)
          refine lv_istore (lv' := [(5, .int z29), (4, .int x4), (3, .int z3), (2, .int a2), (1, va_rf a1), (0, .ref h)]) hx hb dX4_isBehind_53 hl (by decide) rfl (fun ls hl => ?_)
          refine lv_iload hx hb dX4_isBehind_55 (lv_at hl 0 rfl) ?_
          refine w_if_eq (tgt := 71) hF dX4_isBehind_57 rfl hw (fun hw => ?_) (fun hw => ?_)
          · obtain ⟨z30, ez30⟩ : ∃ z : Int32, z = x4 + 1 := ⟨_, rfl⟩
            have hw := hw z30 ez30
            refine lv_iinc (lv' := [(4, .int z30), (5, .int z29), (3, .int z3), (2, .int a2), (1, va_rf a1), (0, .ref h)]) (k := 1) (v := z30) hx hb dX4_isBehind_71 hl rfl ez30.symm (by decide) rfl (fun ls hl => ?_)
            refine lv_goto (tgt := 12) hx hb dX4_isBehind_74 rfl ?_
            have hl : lv_has ls 6 [(4, .int z30), (3, .int z3), (2, .int a2), (1, va_rf a1), (0, .ref h)] := lv_sub hl [0, 2, 3, 4, 5] rfl
            exact ih7 z30 κ27 ls _ _ _ _ hl hw hH
          · refine lv_iload hx hb dX4_isBehind_60 (lv_at hl 0 rfl) ?_
            obtain ⟨K33, hK34, hw⟩ := jc_open hw
            refine cw_join (K := K33) 70 (fun (x31 : Int32) => []) (fun (x31 : Int32) => [.int x31]) hl hH (fun x31 κ32 ls H locs cells slots hl hw hH => ?_) (fun jn35 => ?_)
            · have hw := hK34 x31 κ32 hw
              have hl : lv_has ls 6 [] := hl
              exact cw_retz hF hH ⟨rfl, rfl⟩ hr hlk dX4_isBehind_70 hw
            · skip
              refine w_if_le (tgt := 69) hF dX4_isBehind_62 rfl hw (fun hw => ?_) (fun hw => ?_)
              · refine lv_iconst (v := 0) hx hb dX4_isBehind_69 (by decide) ?_
                have hl : lv_has ls 6 [] := lv_sub hl [] rfl
                exact jn35 0 κ27 ls _ _ _ _ hl hw hH
              · refine lv_iconst (v := 1) hx hb dX4_isBehind_65 (by decide) ?_
                refine lv_goto (tgt := 70) hx hb dX4_isBehind_66 rfl ?_
                have hl : lv_has ls 6 [] := lv_sub hl [] rfl
                exact jn35 1 κ27 ls _ _ _ _ hl hw hH
set_option maxRecDepth 100000 in
def F_X4_copyFrom (G : GE) (h : Nat) (a1 : Option Nat) (post : CS → Prop) (κ : CS) : Prop := ∃ b : Nat, a1 = some b ∧ (b ∈ sL κ.1 ∧ sK κ.1 b = 5) ∧ ∀ z1 : Int32, z1 = sI κ.1 b 1 → (0 ≤ z1.toInt ∧ z1.toInt ≤ 1) ∧ (h ∈ sL κ.1 ∧ sK κ.1 h = 5) ∧ ∀ κ2 : CS, κ2 = (h_uI κ.1 h 1 z1, κ.2) → ∃ b : Nat, a1 = some b ∧ (b ∈ sL κ2.1 ∧ sK κ2.1 b = 5) ∧ ∀ z3 : Int32, z3 = sI κ2.1 b 2 → (0 ≤ z3.toInt ∧ z3.toInt ≤ 1) ∧ (h ∈ sL κ2.1 ∧ sK κ2.1 h = 5) ∧ ∀ κ4 : CS, κ4 = (h_uI κ2.1 h 2 z3, κ2.2) → (0 ≤ (0 : Int32).toInt ∧ (0 : Int32).toInt ≤ 1) ∧ (h ∈ sL κ4.1 ∧ sK κ4.1 h = 5) ∧ ∀ κ5 : CS, κ5 = (h_uI κ4.1 h 3 0, κ4.2) → ∃ b : Nat, a1 = some b ∧ (b ∈ sL κ5.1 ∧ sK κ5.1 b = 5) ∧ ∀ z6 : Int32, z6 = sI κ5.1 b 4 → (h ∈ sL κ5.1 ∧ sK κ5.1 h = 5) ∧ ∀ κ7 : CS, κ7 = (h_uI κ5.1 h 4 z6, κ5.2) → ∃ b : Nat, a1 = some b ∧ (b ∈ sL κ7.1 ∧ sK κ7.1 b = 5) ∧ ∀ z8 : Int32, z8 = sI κ7.1 b 6 → (h ∈ sL κ7.1 ∧ sK κ7.1 h = 5) ∧ ∀ κ9 : CS, κ9 = (h_uI κ7.1 h 6 z8, κ7.2) → ∃ b : Nat, a1 = some b ∧ (b ∈ sL κ9.1 ∧ sK κ9.1 b = 5) ∧ ∀ z10 : Option Nat, z10 = sP κ9.1 b 5 → (h ∈ sL κ9.1 ∧ sK κ9.1 h = 5) ∧ ∀ z11 : Option Nat, z11 = sP κ9.1 h 5 → (h ∈ sL κ9.1 ∧ sK κ9.1 h = 5) ∧ ∀ z12 : Option Nat, z12 = sP κ9.1 h 5 → ∃ n : Nat, AL G κ9 z12 n ∧ ∀ z13 : Int32, z13 = nI n → ∃ u0 : Nat, z10 = some u0 ∧ ∃ u1 : Nat, z11 = some u1 ∧ (u0 ∈ sL κ9.1 ∧ sK κ9.1 u0 = 20) ∧ (u1 ∈ sL κ9.1 ∧ sK κ9.1 u1 = 20) ∧ (0 ≤ (0 : Int32).toInt ∧ 0 ≤ (0 : Int32).toInt ∧ 0 ≤ z13.toInt ∧ (0 : Int32).toInt + z13.toInt ≤ (sN κ9.1 u0 : Int) ∧ (0 : Int32).toInt + z13.toInt ≤ (sN κ9.1 u1 : Int)) ∧ (∀ j : Nat, j < z13.toInt.toNat → -128 ≤ (sI κ9.1 u0 ((0 : Int32).toInt.toNat + j)).toInt ∧ (sI κ9.1 u0 ((0 : Int32).toInt.toNat + j)).toInt ≤ 127) ∧ ∀ κ14 : CS, κ14 = (h_cpI κ9.1 u0 u1 (0 : Int32).toInt.toNat (0 : Int32).toInt.toNat z13.toInt.toNat, κ9.2) → ∃ b : Nat, a1 = some b ∧ (b ∈ sL κ14.1 ∧ sK κ14.1 b = 5) ∧ ∀ z15 : Int32, z15 = sI κ14.1 b 7 → (h ∈ sL κ14.1 ∧ sK κ14.1 h = 5) ∧ ∀ κ16 : CS, κ16 = (h_uI κ14.1 h 7 z15, κ14.2) → ∃ b : Nat, a1 = some b ∧ (b ∈ sL κ16.1 ∧ sK κ16.1 b = 5) ∧ ∀ z17 : Int64, z17 = sJ κ16.1 b 8 → (h ∈ sL κ16.1 ∧ sK κ16.1 h = 5) ∧ ∀ κ18 : CS, κ18 = (h_uJ κ16.1 h 8 z17, κ16.2) → ∃ b : Nat, a1 = some b ∧ (b ∈ sL κ18.1 ∧ sK κ18.1 b = 5) ∧ ∀ z19 : Int64, z19 = sJ κ18.1 b 9 → (h ∈ sL κ18.1 ∧ sK κ18.1 h = 5) ∧ ∀ κ20 : CS, κ20 = (h_uJ κ18.1 h 9 z19, κ18.2) → ∃ b : Nat, a1 = some b ∧ (b ∈ sL κ20.1 ∧ sK κ20.1 b = 5) ∧ ∀ z21 : Int64, z21 = sJ κ20.1 b 10 → (h ∈ sL κ20.1 ∧ sK κ20.1 h = 5) ∧ ∀ κ22 : CS, κ22 = (h_uJ κ20.1 h 10 z21, κ20.2) → ∃ b : Nat, a1 = some b ∧ (b ∈ sL κ22.1 ∧ sK κ22.1 b = 5) ∧ ∀ z23 : Int64, z23 = sJ κ22.1 b 11 → (h ∈ sL κ22.1 ∧ sK κ22.1 h = 5) ∧ ∀ κ24 : CS, κ24 = (h_uJ κ22.1 h 11 z23, κ22.2) → ∃ b : Nat, a1 = some b ∧ (b ∈ sL κ24.1 ∧ sK κ24.1 b = 5) ∧ ∀ z25 : Int32, z25 = sI κ24.1 b 12 → (h ∈ sL κ24.1 ∧ sK κ24.1 h = 5) ∧ ∀ κ26 : CS, κ26 = (h_uI κ24.1 h 12 z25, κ24.2) → (h ∈ sL κ26.1 ∧ sK κ26.1 h = 5) ∧ ∀ z27 : Option Nat, z27 = sP κ26.1 h 13 → ∃ n : Nat, AL G κ26 z27 n ∧ ∀ z28 : Int32, z28 = nI n → (h ∈ sL κ26.1 ∧ sK κ26.1 h = 5) ∧ ∀ z29 : Int32, z29 = sI κ26.1 h 12 → jc (fun (K32 : Unit → CS → Prop) => ((z29.toInt ≤ z28.toInt) → K32 () κ26) ∧ ((z28.toInt < z29.toInt) → ∃ b : Nat, a1 = some b ∧ (b ∈ sL κ26.1 ∧ sK κ26.1 b = 5) ∧ ∀ z39 : Option Nat, z39 = sP κ26.1 b 13 → ∃ n : Nat, AL G κ26 z39 n ∧ ∀ z40 : Int32, z40 = nI n → (0 ≤ z40.toInt ∧ z40.toInt ≤ 1000000) ∧ (z40.toInt.toNat + 12 ≤ κ26.2) ∧ ∀ o41 : Nat, o41 ∉ sL κ26.1 → ∀ κ42 : CS, κ42 = (h_uN κ26.1 o41 20 z40.toInt.toNat, κ26.2 - (z40.toInt.toNat + 12)) → (h ∈ sL κ42.1 ∧ sK κ42.1 h = 5) ∧ ∀ κ43 : CS, κ43 = (h_uP κ42.1 h 13 (some o41), κ42.2) → K32 () κ43)) (fun (x30 : Unit) (κ31 : CS) => ∃ b : Nat, a1 = some b ∧ (b ∈ sL κ31.1 ∧ sK κ31.1 b = 5) ∧ ∀ z35 : Option Nat, z35 = sP κ31.1 b 13 → (h ∈ sL κ31.1 ∧ sK κ31.1 h = 5) ∧ ∀ z36 : Option Nat, z36 = sP κ31.1 h 13 → (h ∈ sL κ31.1 ∧ sK κ31.1 h = 5) ∧ ∀ z37 : Int32, z37 = sI κ31.1 h 12 → ∃ u0 : Nat, z35 = some u0 ∧ ∃ u1 : Nat, z36 = some u1 ∧ (u0 ∈ sL κ31.1 ∧ sK κ31.1 u0 = 20) ∧ (u1 ∈ sL κ31.1 ∧ sK κ31.1 u1 = 20) ∧ (0 ≤ (0 : Int32).toInt ∧ 0 ≤ (0 : Int32).toInt ∧ 0 ≤ z37.toInt ∧ (0 : Int32).toInt + z37.toInt ≤ (sN κ31.1 u0 : Int) ∧ (0 : Int32).toInt + z37.toInt ≤ (sN κ31.1 u1 : Int)) ∧ (∀ j : Nat, j < z37.toInt.toNat → -128 ≤ (sI κ31.1 u0 ((0 : Int32).toInt.toNat + j)).toInt ∧ (sI κ31.1 u0 ((0 : Int32).toInt.toNat + j)).toInt ≤ 127) ∧ ∀ κ38 : CS, κ38 = (h_cpI κ31.1 u0 u1 (0 : Int32).toInt.toNat (0 : Int32).toInt.toNat z37.toInt.toNat, κ31.2) → post κ38)
theorem dX4_copyFrom_0 : decode cX4_copyFrom 0 = .ok (.aload_n 0, 1) := by decide +kernel
theorem dX4_copyFrom_1 : decode cX4_copyFrom 1 = .ok (.aload_n 1, 1) := by decide +kernel
theorem dX4_copyFrom_2 : decode cX4_copyFrom 2 = .ok (.getfield 77, 3) := by decide +kernel
theorem dX4_copyFrom_5 : decode cX4_copyFrom 5 = .ok (.putfield 77, 3) := by decide +kernel
theorem dX4_copyFrom_8 : decode cX4_copyFrom 8 = .ok (.aload_n 0, 1) := by decide +kernel
theorem dX4_copyFrom_9 : decode cX4_copyFrom 9 = .ok (.aload_n 1, 1) := by decide +kernel
theorem dX4_copyFrom_10 : decode cX4_copyFrom 10 = .ok (.getfield 28, 3) := by decide +kernel
theorem dX4_copyFrom_13 : decode cX4_copyFrom 13 = .ok (.putfield 28, 3) := by decide +kernel
theorem dX4_copyFrom_16 : decode cX4_copyFrom 16 = .ok (.aload_n 0, 1) := by decide +kernel
theorem dX4_copyFrom_17 : decode cX4_copyFrom 17 = .ok (.iconst 0, 1) := by decide +kernel
theorem dX4_copyFrom_18 : decode cX4_copyFrom 18 = .ok (.putfield 61, 3) := by decide +kernel
theorem dX4_copyFrom_21 : decode cX4_copyFrom 21 = .ok (.aload_n 0, 1) := by decide +kernel
theorem dX4_copyFrom_22 : decode cX4_copyFrom 22 = .ok (.aload_n 1, 1) := by decide +kernel
theorem dX4_copyFrom_23 : decode cX4_copyFrom 23 = .ok (.getfield 9, 3) := by decide +kernel
theorem dX4_copyFrom_26 : decode cX4_copyFrom 26 = .ok (.putfield 9, 3) := by decide +kernel
theorem dX4_copyFrom_29 : decode cX4_copyFrom 29 = .ok (.aload_n 0, 1) := by decide +kernel
theorem dX4_copyFrom_30 : decode cX4_copyFrom 30 = .ok (.aload_n 1, 1) := by decide +kernel
theorem dX4_copyFrom_31 : decode cX4_copyFrom 31 = .ok (.getfield 64, 3) := by decide +kernel
theorem dX4_copyFrom_34 : decode cX4_copyFrom 34 = .ok (.putfield 64, 3) := by decide +kernel
theorem dX4_copyFrom_37 : decode cX4_copyFrom 37 = .ok (.aload_n 1, 1) := by decide +kernel
theorem dX4_copyFrom_38 : decode cX4_copyFrom 38 = .ok (.getfield 15, 3) := by decide +kernel
theorem dX4_copyFrom_41 : decode cX4_copyFrom 41 = .ok (.iconst 0, 1) := by decide +kernel
theorem dX4_copyFrom_42 : decode cX4_copyFrom 42 = .ok (.aload_n 0, 1) := by decide +kernel
theorem dX4_copyFrom_43 : decode cX4_copyFrom 43 = .ok (.getfield 15, 3) := by decide +kernel
theorem dX4_copyFrom_46 : decode cX4_copyFrom 46 = .ok (.iconst 0, 1) := by decide +kernel
theorem dX4_copyFrom_47 : decode cX4_copyFrom 47 = .ok (.aload_n 0, 1) := by decide +kernel
theorem dX4_copyFrom_48 : decode cX4_copyFrom 48 = .ok (.getfield 15, 3) := by decide +kernel
theorem dX4_copyFrom_51 : decode cX4_copyFrom 51 = .ok (.arraylength, 1) := by decide +kernel
theorem dX4_copyFrom_52 : decode cX4_copyFrom 52 = .ok (.invokestatic 80, 3) := by decide +kernel
theorem dX4_copyFrom_55 : decode cX4_copyFrom 55 = .ok (.aload_n 0, 1) := by decide +kernel
theorem dX4_copyFrom_56 : decode cX4_copyFrom 56 = .ok (.aload_n 1, 1) := by decide +kernel
theorem dX4_copyFrom_57 : decode cX4_copyFrom 57 = .ok (.getfield 25, 3) := by decide +kernel
theorem dX4_copyFrom_60 : decode cX4_copyFrom 60 = .ok (.putfield 25, 3) := by decide +kernel
theorem dX4_copyFrom_63 : decode cX4_copyFrom 63 = .ok (.aload_n 0, 1) := by decide +kernel
theorem dX4_copyFrom_64 : decode cX4_copyFrom 64 = .ok (.aload_n 1, 1) := by decide +kernel
theorem dX4_copyFrom_65 : decode cX4_copyFrom 65 = .ok (.getfield 35, 3) := by decide +kernel
theorem dX4_copyFrom_68 : decode cX4_copyFrom 68 = .ok (.putfield 35, 3) := by decide +kernel
theorem dX4_copyFrom_71 : decode cX4_copyFrom 71 = .ok (.aload_n 0, 1) := by decide +kernel
theorem dX4_copyFrom_72 : decode cX4_copyFrom 72 = .ok (.aload_n 1, 1) := by decide +kernel
theorem dX4_copyFrom_73 : decode cX4_copyFrom 73 = .ok (.getfield 45, 3) := by decide +kernel
theorem dX4_copyFrom_76 : decode cX4_copyFrom 76 = .ok (.putfield 45, 3) := by decide +kernel
theorem dX4_copyFrom_79 : decode cX4_copyFrom 79 = .ok (.aload_n 0, 1) := by decide +kernel
theorem dX4_copyFrom_80 : decode cX4_copyFrom 80 = .ok (.aload_n 1, 1) := by decide +kernel
theorem dX4_copyFrom_81 : decode cX4_copyFrom 81 = .ok (.getfield 48, 3) := by decide +kernel
theorem dX4_copyFrom_84 : decode cX4_copyFrom 84 = .ok (.putfield 48, 3) := by decide +kernel
theorem dX4_copyFrom_87 : decode cX4_copyFrom 87 = .ok (.aload_n 0, 1) := by decide +kernel
theorem dX4_copyFrom_88 : decode cX4_copyFrom 88 = .ok (.aload_n 1, 1) := by decide +kernel
theorem dX4_copyFrom_89 : decode cX4_copyFrom 89 = .ok (.getfield 51, 3) := by decide +kernel
theorem dX4_copyFrom_92 : decode cX4_copyFrom 92 = .ok (.putfield 51, 3) := by decide +kernel
theorem dX4_copyFrom_95 : decode cX4_copyFrom 95 = .ok (.aload_n 0, 1) := by decide +kernel
theorem dX4_copyFrom_96 : decode cX4_copyFrom 96 = .ok (.aload_n 1, 1) := by decide +kernel
theorem dX4_copyFrom_97 : decode cX4_copyFrom 97 = .ok (.getfield 32, 3) := by decide +kernel
theorem dX4_copyFrom_100 : decode cX4_copyFrom 100 = .ok (.putfield 32, 3) := by decide +kernel
theorem dX4_copyFrom_103 : decode cX4_copyFrom 103 = .ok (.aload_n 0, 1) := by decide +kernel
theorem dX4_copyFrom_104 : decode cX4_copyFrom 104 = .ok (.getfield 19, 3) := by decide +kernel
theorem dX4_copyFrom_107 : decode cX4_copyFrom 107 = .ok (.arraylength, 1) := by decide +kernel
theorem dX4_copyFrom_108 : decode cX4_copyFrom 108 = .ok (.aload_n 0, 1) := by decide +kernel
theorem dX4_copyFrom_109 : decode cX4_copyFrom 109 = .ok (.getfield 32, 3) := by decide +kernel
theorem dX4_copyFrom_112 : decode cX4_copyFrom 112 = .ok (.if_icmp .ge 14, 3) := by decide +kernel
theorem dX4_copyFrom_115 : decode cX4_copyFrom 115 = .ok (.aload_n 0, 1) := by decide +kernel
theorem dX4_copyFrom_116 : decode cX4_copyFrom 116 = .ok (.aload_n 1, 1) := by decide +kernel
theorem dX4_copyFrom_117 : decode cX4_copyFrom 117 = .ok (.getfield 19, 3) := by decide +kernel
theorem dX4_copyFrom_120 : decode cX4_copyFrom 120 = .ok (.arraylength, 1) := by decide +kernel
theorem dX4_copyFrom_121 : decode cX4_copyFrom 121 = .ok (.newarray .byte, 2) := by decide +kernel
theorem dX4_copyFrom_123 : decode cX4_copyFrom 123 = .ok (.putfield 19, 3) := by decide +kernel
theorem dX4_copyFrom_126 : decode cX4_copyFrom 126 = .ok (.aload_n 1, 1) := by decide +kernel
theorem dX4_copyFrom_127 : decode cX4_copyFrom 127 = .ok (.getfield 19, 3) := by decide +kernel
theorem dX4_copyFrom_130 : decode cX4_copyFrom 130 = .ok (.iconst 0, 1) := by decide +kernel
theorem dX4_copyFrom_131 : decode cX4_copyFrom 131 = .ok (.aload_n 0, 1) := by decide +kernel
theorem dX4_copyFrom_132 : decode cX4_copyFrom 132 = .ok (.getfield 19, 3) := by decide +kernel
theorem dX4_copyFrom_135 : decode cX4_copyFrom 135 = .ok (.iconst 0, 1) := by decide +kernel
theorem dX4_copyFrom_136 : decode cX4_copyFrom 136 = .ok (.aload_n 0, 1) := by decide +kernel
theorem dX4_copyFrom_137 : decode cX4_copyFrom 137 = .ok (.getfield 32, 3) := by decide +kernel
theorem dX4_copyFrom_140 : decode cX4_copyFrom 140 = .ok (.invokestatic 80, 3) := by decide +kernel
theorem dX4_copyFrom_143 : decode cX4_copyFrom 143 = .ok (.return_, 1) := by decide +kernel
set_option maxRecDepth 100000 in
set_option maxHeartbeats 4000000 in
theorem c_X4_copyFrom (l : Launch) (D : va_G) (t : Nat → ClassId) (G : GE) (κ : CS) (h : Nat) (a1 : Option Nat) (post : CS → Prop) (hw : F_X4_copyFrom G h a1 post κ) (sz : Nat) : CMv l D t yX4_copyFrom cX4_copyFrom 2 1 40 G κ sz [.ref h, va_rf a1] post := by
  refine c_go (by decide) (by cases a1 <;> exact Nat.le_of_ble_eq_true rfl) ?_
  intro p e s m below meth c ls A hF hr hlk hin hAe hH hA hE hl
  unfold cB
  rw [hAe]
  clear hAe
  have hF : FX p m c cX4_copyFrom 2 s _ RX4 D t := hF
  have hx := hF.1.1
  have hb := hF.1.2.1
  have hl : lv_has ls 2 [(0, .ref h), (1, va_rf a1)] := (by have h2 := hl; clear hw; revert h2; cases a1 <;> exact id)
  unfold F_X4_copyFrom at hw
  refine lv_aload_n hx hb dX4_copyFrom_0 rfl (lv_at hl 0 rfl) ?_
  refine w_aloadq_n hF dX4_copyFrom_1 rfl (lv_at hl 1 rfl) ?_
  refine cw_getI (q := a1) hF hH fk_X4_77 dX4_copyFrom_2 hw (fun z1 hw => ?_)
  refine cw_putZr (a := h) (v := z1) hF hH fk_X4_77 dX4_copyFrom_5 rfl rfl hw (fun κ2 H locs cells slots hw hH => ?_)
  refine lv_aload_n hx hb dX4_copyFrom_8 rfl (lv_at hl 0 rfl) ?_
  refine w_aloadq_n hF dX4_copyFrom_9 rfl (lv_at hl 1 rfl) ?_
  refine cw_getI (q := a1) hF hH fk_X4_28 dX4_copyFrom_10 hw (fun z3 hw => ?_)
  refine cw_putZr (a := h) (v := z3) hF hH fk_X4_28 dX4_copyFrom_13 rfl rfl hw (fun κ4 H locs cells slots hw hH => ?_)
  refine lv_aload_n hx hb dX4_copyFrom_16 rfl (lv_at hl 0 rfl) ?_
  refine lv_iconst (v := 0) hx hb dX4_copyFrom_17 (by decide) ?_
  refine cw_putZr (a := h) (v := 0) hF hH fk_X4_61 dX4_copyFrom_18 rfl rfl hw (fun κ5 H locs cells slots hw hH => ?_)
  refine lv_aload_n hx hb dX4_copyFrom_21 rfl (lv_at hl 0 rfl) ?_
  refine w_aloadq_n hF dX4_copyFrom_22 rfl (lv_at hl 1 rfl) ?_
  refine cw_getI (q := a1) hF hH fk_X4_9 dX4_copyFrom_23 hw (fun z6 hw => ?_)
  refine cw_putIr (a := h) (v := z6) hF hH fk_X4_9 dX4_copyFrom_26 rfl rfl rfl hw (fun κ7 H locs cells slots hw hH => ?_)
  refine lv_aload_n hx hb dX4_copyFrom_29 rfl (lv_at hl 0 rfl) ?_
  refine w_aloadq_n hF dX4_copyFrom_30 rfl (lv_at hl 1 rfl) ?_
  refine cw_getI (q := a1) hF hH fk_X4_64 dX4_copyFrom_31 hw (fun z8 hw => ?_)
  refine cw_putIr (a := h) (v := z8) hF hH fk_X4_64 dX4_copyFrom_34 rfl rfl rfl hw (fun κ9 H locs cells slots hw hH => ?_)
  refine w_aloadq_n hF dX4_copyFrom_37 rfl (lv_at hl 1 rfl) ?_
  refine cw_getP (q := a1) hF hH fk_X4_15 dX4_copyFrom_38 hw (fun z10 hw => ?_)
  refine lv_iconst (v := 0) hx hb dX4_copyFrom_41 (by decide) ?_
  refine lv_aload_n hx hb dX4_copyFrom_42 rfl (lv_at hl 0 rfl) ?_
  refine cw_getPr (a := h) hF hH fk_X4_15 dX4_copyFrom_43 hw (fun z11 hw => ?_)
  refine lv_iconst (v := 0) hx hb dX4_copyFrom_46 (by decide) ?_
  refine lv_aload_n hx hb dX4_copyFrom_47 rfl (lv_at hl 0 rfl) ?_
  refine cw_getPr (a := h) hF hH fk_X4_15 dX4_copyFrom_48 hw (fun z12 hw => ?_)
  refine cw_alen (q := z12) hF hH hE dX4_copyFrom_51 hw (fun z13 hw => ?_)
  refine cw_copyB (q0 := z10) (q1 := z11) hF hH (wc_36 2 rfl) (wc_10 14 rfl) (wc_10 15 rfl) (wc_5 17 rfl) (Nat.le_of_ble_eq_true rfl) (Nat.le_of_ble_eq_true rfl) hl.1 dX4_copyFrom_52 hw (fun κ14 H locs cells slots hw hH => ?_)
  refine lv_aload_n hx hb dX4_copyFrom_55 rfl (lv_at hl 0 rfl) ?_
  refine w_aloadq_n hF dX4_copyFrom_56 rfl (lv_at hl 1 rfl) ?_
  refine cw_getI (q := a1) hF hH fk_X4_25 dX4_copyFrom_57 hw (fun z15 hw => ?_)
  refine cw_putIr (a := h) (v := z15) hF hH fk_X4_25 dX4_copyFrom_60 rfl rfl rfl hw (fun κ16 H locs cells slots hw hH => ?_)
  refine lv_aload_n hx hb dX4_copyFrom_63 rfl (lv_at hl 0 rfl) ?_
  refine w_aloadq_n hF dX4_copyFrom_64 rfl (lv_at hl 1 rfl) ?_
  refine cw_getJ (q := a1) hF hH fk_X4_35 dX4_copyFrom_65 hw (fun z17 hw => ?_)
  refine cw_putJr (a := h) (v := z17) hF hH fk_X4_35 dX4_copyFrom_68 rfl rfl rfl hw (fun κ18 H locs cells slots hw hH => ?_)
  refine lv_aload_n hx hb dX4_copyFrom_71 rfl (lv_at hl 0 rfl) ?_
  refine w_aloadq_n hF dX4_copyFrom_72 rfl (lv_at hl 1 rfl) ?_
  refine cw_getJ (q := a1) hF hH fk_X4_45 dX4_copyFrom_73 hw (fun z19 hw => ?_)
  refine cw_putJr (a := h) (v := z19) hF hH fk_X4_45 dX4_copyFrom_76 rfl rfl rfl hw (fun κ20 H locs cells slots hw hH => ?_)
  refine lv_aload_n hx hb dX4_copyFrom_79 rfl (lv_at hl 0 rfl) ?_
  refine w_aloadq_n hF dX4_copyFrom_80 rfl (lv_at hl 1 rfl) ?_
  refine cw_getJ (q := a1) hF hH fk_X4_48 dX4_copyFrom_81 hw (fun z21 hw => ?_)
  refine cw_putJr (a := h) (v := z21) hF hH fk_X4_48 dX4_copyFrom_84 rfl rfl rfl hw (fun κ22 H locs cells slots hw hH => ?_)
  refine lv_aload_n hx hb dX4_copyFrom_87 rfl (lv_at hl 0 rfl) ?_
  refine w_aloadq_n hF dX4_copyFrom_88 rfl (lv_at hl 1 rfl) ?_
  refine cw_getJ (q := a1) hF hH fk_X4_51 dX4_copyFrom_89 hw (fun z23 hw => ?_)
  refine cw_putJr (a := h) (v := z23) hF hH fk_X4_51 dX4_copyFrom_92 rfl rfl rfl hw (fun κ24 H locs cells slots hw hH => ?_)
  refine lv_aload_n hx hb dX4_copyFrom_95 rfl (lv_at hl 0 rfl) ?_
  refine w_aloadq_n hF dX4_copyFrom_96 rfl (lv_at hl 1 rfl) ?_
  refine cw_getI (q := a1) hF hH fk_X4_32 dX4_copyFrom_97 hw (fun z25 hw => ?_)
  refine cw_putIr (a := h) (v := z25) hF hH fk_X4_32 dX4_copyFrom_100 rfl rfl rfl hw (fun κ26 H locs cells slots hw hH => ?_)
  refine lv_aload_n hx hb dX4_copyFrom_103 rfl (lv_at hl 0 rfl) ?_
  refine cw_getPr (a := h) hF hH fk_X4_19 dX4_copyFrom_104 hw (fun z27 hw => ?_)
  refine cw_alen (q := z27) hF hH hE dX4_copyFrom_107 hw (fun z28 hw => ?_)
  refine lv_aload_n hx hb dX4_copyFrom_108 rfl (lv_at hl 0 rfl) ?_
  refine cw_getIr (a := h) hF hH fk_X4_32 dX4_copyFrom_109 hw (fun z29 hw => ?_)
  obtain ⟨K32, hK33, hw⟩ := jc_open hw
  refine cw_join (K := K32) 126 (fun (x30 : Unit) => [(1, va_rf a1), (0, .ref h)]) (fun (x30 : Unit) => []) hl hH (fun x30 κ31 ls H locs cells slots hl hw hH => ?_) (fun jn34 => ?_)
  · have hw := hK33 x30 κ31 hw
    have hl : lv_has ls 2 [(1, va_rf a1), (0, .ref h)] := hl
    refine w_aloadq_n hF dX4_copyFrom_126 rfl (lv_at hl 0 rfl) ?_
    refine cw_getP (q := a1) hF hH fk_X4_19 dX4_copyFrom_127 hw (fun z35 hw => ?_)
    refine lv_iconst (v := 0) hx hb dX4_copyFrom_130 (by decide) ?_
    refine lv_aload_n hx hb dX4_copyFrom_131 rfl (lv_at hl 1 rfl) ?_
    refine cw_getPr (a := h) hF hH fk_X4_19 dX4_copyFrom_132 hw (fun z36 hw => ?_)
    refine lv_iconst (v := 0) hx hb dX4_copyFrom_135 (by decide) ?_
    refine lv_aload_n hx hb dX4_copyFrom_136 rfl (lv_at hl 1 rfl) ?_
    refine cw_getIr (a := h) hF hH fk_X4_32 dX4_copyFrom_137 hw (fun z37 hw => ?_)
    refine cw_copyB (q0 := z35) (q1 := z36) hF hH (wc_36 2 rfl) (wc_10 14 rfl) (wc_10 15 rfl) (wc_5 17 rfl) (Nat.le_of_ble_eq_true rfl) (Nat.le_of_ble_eq_true rfl) hl.1 dX4_copyFrom_140 hw (fun κ38 H locs cells slots hw hH => ?_)
    exact cw_retv hF hH ⟨rfl, rfl⟩ hr hlk dX4_copyFrom_143 hw
  · skip
    refine w_icmp_ge (tgt := 126) hF dX4_copyFrom_112 rfl hw (fun hw => ?_) (fun hw => ?_)
    · have hl : lv_has ls 2 [(1, va_rf a1), (0, .ref h)] := lv_sub hl [1, 0] rfl
      exact jn34 () κ26 ls _ _ _ _ hl hw hH
    · refine lv_aload_n hx hb dX4_copyFrom_115 rfl (lv_at hl 0 rfl) ?_
      refine w_aloadq_n hF dX4_copyFrom_116 rfl (lv_at hl 1 rfl) ?_
      refine cw_getP (q := a1) hF hH fk_X4_19 dX4_copyFrom_117 hw (fun z39 hw => ?_)
      refine cw_alen (q := z39) hF hH hE dX4_copyFrom_120 hw (fun z40 hw => ?_)
      refine cw_newarr_byte hF hH hA (wc_5 11 rfl) dX4_copyFrom_121 hw (fun o41 κ42 H locs cells slots hw hH => ?_)
      refine cw_putPr (a := h) (v := (some o41)) hF hH fk_X4_19 dX4_copyFrom_123 rfl rfl hw (fun κ43 H locs cells slots hw hH => ?_)
      have hl : lv_has ls 2 [(1, va_rf a1), (0, .ref h)] := lv_sub hl [1, 0] rfl
      exact jn34 () κ43 ls _ _ _ _ hl hw hH
set_option maxRecDepth 100000 in
def F_X5_init (G : GE) (h : Nat) (a1 : Int64) (a3 : Option Nat) (a4 : Option Nat) (post : CS → Prop) (κ : CS) : Prop := (0 ≤ (12 : Int32).toInt ∧ (12 : Int32).toInt ≤ 1000000) ∧ ((12 : Int32).toInt.toNat + 12 ≤ κ.2) ∧ ∀ o2 : Nat, o2 ∉ sL κ.1 → ∀ κ3 : CS, κ3 = (h_uN κ.1 o2 20 (12 : Int32).toInt.toNat, κ.2 - ((12 : Int32).toInt.toNat + 12)) → (h ∈ sL κ3.1 ∧ sK κ3.1 h = 10) ∧ ∀ κ4 : CS, κ4 = (h_uP κ3.1 h 13 (some o2), κ3.2) → (h ∈ sL κ4.1 ∧ sK κ4.1 h = 10) ∧ ∀ κ5 : CS, κ5 = (h_uJ κ4.1 h 0 a1, κ4.2) → (h ∈ sL κ5.1 ∧ sK κ5.1 h = 10) ∧ ∀ κ6 : CS, κ6 = (h_uP κ5.1 h 1 a3, κ5.2) → (h ∈ sL κ6.1 ∧ sK κ6.1 h = 10) ∧ ∀ κ7 : CS, κ7 = (h_uP κ6.1 h 2 a4, κ6.2) → post κ7
theorem dX5_init_0 : decode cX5_init 0 = .ok (.aload_n 0, 1) := by decide +kernel
theorem dX5_init_1 : decode cX5_init 1 = .ok (.invokespecial 3, 3) := by decide +kernel
theorem dX5_init_4 : decode cX5_init 4 = .ok (.aload_n 0, 1) := by decide +kernel
theorem dX5_init_5 : decode cX5_init 5 = .ok (.bipush 12, 2) := by decide +kernel
theorem dX5_init_7 : decode cX5_init 7 = .ok (.newarray .byte, 2) := by decide +kernel
theorem dX5_init_9 : decode cX5_init 9 = .ok (.putfield 9, 3) := by decide +kernel
theorem dX5_init_12 : decode cX5_init 12 = .ok (.aload_n 0, 1) := by decide +kernel
theorem dX5_init_13 : decode cX5_init 13 = .ok (.lload_n 1, 1) := by decide +kernel
theorem dX5_init_14 : decode cX5_init 14 = .ok (.putfield 15, 3) := by decide +kernel
theorem dX5_init_17 : decode cX5_init 17 = .ok (.aload_n 0, 1) := by decide +kernel
theorem dX5_init_18 : decode cX5_init 18 = .ok (.aload_n 3, 1) := by decide +kernel
theorem dX5_init_19 : decode cX5_init 19 = .ok (.putfield 19, 3) := by decide +kernel
theorem dX5_init_22 : decode cX5_init 22 = .ok (.aload_n 0, 1) := by decide +kernel
theorem dX5_init_23 : decode cX5_init 23 = .ok (.aload 4, 2) := by decide +kernel
theorem dX5_init_25 : decode cX5_init 25 = .ok (.putfield 23, 3) := by decide +kernel
theorem dX5_init_28 : decode cX5_init 28 = .ok (.return_, 1) := by decide +kernel
set_option maxRecDepth 100000 in
set_option maxHeartbeats 4000000 in
theorem c_X5_init (l : Launch) (D : va_G) (t : Nat → ClassId) (G : GE) (κ : CS) (h : Nat) (a1 : Int64) (a3 : Option Nat) (a4 : Option Nat) (post : CS → Prop) (hw : F_X5_init G h a1 a3 a4 post κ) (sz : Nat) : CMv l D t yX5_init cX5_init 5 1 30 G κ sz [.ref h, .long a1, va_rf a3, va_rf a4] post := by
  refine c_go (by decide) (by cases a3 <;> cases a4 <;> exact Nat.le_of_ble_eq_true rfl) ?_
  intro p e s m below meth c ls A hF hr hlk hin hAe hH hA hE hl
  unfold cB
  rw [hAe]
  clear hAe
  have hF : FX p m c cX5_init 5 s _ RX5 D t := hF
  have hx := hF.1.1
  have hb := hF.1.2.1
  have hl : lv_has ls 5 [(0, .ref h), (1, .long a1), (3, va_rf a3), (4, va_rf a4)] := (by have h2 := hl; clear hw; revert h2; cases a3 <;> cases a4 <;> exact id)
  unfold F_X5_init at hw
  refine lv_aload_n hx hb dX5_init_0 rfl (lv_at hl 0 rfl) ?_
  refine W.objInit hx hb hF.1.2.2.2.1 (hF.1.2.2.2.2 _ (wc_20 32 rfl)) (hF.1.2.2.2.2 _ (wc_5 1 rfl)) (hF.1.2.2.2.2 _ (wc_5 0 rfl)) rfl (hl.1.trans hF.1.2.2.1.symm) rfl dX5_init_1 (Nat.le_of_ble_eq_true rfl) (Nat.le_of_ble_eq_true rfl) ?_
  refine lv_aload_n hx hb dX5_init_4 rfl (lv_at hl 0 rfl) ?_
  refine lv_bipush (v := 12) hx hb dX5_init_5 (by decide) ?_
  refine cw_newarr_byte hF hH hA (wc_5 11 rfl) dX5_init_7 hw (fun o2 κ3 H locs cells slots hw hH => ?_)
  refine cw_putFP (a := h) (v := (some o2)) hF hH fk_X5_9 dX5_init_9 hin rfl rfl rfl hw (fun κ4 H locs cells slots hw hH => ?_)
  refine lv_aload_n hx hb dX5_init_12 rfl (lv_at hl 0 rfl) ?_
  refine lv_lload_n hx hb dX5_init_13 rfl (lv_at hl 1 rfl) ?_
  refine cw_putFJ (a := h) (v := a1) hF hH fk_X5_15 dX5_init_14 hin rfl rfl rfl rfl hw (fun κ5 H locs cells slots hw hH => ?_)
  refine lv_aload_n hx hb dX5_init_17 rfl (lv_at hl 0 rfl) ?_
  refine w_aloadq_n hF dX5_init_18 rfl (lv_at hl 2 rfl) ?_
  refine cw_putFP (a := h) (v := a3) hF hH fk_X5_19 dX5_init_19 hin rfl rfl rfl hw (fun κ6 H locs cells slots hw hH => ?_)
  refine lv_aload_n hx hb dX5_init_22 rfl (lv_at hl 0 rfl) ?_
  refine w_aloadq hF dX5_init_23 (lv_at hl 3 rfl) ?_
  refine cw_putFP (a := h) (v := a4) hF hH fk_X5_23 dX5_init_25 hin rfl rfl rfl hw (fun κ7 H locs cells slots hw hH => ?_)
  exact cw_retv hF hH ⟨rfl, rfl⟩ hr hlk dX5_init_28 hw
set_option maxRecDepth 100000 in
def F_X5_takePattern (G : GE) (h : Nat) (a1 : Option Nat) (a2 : Int32) (a3 : Int32) (post : CS → Prop) (κ : CS) : Prop := ∀ z2 : Int32, z2.toInt = max ((0 : Int32).toInt) a3.toInt → jc (fun (K5 : Int32 → CS → Prop) => ((¬ z2.toInt = 0) → K5 z2 κ) ∧ ((z2.toInt = 0) → K5 1 κ)) (fun (x3 : Int32) (κ4 : CS) => (0 ≤ x3.toInt ∧ x3.toInt ≤ 1000000) ∧ (x3.toInt.toNat + 12 ≤ κ4.2) ∧ ∀ o8 : Nat, o8 ∉ sL κ4.1 → ∀ κ9 : CS, κ9 = (h_uN κ4.1 o8 21 x3.toInt.toNat, κ4.2 - (x3.toInt.toNat + 12)) → (h ∈ sL κ9.1 ∧ sK κ9.1 h = 10) ∧ ∀ κ10 : CS, κ10 = (h_uP κ9.1 h 11 (some o8), κ9.2) → (h ∈ sL κ10.1 ∧ sK κ10.1 h = 10) ∧ ∀ z11 : Option Nat, z11 = sP κ10.1 h 11 → ∃ b : Nat, z11 = some b ∧ (b ∈ sL κ10.1 ∧ sK κ10.1 b = 21) ∧ (0 ≤ (0 : Int32).toInt ∧ (0 : Int32).toInt < (sN κ10.1 b : Int)) ∧ ∀ κ12 : CS, κ12 = (h_uI κ10.1 b (0 : Int32).toInt.toNat 42, κ10.2) → lc (fun (K15 : Int32 → CS → Prop) (x13 : Int32) (κ14 : CS) => ((z2.toInt ≤ x13.toInt) → (h ∈ sL κ14.1 ∧ sK κ14.1 h = 10) ∧ ∀ κ17 : CS, κ17 = (h_uI κ14.1 h 12 0, κ14.2) → (h ∈ sL κ17.1 ∧ sK κ17.1 h = 10) ∧ ∀ κ18 : CS, κ18 = (h_uI κ17.1 h 14 0, κ17.2) → post κ18) ∧ ((x13.toInt < z2.toInt) → (h ∈ sL κ14.1 ∧ sK κ14.1 h = 10) ∧ ∀ z19 : Option Nat, z19 = sP κ14.1 h 11 → ∀ z20 : Int32, z20 = 2 * x13 → ∀ z21 : Int32, z21 = a2 + z20 → ∃ b : Nat, a1 = some b ∧ (b ∈ sL κ14.1 ∧ sK κ14.1 b = 8) ∧ F_X0_number G b z21 2 (fun (z23 : Int64) (κ22 : CS) => ∀ z24 : Int32, z24 = (z23 : Int64).toInt32 → ∃ b : Nat, z19 = some b ∧ (b ∈ sL κ22.1 ∧ sK κ22.1 b = 21) ∧ (0 ≤ x13.toInt ∧ x13.toInt < (sN κ22.1 b : Int)) ∧ ∀ κ25 : CS, κ25 = (h_uI κ22.1 b x13.toInt.toNat z24, κ22.2) → ∀ z26 : Int32, z26 = x13 + 1 → K15 z26 κ25) κ14)) 0 κ12)
theorem dX5_takePattern_0 : decode cX5_takePattern 0 = .ok (.iconst 0, 1) := by decide +kernel
theorem dX5_takePattern_1 : decode cX5_takePattern 1 = .ok (.iload_n 3, 1) := by decide +kernel
theorem dX5_takePattern_2 : decode cX5_takePattern 2 = .ok (.invokestatic 27, 3) := by decide +kernel
theorem dX5_takePattern_5 : decode cX5_takePattern 5 = .ok (.istore 4, 2) := by decide +kernel
theorem dX5_takePattern_7 : decode cX5_takePattern 7 = .ok (.aload_n 0, 1) := by decide +kernel
theorem dX5_takePattern_8 : decode cX5_takePattern 8 = .ok (.iload 4, 2) := by decide +kernel
theorem dX5_takePattern_10 : decode cX5_takePattern 10 = .ok (.ifCond .ne 7, 3) := by decide +kernel
theorem dX5_takePattern_13 : decode cX5_takePattern 13 = .ok (.iconst 1, 1) := by decide +kernel
theorem dX5_takePattern_14 : decode cX5_takePattern 14 = .ok (.goto 5, 3) := by decide +kernel
theorem dX5_takePattern_17 : decode cX5_takePattern 17 = .ok (.iload 4, 2) := by decide +kernel
theorem dX5_takePattern_19 : decode cX5_takePattern 19 = .ok (.newarray .int, 2) := by decide +kernel
theorem dX5_takePattern_21 : decode cX5_takePattern 21 = .ok (.putfield 33, 3) := by decide +kernel
theorem dX5_takePattern_24 : decode cX5_takePattern 24 = .ok (.aload_n 0, 1) := by decide +kernel
theorem dX5_takePattern_25 : decode cX5_takePattern 25 = .ok (.getfield 33, 3) := by decide +kernel
theorem dX5_takePattern_28 : decode cX5_takePattern 28 = .ok (.iconst 0, 1) := by decide +kernel
theorem dX5_takePattern_29 : decode cX5_takePattern 29 = .ok (.bipush 42, 2) := by decide +kernel
theorem dX5_takePattern_31 : decode cX5_takePattern 31 = .ok (.iastore, 1) := by decide +kernel
theorem dX5_takePattern_32 : decode cX5_takePattern 32 = .ok (.iconst 0, 1) := by decide +kernel
theorem dX5_takePattern_33 : decode cX5_takePattern 33 = .ok (.istore 5, 2) := by decide +kernel
theorem dX5_takePattern_35 : decode cX5_takePattern 35 = .ok (.iload 5, 2) := by decide +kernel
theorem dX5_takePattern_37 : decode cX5_takePattern 37 = .ok (.iload 4, 2) := by decide +kernel
theorem dX5_takePattern_39 : decode cX5_takePattern 39 = .ok (.if_icmp .ge 28, 3) := by decide +kernel
theorem dX5_takePattern_42 : decode cX5_takePattern 42 = .ok (.aload_n 0, 1) := by decide +kernel
theorem dX5_takePattern_43 : decode cX5_takePattern 43 = .ok (.getfield 33, 3) := by decide +kernel
theorem dX5_takePattern_46 : decode cX5_takePattern 46 = .ok (.iload 5, 2) := by decide +kernel
theorem dX5_takePattern_48 : decode cX5_takePattern 48 = .ok (.aload_n 1, 1) := by decide +kernel
theorem dX5_takePattern_49 : decode cX5_takePattern 49 = .ok (.iload_n 2, 1) := by decide +kernel
theorem dX5_takePattern_50 : decode cX5_takePattern 50 = .ok (.iconst 2, 1) := by decide +kernel
theorem dX5_takePattern_51 : decode cX5_takePattern 51 = .ok (.iload 5, 2) := by decide +kernel
theorem dX5_takePattern_53 : decode cX5_takePattern 53 = .ok (.imul, 1) := by decide +kernel
theorem dX5_takePattern_54 : decode cX5_takePattern 54 = .ok (.iadd, 1) := by decide +kernel
theorem dX5_takePattern_55 : decode cX5_takePattern 55 = .ok (.iconst 2, 1) := by decide +kernel
theorem dX5_takePattern_56 : decode cX5_takePattern 56 = .ok (.invokevirtual 37, 3) := by decide +kernel
theorem dX5_takePattern_59 : decode cX5_takePattern 59 = .ok (.l2i, 1) := by decide +kernel
theorem dX5_takePattern_60 : decode cX5_takePattern 60 = .ok (.iastore, 1) := by decide +kernel
theorem dX5_takePattern_61 : decode cX5_takePattern 61 = .ok (.iinc 5 1, 3) := by decide +kernel
theorem dX5_takePattern_64 : decode cX5_takePattern 64 = .ok (.goto (-29), 3) := by decide +kernel
theorem dX5_takePattern_67 : decode cX5_takePattern 67 = .ok (.aload_n 0, 1) := by decide +kernel
theorem dX5_takePattern_68 : decode cX5_takePattern 68 = .ok (.iconst 0, 1) := by decide +kernel
theorem dX5_takePattern_69 : decode cX5_takePattern 69 = .ok (.putfield 43, 3) := by decide +kernel
theorem dX5_takePattern_72 : decode cX5_takePattern 72 = .ok (.aload_n 0, 1) := by decide +kernel
theorem dX5_takePattern_73 : decode cX5_takePattern 73 = .ok (.iconst 0, 1) := by decide +kernel
theorem dX5_takePattern_74 : decode cX5_takePattern 74 = .ok (.putfield 47, 3) := by decide +kernel
theorem dX5_takePattern_77 : decode cX5_takePattern 77 = .ok (.return_, 1) := by decide +kernel
set_option maxRecDepth 100000 in
set_option maxHeartbeats 4000000 in
theorem c_X5_takePattern (l : Launch) (D : va_G) (t : Nat → ClassId) (G : GE) (κ : CS) (h : Nat) (a1 : Option Nat) (a2 : Int32) (a3 : Int32) (post : CS → Prop) (hw : F_X5_takePattern G h a1 a2 a3 post κ) (sz : Nat) : CMv l D t yX5_takePattern cX5_takePattern 6 2 62 G κ sz [.ref h, va_rf a1, .int a2, .int a3] post := by
  refine c_go (by decide) (by cases a1 <;> exact Nat.le_of_ble_eq_true rfl) ?_
  intro p e s m below meth c ls A hF hr hlk hin hAe hH hA hE hl
  unfold cB
  rw [hAe]
  clear hAe
  have hF : FX p m c cX5_takePattern 6 s _ RX5 D t := hF
  have hx := hF.1.1
  have hb := hF.1.2.1
  have hl : lv_has ls 6 [(0, .ref h), (1, va_rf a1), (2, .int a2), (3, .int a3)] := (by have h2 := hl; clear hw; revert h2; cases a1 <;> exact id)
  unfold F_X5_takePattern at hw
  refine lv_iconst (v := 0) hx hb dX5_takePattern_0 (by decide) ?_
  refine lv_iload_n hx hb dX5_takePattern_1 rfl (lv_at hl 3 rfl) ?_
  refine cw_mmax hF hH hl.1 (wc_30 9 rfl) (wc_10 1 rfl) (wc_5 5 rfl) (wc_10 0 rfl) (Nat.le_of_ble_eq_true rfl) (Nat.le_of_ble_eq_true rfl) dX5_takePattern_2 hw (fun z2 hw => ?_)
  refine lv_istore (lv' := [(4, .int z2), (0, .ref h), (1, va_rf a1), (2, .int a2), (3, .int a3)]) hx hb dX5_takePattern_5 hl (by decide) rfl (fun ls hl => ?_)
  refine lv_aload_n hx hb dX5_takePattern_7 rfl (lv_at hl 1 rfl) ?_
  refine lv_iload hx hb dX5_takePattern_8 (lv_at hl 0 rfl) ?_
  obtain ⟨K5, hK6, hw⟩ := jc_open hw
  refine cw_join (K := K5) 19 (fun (x3 : Int32) => [(4, .int z2), (2, .int a2), (1, va_rf a1), (0, .ref h)]) (fun (x3 : Int32) => [.int x3, .ref h]) hl hH (fun x3 κ4 ls H locs cells slots hl hw hH => ?_) (fun jn7 => ?_)
  · have hw := hK6 x3 κ4 hw
    have hl : lv_has ls 6 [(4, .int z2), (2, .int a2), (1, va_rf a1), (0, .ref h)] := hl
    refine cw_newarr_int hF hH hA (wc_6 20 rfl) dX5_takePattern_19 hw (fun o8 κ9 H locs cells slots hw hH => ?_)
    refine cw_putPr (a := h) (v := (some o8)) hF hH fk_X5_33 dX5_takePattern_21 rfl rfl hw (fun κ10 H locs cells slots hw hH => ?_)
    refine lv_aload_n hx hb dX5_takePattern_24 rfl (lv_at hl 3 rfl) ?_
    refine cw_getPr (a := h) hF hH fk_X5_33 dX5_takePattern_25 hw (fun z11 hw => ?_)
    refine lv_iconst (v := 0) hx hb dX5_takePattern_28 (by decide) ?_
    refine lv_bipush (v := 42) hx hb dX5_takePattern_29 (by decide) ?_
    refine cw_iast (q := z11) hF hH dX5_takePattern_31 hw (fun κ12 H locs cells slots hw hH => ?_)
    refine lv_iconst (v := 0) hx hb dX5_takePattern_32 (by decide) ?_
    refine lv_istore (lv' := [(5, .int 0), (4, .int z2), (2, .int a2), (1, va_rf a1), (0, .ref h)]) hx hb dX5_takePattern_33 hl (by decide) rfl (fun ls hl => ?_)
    refine cw_loop (β := Int32) (fun x13 => [(5, .int x13), (4, .int z2), (2, .int a2), (1, va_rf a1), (0, .ref h)]) 0 hl hw hH (fun K15 x13 κ14 ls H locs cells slots hl hw hH ih16 => ?_)
    have hl : lv_has ls 6 [(5, .int x13), (4, .int z2), (2, .int a2), (1, va_rf a1), (0, .ref h)] := hl
    refine lv_iload hx hb dX5_takePattern_35 (lv_at hl 0 rfl) ?_
    refine lv_iload hx hb dX5_takePattern_37 (lv_at hl 1 rfl) ?_
    refine w_icmp_ge (tgt := 67) hF dX5_takePattern_39 rfl hw (fun hw => ?_) (fun hw => ?_)
    · refine lv_aload_n hx hb dX5_takePattern_67 rfl (lv_at hl 4 rfl) ?_
      refine lv_iconst (v := 0) hx hb dX5_takePattern_68 (by decide) ?_
      refine cw_putIr (a := h) (v := 0) hF hH fk_X5_43 dX5_takePattern_69 rfl rfl rfl hw (fun κ17 H locs cells slots hw hH => ?_)
      refine lv_aload_n hx hb dX5_takePattern_72 rfl (lv_at hl 4 rfl) ?_
      refine lv_iconst (v := 0) hx hb dX5_takePattern_73 (by decide) ?_
      refine cw_putIr (a := h) (v := 0) hF hH fk_X5_47 dX5_takePattern_74 rfl rfl rfl hw (fun κ18 H locs cells slots hw hH => ?_)
      exact cw_retv hF hH ⟨rfl, rfl⟩ hr hlk dX5_takePattern_77 hw
    · refine lv_aload_n hx hb dX5_takePattern_42 rfl (lv_at hl 4 rfl) ?_
      refine cw_getPr (a := h) hF hH fk_X5_33 dX5_takePattern_43 hw (fun z19 hw => ?_)
      refine lv_iload hx hb dX5_takePattern_46 (lv_at hl 0 rfl) ?_
      refine w_aloadq_n hF dX5_takePattern_48 rfl (lv_at hl 3 rfl) ?_
      refine lv_iload_n hx hb dX5_takePattern_49 rfl (lv_at hl 2 rfl) ?_
      refine lv_iconst (v := 2) hx hb dX5_takePattern_50 (by decide) ?_
      refine lv_iload hx hb dX5_takePattern_51 (lv_at hl 0 rfl) ?_
      refine lv_imul hx hb dX5_takePattern_53 ?_
      refine w_nmi hw (fun z20 hw => ?_)
      refine lv_iadd hx hb dX5_takePattern_54 ?_
      refine w_nmi hw (fun z21 hw => ?_)
      refine lv_iconst (v := 2) hx hb dX5_takePattern_55 (by decide) ?_
      refine cw_cVlq (q := a1) (As := [.int z21, .int 2]) (rest := [.int x13, va_rf z19]) hF hH hA hE mv_X5_37 ci_X0 (by decide) hw (fun b hw sz => c_X0_number l D t G _ b z21 2 _ hw sz) dX5_takePattern_56 ⟨Nat.le_of_ble_eq_true rfl, Nat.le_of_ble_eq_true rfl⟩ rfl hl.1 (by simp only [List.map_cons, List.map_nil, cat_rf]; exact Nat.le_of_ble_eq_true rfl) rfl (fun z23 κ22 H locs cells slots hw hH => ?_)
      refine lv_l2i hx hb dX5_takePattern_59 rfl ?_
      refine w_nmi hw (fun z24 hw => ?_)
      refine cw_iast (q := z19) hF hH dX5_takePattern_60 hw (fun κ25 H locs cells slots hw hH => ?_)
      obtain ⟨z26, ez26⟩ : ∃ z : Int32, z = x13 + 1 := ⟨_, rfl⟩
      have hw := hw z26 ez26
      refine lv_iinc (lv' := [(5, .int z26), (4, .int z2), (2, .int a2), (1, va_rf a1), (0, .ref h)]) (k := 0) (v := z26) hx hb dX5_takePattern_61 hl rfl ez26.symm (by decide) rfl (fun ls hl => ?_)
      refine lv_goto (tgt := 35) hx hb dX5_takePattern_64 rfl ?_
      exact ih16 z26 κ25 ls _ _ _ _ hl hw hH
  · skip
    refine w_if_ne (tgt := 17) hF dX5_takePattern_10 rfl hw (fun hw => ?_) (fun hw => ?_)
    · refine lv_iload hx hb dX5_takePattern_17 (lv_at hl 0 rfl) ?_
      have hl : lv_has ls 6 [(4, .int z2), (2, .int a2), (1, va_rf a1), (0, .ref h)] := lv_sub hl [0, 3, 2, 1] rfl
      exact jn7 z2 κ ls _ _ _ _ hl hw hH
    · refine lv_iconst (v := 1) hx hb dX5_takePattern_13 (by decide) ?_
      refine lv_goto (tgt := 19) hx hb dX5_takePattern_14 rfl ?_
      have hl : lv_has ls 6 [(4, .int z2), (2, .int a2), (1, va_rf a1), (0, .ref h)] := lv_sub hl [0, 3, 2, 1] rfl
      exact jn7 1 κ ls _ _ _ _ hl hw hH
set_option maxRecDepth 100000 in
def F_X5_goBehind (G : GE) (h : Nat) (a1 : Int32) (a2 : Option Nat) (post : CS → Prop) (κ : CS) : Prop := ∀ z1 : Int32, z1 = a1 + 1 → ∀ z3 : Int32, z3.toInt = min z1.toInt ((2 : Int32).toInt) → (h ∈ sL κ.1 ∧ sK κ.1 h = 10) ∧ ∀ κ4 : CS, κ4 = (h_uI κ.1 h 12 z3, κ.2) → jc (fun (K7 : Unit → CS → Prop) => ((¬ a1.toInt = (2 : Int32).toInt) → K7 () κ4) ∧ ((a1.toInt = (2 : Int32).toInt) → ∃ b : Nat, a2 = some b ∧ (b ∈ sL κ4.1 ∧ sK κ4.1 b = 5) ∧ ∀ z10 : Int32, z10 = sI κ4.1 b 6 → (h ∈ sL κ4.1 ∧ sK κ4.1 h = 10) ∧ ∀ z11 : Option Nat, z11 = sP κ4.1 h 13 → ∃ n : Nat, AL G κ4 z11 n ∧ ∀ z12 : Int32, z12 = nI n → ∀ z14 : Int32, z14.toInt = min z10.toInt z12.toInt → (h ∈ sL κ4.1 ∧ sK κ4.1 h = 10) ∧ ∀ κ15 : CS, κ15 = (h_uI κ4.1 h 14 z14, κ4.2) → ∃ b : Nat, a2 = some b ∧ (b ∈ sL κ15.1 ∧ sK κ15.1 b = 5) ∧ ∀ z16 : Option Nat, z16 = sP κ15.1 b 5 → (h ∈ sL κ15.1 ∧ sK κ15.1 h = 10) ∧ ∀ z17 : Option Nat, z17 = sP κ15.1 h 13 → (h ∈ sL κ15.1 ∧ sK κ15.1 h = 10) ∧ ∀ z18 : Int32, z18 = sI κ15.1 h 14 → ∃ u0 : Nat, z16 = some u0 ∧ ∃ u1 : Nat, z17 = some u1 ∧ (u0 ∈ sL κ15.1 ∧ sK κ15.1 u0 = 20) ∧ (u1 ∈ sL κ15.1 ∧ sK κ15.1 u1 = 20) ∧ (0 ≤ (0 : Int32).toInt ∧ 0 ≤ (0 : Int32).toInt ∧ 0 ≤ z18.toInt ∧ (0 : Int32).toInt + z18.toInt ≤ (sN κ15.1 u0 : Int) ∧ (0 : Int32).toInt + z18.toInt ≤ (sN κ15.1 u1 : Int)) ∧ (∀ j : Nat, j < z18.toInt.toNat → -128 ≤ (sI κ15.1 u0 ((0 : Int32).toInt.toNat + j)).toInt ∧ (sI κ15.1 u0 ((0 : Int32).toInt.toNat + j)).toInt ≤ 127) ∧ ∀ κ19 : CS, κ19 = (h_cpI κ15.1 u0 u1 (0 : Int32).toInt.toNat (0 : Int32).toInt.toNat z18.toInt.toNat, κ15.2) → K7 () κ19)) (fun (x5 : Unit) (κ6 : CS) => post κ6)
theorem dX5_goBehind_0 : decode cX5_goBehind 0 = .ok (.aload_n 0, 1) := by decide +kernel
theorem dX5_goBehind_1 : decode cX5_goBehind 1 = .ok (.iload_n 1, 1) := by decide +kernel
theorem dX5_goBehind_2 : decode cX5_goBehind 2 = .ok (.iconst 1, 1) := by decide +kernel
theorem dX5_goBehind_3 : decode cX5_goBehind 3 = .ok (.iadd, 1) := by decide +kernel
theorem dX5_goBehind_4 : decode cX5_goBehind 4 = .ok (.iconst 2, 1) := by decide +kernel
theorem dX5_goBehind_5 : decode cX5_goBehind 5 = .ok (.invokestatic 50, 3) := by decide +kernel
theorem dX5_goBehind_8 : decode cX5_goBehind 8 = .ok (.putfield 43, 3) := by decide +kernel
theorem dX5_goBehind_11 : decode cX5_goBehind 11 = .ok (.iload_n 1, 1) := by decide +kernel
theorem dX5_goBehind_12 : decode cX5_goBehind 12 = .ok (.iconst 2, 1) := by decide +kernel
theorem dX5_goBehind_13 : decode cX5_goBehind 13 = .ok (.if_icmp .ne 36, 3) := by decide +kernel
theorem dX5_goBehind_16 : decode cX5_goBehind 16 = .ok (.aload_n 0, 1) := by decide +kernel
theorem dX5_goBehind_17 : decode cX5_goBehind 17 = .ok (.aload_n 2, 1) := by decide +kernel
theorem dX5_goBehind_18 : decode cX5_goBehind 18 = .ok (.getfield 53, 3) := by decide +kernel
theorem dX5_goBehind_21 : decode cX5_goBehind 21 = .ok (.aload_n 0, 1) := by decide +kernel
theorem dX5_goBehind_22 : decode cX5_goBehind 22 = .ok (.getfield 9, 3) := by decide +kernel
theorem dX5_goBehind_25 : decode cX5_goBehind 25 = .ok (.arraylength, 1) := by decide +kernel
theorem dX5_goBehind_26 : decode cX5_goBehind 26 = .ok (.invokestatic 50, 3) := by decide +kernel
theorem dX5_goBehind_29 : decode cX5_goBehind 29 = .ok (.putfield 47, 3) := by decide +kernel
theorem dX5_goBehind_32 : decode cX5_goBehind 32 = .ok (.aload_n 2, 1) := by decide +kernel
theorem dX5_goBehind_33 : decode cX5_goBehind 33 = .ok (.getfield 58, 3) := by decide +kernel
theorem dX5_goBehind_36 : decode cX5_goBehind 36 = .ok (.iconst 0, 1) := by decide +kernel
theorem dX5_goBehind_37 : decode cX5_goBehind 37 = .ok (.aload_n 0, 1) := by decide +kernel
theorem dX5_goBehind_38 : decode cX5_goBehind 38 = .ok (.getfield 9, 3) := by decide +kernel
theorem dX5_goBehind_41 : decode cX5_goBehind 41 = .ok (.iconst 0, 1) := by decide +kernel
theorem dX5_goBehind_42 : decode cX5_goBehind 42 = .ok (.aload_n 0, 1) := by decide +kernel
theorem dX5_goBehind_43 : decode cX5_goBehind 43 = .ok (.getfield 47, 3) := by decide +kernel
theorem dX5_goBehind_46 : decode cX5_goBehind 46 = .ok (.invokestatic 61, 3) := by decide +kernel
theorem dX5_goBehind_49 : decode cX5_goBehind 49 = .ok (.return_, 1) := by decide +kernel
set_option maxRecDepth 100000 in
set_option maxHeartbeats 4000000 in
theorem c_X5_goBehind (l : Launch) (D : va_G) (t : Nat → ClassId) (G : GE) (κ : CS) (h : Nat) (a1 : Int32) (a2 : Option Nat) (post : CS → Prop) (hw : F_X5_goBehind G h a1 a2 post κ) (sz : Nat) : CMv l D t yX5_goBehind cX5_goBehind 3 1 40 G κ sz [.ref h, .int a1, va_rf a2] post := by
  refine c_go (by decide) (by cases a2 <;> exact Nat.le_of_ble_eq_true rfl) ?_
  intro p e s m below meth c ls A hF hr hlk hin hAe hH hA hE hl
  unfold cB
  rw [hAe]
  clear hAe
  have hF : FX p m c cX5_goBehind 3 s _ RX5 D t := hF
  have hx := hF.1.1
  have hb := hF.1.2.1
  have hl : lv_has ls 3 [(0, .ref h), (1, .int a1), (2, va_rf a2)] := (by have h2 := hl; clear hw; revert h2; cases a2 <;> exact id)
  unfold F_X5_goBehind at hw
  refine lv_aload_n hx hb dX5_goBehind_0 rfl (lv_at hl 0 rfl) ?_
  refine lv_iload_n hx hb dX5_goBehind_1 rfl (lv_at hl 1 rfl) ?_
  refine lv_iconst (v := 1) hx hb dX5_goBehind_2 (by decide) ?_
  refine lv_iadd hx hb dX5_goBehind_3 ?_
  refine w_nmi hw (fun z1 hw => ?_)
  refine lv_iconst (v := 2) hx hb dX5_goBehind_4 (by decide) ?_
  refine cw_mmin hF hH hl.1 (wc_30 11 rfl) (wc_10 25 rfl) (wc_5 5 rfl) (wc_10 24 rfl) (Nat.le_of_ble_eq_true rfl) (Nat.le_of_ble_eq_true rfl) dX5_goBehind_5 hw (fun z3 hw => ?_)
  refine cw_putIr (a := h) (v := z3) hF hH fk_X5_43 dX5_goBehind_8 rfl rfl rfl hw (fun κ4 H locs cells slots hw hH => ?_)
  refine lv_iload_n hx hb dX5_goBehind_11 rfl (lv_at hl 1 rfl) ?_
  refine lv_iconst (v := 2) hx hb dX5_goBehind_12 (by decide) ?_
  obtain ⟨K7, hK8, hw⟩ := jc_open hw
  refine cw_join (K := K7) 49 (fun (x5 : Unit) => []) (fun (x5 : Unit) => []) hl hH (fun x5 κ6 ls H locs cells slots hl hw hH => ?_) (fun jn9 => ?_)
  · have hw := hK8 x5 κ6 hw
    have hl : lv_has ls 3 [] := hl
    exact cw_retv hF hH ⟨rfl, rfl⟩ hr hlk dX5_goBehind_49 hw
  · skip
    refine w_icmp_ne (tgt := 49) hF dX5_goBehind_13 rfl hw (fun hw => ?_) (fun hw => ?_)
    · have hl : lv_has ls 3 [] := lv_sub hl [] rfl
      exact jn9 () κ4 ls _ _ _ _ hl hw hH
    · refine lv_aload_n hx hb dX5_goBehind_16 rfl (lv_at hl 0 rfl) ?_
      refine w_aloadq_n hF dX5_goBehind_17 rfl (lv_at hl 2 rfl) ?_
      refine cw_getI (q := a2) hF hH fk_X5_53 dX5_goBehind_18 hw (fun z10 hw => ?_)
      refine lv_aload_n hx hb dX5_goBehind_21 rfl (lv_at hl 0 rfl) ?_
      refine cw_getPr (a := h) hF hH fk_X5_9 dX5_goBehind_22 hw (fun z11 hw => ?_)
      refine cw_alen (q := z11) hF hH hE dX5_goBehind_25 hw (fun z12 hw => ?_)
      refine cw_mmin hF hH hl.1 (wc_30 11 rfl) (wc_10 25 rfl) (wc_5 5 rfl) (wc_10 24 rfl) (Nat.le_of_ble_eq_true rfl) (Nat.le_of_ble_eq_true rfl) dX5_goBehind_26 hw (fun z14 hw => ?_)
      refine cw_putIr (a := h) (v := z14) hF hH fk_X5_47 dX5_goBehind_29 rfl rfl rfl hw (fun κ15 H locs cells slots hw hH => ?_)
      refine w_aloadq_n hF dX5_goBehind_32 rfl (lv_at hl 2 rfl) ?_
      refine cw_getP (q := a2) hF hH fk_X5_58 dX5_goBehind_33 hw (fun z16 hw => ?_)
      refine lv_iconst (v := 0) hx hb dX5_goBehind_36 (by decide) ?_
      refine lv_aload_n hx hb dX5_goBehind_37 rfl (lv_at hl 0 rfl) ?_
      refine cw_getPr (a := h) hF hH fk_X5_9 dX5_goBehind_38 hw (fun z17 hw => ?_)
      refine lv_iconst (v := 0) hx hb dX5_goBehind_41 (by decide) ?_
      refine lv_aload_n hx hb dX5_goBehind_42 rfl (lv_at hl 0 rfl) ?_
      refine cw_getIr (a := h) hF hH fk_X5_47 dX5_goBehind_43 hw (fun z18 hw => ?_)
      refine cw_copyB (q0 := z16) (q1 := z17) hF hH (wc_30 12 rfl) (wc_10 14 rfl) (wc_10 15 rfl) (wc_5 17 rfl) (Nat.le_of_ble_eq_true rfl) (Nat.le_of_ble_eq_true rfl) hl.1 dX5_goBehind_46 hw (fun κ19 H locs cells slots hw hH => ?_)
      have hl : lv_has ls 3 [] := lv_sub hl [] rfl
      exact jn9 () κ19 ls _ _ _ _ hl hw hH
set_option maxRecDepth 100000 in
def F_X5_matches (G : GE) (h : Nat) (a1 : Option Nat) (a2 : Int32) (post : Int32 → CS → Prop) (κ : CS) : Prop := (h ∈ sL κ.1 ∧ sK κ.1 h = 10) ∧ ∀ z1 : Option Nat, z1 = sP κ.1 h 11 → jc (fun (K4 : Unit → CS → Prop) => ((z1 = none) → K4 () κ) ∧ ((¬ z1 = none) → ((a2.toInt < 0) → K4 () κ) ∧ ((0 ≤ a2.toInt) → ∃ n : Nat, AL G κ a1 n ∧ ∀ z7 : Int32, z7 = nI n → ((z7.toInt < a2.toInt) → K4 () κ) ∧ ((a2.toInt ≤ z7.toInt) → ((a2.toInt ≤ (12 : Int32).toInt) → lc (fun (K10 : (Int32 × Int32) → CS → Prop) (x8 : Int32 × Int32) (κ9 : CS) => (h ∈ sL κ9.1 ∧ sK κ9.1 h = 10) ∧ ∀ z12 : Option Nat, z12 = sP κ9.1 h 11 → ∃ n : Nat, AL G κ9 z12 n ∧ ∀ z13 : Int32, z13 = nI n → ((z13.toInt ≤ x8.1.toInt) → ∀ z14 : Int32, z14 = x8.2 >>> (a2 &&& 31) → ∀ z15 : Int32, z15 = z14 &&& 1 → jc (fun (K18 : Int32 → CS → Prop) => ((z15.toInt = 0) → K18 0 κ9) ∧ ((¬ z15.toInt = 0) → K18 1 κ9)) (fun (x16 : Int32) (κ17 : CS) => (0 ≤ x16.toInt ∧ x16.toInt ≤ 1) ∧ post x16 κ17)) ∧ ((x8.1.toInt < z13.toInt) → (h ∈ sL κ9.1 ∧ sK κ9.1 h = 10) ∧ ∀ z21 : Option Nat, z21 = sP κ9.1 h 11 → ∃ b : Nat, z21 = some b ∧ (b ∈ sL κ9.1 ∧ sK κ9.1 b = 21) ∧ (0 ≤ x8.1.toInt ∧ x8.1.toInt < (sN κ9.1 b : Int)) ∧ ∀ z22 : Int32, z22 = sI κ9.1 b x8.1.toInt.toNat → jc (fun (K25 : Int32 → CS → Prop) => ((¬ z22.toInt = (42 : Int32).toInt) → K25 0 κ9) ∧ ((z22.toInt = (42 : Int32).toInt) → K25 1 κ9)) (fun (x23 : Int32) (κ24 : CS) => jc (fun (K30 : Int32 → CS → Prop) => ((x23.toInt = 0) → K30 0 κ24) ∧ ((¬ x23.toInt = 0) → ∀ z83 : Int32, z83 = x8.2 &&& 1 → K30 z83 κ24)) (fun (x28 : Int32) (κ29 : CS) => lc (fun (K35 : (Int32 × Int32) → CS → Prop) (x33 : Int32 × Int32) (κ34 : CS) => ((a2.toInt ≤ x33.1.toInt) → ∀ z37 : Int32, z37 = x8.1 + 1 → K10 (z37, x33.2) κ34) ∧ ((x33.1.toInt < a2.toInt) → (h ∈ sL κ34.1 ∧ sK κ34.1 h = 10) ∧ ∀ z38 : Option Nat, z38 = sP κ34.1 h 11 → ∃ b : Nat, z38 = some b ∧ (b ∈ sL κ34.1 ∧ sK κ34.1 b = 21) ∧ (0 ≤ x8.1.toInt ∧ x8.1.toInt < (sN κ34.1 b : Int)) ∧ ∀ z39 : Int32, z39 = sI κ34.1 b x8.1.toInt.toNat → jc (fun (K42 : Int32 → CS → Prop) => jc (fun (K73 : Unit → CS → Prop) => ((z39.toInt = (63 : Int32).toInt) → K73 () κ34) ∧ ((¬ z39.toInt = (63 : Int32).toInt) → (h ∈ sL κ34.1 ∧ sK κ34.1 h = 10) ∧ ∀ z76 : Option Nat, z76 = sP κ34.1 h 11 → ∃ b : Nat, z76 = some b ∧ (b ∈ sL κ34.1 ∧ sK κ34.1 b = 21) ∧ (0 ≤ x8.1.toInt ∧ x8.1.toInt < (sN κ34.1 b : Int)) ∧ ∀ z77 : Int32, z77 = sI κ34.1 b x8.1.toInt.toNat → F_X11_upper G z77 (fun (z79 : Int32) (κ78 : CS) => ∃ (f : Nat → Int32) (n : Nat), BA G κ78 a1 f n ∧ (0 ≤ x33.1.toInt ∧ x33.1.toInt < (n : Int)) ∧ ∀ z80 : Int32, z80 = f x33.1.toInt.toNat → F_X11_upper G z80 (fun (z82 : Int32) (κ81 : CS) => ((¬ z79.toInt = z82.toInt) → K42 0 κ81) ∧ ((z79.toInt = z82.toInt) → K73 () κ81)) κ78) κ34)) (fun (x71 : Unit) (κ72 : CS) => K42 1 κ72)) (fun (x40 : Int32) (κ41 : CS) => jc (fun (K47 : Int32 → CS → Prop) => ((x23.toInt = 0) → jc (fun (K61 : Unit → CS → Prop) => ((x40.toInt = 0) → K61 () κ41) ∧ ((¬ x40.toInt = 0) → ∀ z64 : Int32, z64 = x8.2 >>> (x33.1 &&& 31) → ∀ z65 : Int32, z65 = z64 &&& 1 → ((z65.toInt = 0) → K61 () κ41) ∧ ((¬ z65.toInt = 0) → K47 1 κ41))) (fun (x59 : Unit) (κ60 : CS) => K47 0 κ60)) ∧ ((¬ x23.toInt = 0) → ∀ z66 : Int32, z66 = x33.1 + 1 → ∀ z67 : Int32, z67 = x8.2 >>> (z66 &&& 31) → ∀ z68 : Int32, z68 = x33.2 >>> (x33.1 &&& 31) → ∀ z69 : Int32, z69 = z67 ||| z68 → ∀ z70 : Int32, z70 = z69 &&& 1 → ((z70.toInt = 0) → K47 0 κ41) ∧ ((¬ z70.toInt = 0) → K47 1 κ41))) (fun (x45 : Int32) (κ46 : CS) => jc (fun (K52 : Int32 → CS → Prop) => ((x45.toInt = 0) → K52 0 κ46) ∧ ((¬ x45.toInt = 0) → ∀ z57 : Int32, z57 = x33.1 + 1 → ∀ z58 : Int32, z58 = 1 <<< (z57 &&& 31) → K52 z58 κ46)) (fun (x50 : Int32) (κ51 : CS) => ∀ z55 : Int32, z55 = x33.2 ||| x50 → ∀ z56 : Int32, z56 = x33.1 + 1 → K35 (z56, z55) κ51))))) (0, x28) κ29)))) (0, 1) κ) ∧ (((12 : Int32).toInt < a2.toInt) → K4 () κ))))) (fun (x2 : Unit) (κ3 : CS) => (0 ≤ (0 : Int32).toInt ∧ (0 : Int32).toInt ≤ 1) ∧ post 0 κ3)
theorem dX5_matches_0 : decode cX5_matches 0 = .ok (.aload_n 0, 1) := by decide +kernel
theorem dX5_matches_1 : decode cX5_matches 1 = .ok (.getfield 33, 3) := by decide +kernel
theorem dX5_matches_4 : decode cX5_matches 4 = .ok (.ifnull 19, 3) := by decide +kernel
theorem dX5_matches_7 : decode cX5_matches 7 = .ok (.iload_n 2, 1) := by decide +kernel
theorem dX5_matches_8 : decode cX5_matches 8 = .ok (.ifCond .lt 15, 3) := by decide +kernel
theorem dX5_matches_11 : decode cX5_matches 11 = .ok (.iload_n 2, 1) := by decide +kernel
theorem dX5_matches_12 : decode cX5_matches 12 = .ok (.aload_n 1, 1) := by decide +kernel
theorem dX5_matches_13 : decode cX5_matches 13 = .ok (.arraylength, 1) := by decide +kernel
theorem dX5_matches_14 : decode cX5_matches 14 = .ok (.if_icmp .gt 9, 3) := by decide +kernel
theorem dX5_matches_17 : decode cX5_matches 17 = .ok (.iload_n 2, 1) := by decide +kernel
theorem dX5_matches_18 : decode cX5_matches 18 = .ok (.bipush 12, 2) := by decide +kernel
theorem dX5_matches_20 : decode cX5_matches 20 = .ok (.if_icmp .le 5, 3) := by decide +kernel
theorem dX5_matches_23 : decode cX5_matches 23 = .ok (.iconst 0, 1) := by decide +kernel
theorem dX5_matches_24 : decode cX5_matches 24 = .ok (.ireturn, 1) := by decide +kernel
theorem dX5_matches_25 : decode cX5_matches 25 = .ok (.iconst 1, 1) := by decide +kernel
theorem dX5_matches_26 : decode cX5_matches 26 = .ok (.istore_n 3, 1) := by decide +kernel
theorem dX5_matches_27 : decode cX5_matches 27 = .ok (.iconst 0, 1) := by decide +kernel
theorem dX5_matches_28 : decode cX5_matches 28 = .ok (.istore 4, 2) := by decide +kernel
theorem dX5_matches_30 : decode cX5_matches 30 = .ok (.iload 4, 2) := by decide +kernel
theorem dX5_matches_32 : decode cX5_matches 32 = .ok (.aload_n 0, 1) := by decide +kernel
theorem dX5_matches_33 : decode cX5_matches 33 = .ok (.getfield 33, 3) := by decide +kernel
theorem dX5_matches_36 : decode cX5_matches 36 = .ok (.arraylength, 1) := by decide +kernel
theorem dX5_matches_37 : decode cX5_matches 37 = .ok (.if_icmp .ge 170, 3) := by decide +kernel
theorem dX5_matches_40 : decode cX5_matches 40 = .ok (.aload_n 0, 1) := by decide +kernel
theorem dX5_matches_41 : decode cX5_matches 41 = .ok (.getfield 33, 3) := by decide +kernel
theorem dX5_matches_44 : decode cX5_matches 44 = .ok (.iload 4, 2) := by decide +kernel
theorem dX5_matches_46 : decode cX5_matches 46 = .ok (.iaload, 1) := by decide +kernel
theorem dX5_matches_47 : decode cX5_matches 47 = .ok (.bipush 42, 2) := by decide +kernel
theorem dX5_matches_49 : decode cX5_matches 49 = .ok (.if_icmp .ne 7, 3) := by decide +kernel
theorem dX5_matches_52 : decode cX5_matches 52 = .ok (.iconst 1, 1) := by decide +kernel
theorem dX5_matches_53 : decode cX5_matches 53 = .ok (.goto 4, 3) := by decide +kernel
theorem dX5_matches_56 : decode cX5_matches 56 = .ok (.iconst 0, 1) := by decide +kernel
theorem dX5_matches_57 : decode cX5_matches 57 = .ok (.istore 5, 2) := by decide +kernel
theorem dX5_matches_59 : decode cX5_matches 59 = .ok (.iload 5, 2) := by decide +kernel
theorem dX5_matches_61 : decode cX5_matches 61 = .ok (.ifCond .eq 9, 3) := by decide +kernel
theorem dX5_matches_64 : decode cX5_matches 64 = .ok (.iload_n 3, 1) := by decide +kernel
theorem dX5_matches_65 : decode cX5_matches 65 = .ok (.iconst 1, 1) := by decide +kernel
theorem dX5_matches_66 : decode cX5_matches 66 = .ok (.iand, 1) := by decide +kernel
theorem dX5_matches_67 : decode cX5_matches 67 = .ok (.goto 4, 3) := by decide +kernel
theorem dX5_matches_70 : decode cX5_matches 70 = .ok (.iconst 0, 1) := by decide +kernel
theorem dX5_matches_71 : decode cX5_matches 71 = .ok (.istore 6, 2) := by decide +kernel
theorem dX5_matches_73 : decode cX5_matches 73 = .ok (.iconst 0, 1) := by decide +kernel
theorem dX5_matches_74 : decode cX5_matches 74 = .ok (.istore 7, 2) := by decide +kernel
theorem dX5_matches_76 : decode cX5_matches 76 = .ok (.iload 7, 2) := by decide +kernel
theorem dX5_matches_78 : decode cX5_matches 78 = .ok (.iload_n 2, 1) := by decide +kernel
theorem dX5_matches_79 : decode cX5_matches 79 = .ok (.if_icmp .ge 119, 3) := by decide +kernel
theorem dX5_matches_82 : decode cX5_matches 82 = .ok (.aload_n 0, 1) := by decide +kernel
theorem dX5_matches_83 : decode cX5_matches 83 = .ok (.getfield 33, 3) := by decide +kernel
theorem dX5_matches_86 : decode cX5_matches 86 = .ok (.iload 4, 2) := by decide +kernel
theorem dX5_matches_88 : decode cX5_matches 88 = .ok (.iaload, 1) := by decide +kernel
theorem dX5_matches_89 : decode cX5_matches 89 = .ok (.bipush 63, 2) := by decide +kernel
theorem dX5_matches_91 : decode cX5_matches 91 = .ok (.if_icmp .eq 23, 3) := by decide +kernel
theorem dX5_matches_94 : decode cX5_matches 94 = .ok (.aload_n 0, 1) := by decide +kernel
theorem dX5_matches_95 : decode cX5_matches 95 = .ok (.getfield 33, 3) := by decide +kernel
theorem dX5_matches_98 : decode cX5_matches 98 = .ok (.iload 4, 2) := by decide +kernel
theorem dX5_matches_100 : decode cX5_matches 100 = .ok (.iaload, 1) := by decide +kernel
theorem dX5_matches_101 : decode cX5_matches 101 = .ok (.invokestatic 67, 3) := by decide +kernel
theorem dX5_matches_104 : decode cX5_matches 104 = .ok (.aload_n 1, 1) := by decide +kernel
theorem dX5_matches_105 : decode cX5_matches 105 = .ok (.iload 7, 2) := by decide +kernel
theorem dX5_matches_107 : decode cX5_matches 107 = .ok (.baload, 1) := by decide +kernel
theorem dX5_matches_108 : decode cX5_matches 108 = .ok (.invokestatic 67, 3) := by decide +kernel
theorem dX5_matches_111 : decode cX5_matches 111 = .ok (.if_icmp .ne 7, 3) := by decide +kernel
theorem dX5_matches_114 : decode cX5_matches 114 = .ok (.iconst 1, 1) := by decide +kernel
theorem dX5_matches_115 : decode cX5_matches 115 = .ok (.goto 4, 3) := by decide +kernel
theorem dX5_matches_118 : decode cX5_matches 118 = .ok (.iconst 0, 1) := by decide +kernel
theorem dX5_matches_119 : decode cX5_matches 119 = .ok (.istore 8, 2) := by decide +kernel
theorem dX5_matches_121 : decode cX5_matches 121 = .ok (.iload 5, 2) := by decide +kernel
theorem dX5_matches_123 : decode cX5_matches 123 = .ok (.ifCond .eq 28, 3) := by decide +kernel
theorem dX5_matches_126 : decode cX5_matches 126 = .ok (.iload_n 3, 1) := by decide +kernel
theorem dX5_matches_127 : decode cX5_matches 127 = .ok (.iload 7, 2) := by decide +kernel
theorem dX5_matches_129 : decode cX5_matches 129 = .ok (.iconst 1, 1) := by decide +kernel
theorem dX5_matches_130 : decode cX5_matches 130 = .ok (.iadd, 1) := by decide +kernel
theorem dX5_matches_131 : decode cX5_matches 131 = .ok (.ishr, 1) := by decide +kernel
theorem dX5_matches_132 : decode cX5_matches 132 = .ok (.iload 6, 2) := by decide +kernel
theorem dX5_matches_134 : decode cX5_matches 134 = .ok (.iload 7, 2) := by decide +kernel
theorem dX5_matches_136 : decode cX5_matches 136 = .ok (.ishr, 1) := by decide +kernel
theorem dX5_matches_137 : decode cX5_matches 137 = .ok (.ior, 1) := by decide +kernel
theorem dX5_matches_138 : decode cX5_matches 138 = .ok (.iconst 1, 1) := by decide +kernel
theorem dX5_matches_139 : decode cX5_matches 139 = .ok (.iand, 1) := by decide +kernel
theorem dX5_matches_140 : decode cX5_matches 140 = .ok (.ifCond .eq 7, 3) := by decide +kernel
theorem dX5_matches_143 : decode cX5_matches 143 = .ok (.iconst 1, 1) := by decide +kernel
theorem dX5_matches_144 : decode cX5_matches 144 = .ok (.goto 26, 3) := by decide +kernel
theorem dX5_matches_147 : decode cX5_matches 147 = .ok (.iconst 0, 1) := by decide +kernel
theorem dX5_matches_148 : decode cX5_matches 148 = .ok (.goto 22, 3) := by decide +kernel
theorem dX5_matches_151 : decode cX5_matches 151 = .ok (.iload 8, 2) := by decide +kernel
theorem dX5_matches_153 : decode cX5_matches 153 = .ok (.ifCond .eq 16, 3) := by decide +kernel
theorem dX5_matches_156 : decode cX5_matches 156 = .ok (.iload_n 3, 1) := by decide +kernel
theorem dX5_matches_157 : decode cX5_matches 157 = .ok (.iload 7, 2) := by decide +kernel
theorem dX5_matches_159 : decode cX5_matches 159 = .ok (.ishr, 1) := by decide +kernel
theorem dX5_matches_160 : decode cX5_matches 160 = .ok (.iconst 1, 1) := by decide +kernel
theorem dX5_matches_161 : decode cX5_matches 161 = .ok (.iand, 1) := by decide +kernel
theorem dX5_matches_162 : decode cX5_matches 162 = .ok (.ifCond .eq 7, 3) := by decide +kernel
theorem dX5_matches_165 : decode cX5_matches 165 = .ok (.iconst 1, 1) := by decide +kernel
theorem dX5_matches_166 : decode cX5_matches 166 = .ok (.goto 4, 3) := by decide +kernel
theorem dX5_matches_169 : decode cX5_matches 169 = .ok (.iconst 0, 1) := by decide +kernel
theorem dX5_matches_170 : decode cX5_matches 170 = .ok (.istore 9, 2) := by decide +kernel
theorem dX5_matches_172 : decode cX5_matches 172 = .ok (.iload 6, 2) := by decide +kernel
theorem dX5_matches_174 : decode cX5_matches 174 = .ok (.iload 9, 2) := by decide +kernel
theorem dX5_matches_176 : decode cX5_matches 176 = .ok (.ifCond .eq 12, 3) := by decide +kernel
theorem dX5_matches_179 : decode cX5_matches 179 = .ok (.iconst 1, 1) := by decide +kernel
theorem dX5_matches_180 : decode cX5_matches 180 = .ok (.iload 7, 2) := by decide +kernel
theorem dX5_matches_182 : decode cX5_matches 182 = .ok (.iconst 1, 1) := by decide +kernel
theorem dX5_matches_183 : decode cX5_matches 183 = .ok (.iadd, 1) := by decide +kernel
theorem dX5_matches_184 : decode cX5_matches 184 = .ok (.ishl, 1) := by decide +kernel
theorem dX5_matches_185 : decode cX5_matches 185 = .ok (.goto 4, 3) := by decide +kernel
theorem dX5_matches_188 : decode cX5_matches 188 = .ok (.iconst 0, 1) := by decide +kernel
theorem dX5_matches_189 : decode cX5_matches 189 = .ok (.ior, 1) := by decide +kernel
theorem dX5_matches_190 : decode cX5_matches 190 = .ok (.istore 6, 2) := by decide +kernel
theorem dX5_matches_192 : decode cX5_matches 192 = .ok (.iinc 7 1, 3) := by decide +kernel
theorem dX5_matches_195 : decode cX5_matches 195 = .ok (.goto (-119), 3) := by decide +kernel
theorem dX5_matches_198 : decode cX5_matches 198 = .ok (.iload 6, 2) := by decide +kernel
theorem dX5_matches_200 : decode cX5_matches 200 = .ok (.istore_n 3, 1) := by decide +kernel
theorem dX5_matches_201 : decode cX5_matches 201 = .ok (.iinc 4 1, 3) := by decide +kernel
theorem dX5_matches_204 : decode cX5_matches 204 = .ok (.goto (-174), 3) := by decide +kernel
theorem dX5_matches_207 : decode cX5_matches 207 = .ok (.iload_n 3, 1) := by decide +kernel
theorem dX5_matches_208 : decode cX5_matches 208 = .ok (.iload_n 2, 1) := by decide +kernel
theorem dX5_matches_209 : decode cX5_matches 209 = .ok (.ishr, 1) := by decide +kernel
theorem dX5_matches_210 : decode cX5_matches 210 = .ok (.iconst 1, 1) := by decide +kernel
theorem dX5_matches_211 : decode cX5_matches 211 = .ok (.iand, 1) := by decide +kernel
theorem dX5_matches_212 : decode cX5_matches 212 = .ok (.ifCond .eq 7, 3) := by decide +kernel
theorem dX5_matches_215 : decode cX5_matches 215 = .ok (.iconst 1, 1) := by decide +kernel
theorem dX5_matches_216 : decode cX5_matches 216 = .ok (.goto 4, 3) := by decide +kernel
theorem dX5_matches_219 : decode cX5_matches 219 = .ok (.iconst 0, 1) := by decide +kernel
theorem dX5_matches_220 : decode cX5_matches 220 = .ok (.ireturn, 1) := by decide +kernel
set_option maxRecDepth 100000 in
set_option maxHeartbeats 4000000 in
theorem c_X5_matches (l : Launch) (D : va_G) (t : Nat → ClassId) (G : GE) (κ : CS) (h : Nat) (a1 : Option Nat) (a2 : Int32) (post : Int32 → CS → Prop) (hw : F_X5_matches G h a1 a2 post κ) (sz : Nat) : CMi l D t yX5_matches cX5_matches 10 (some .boolean) 1 34 G κ sz [.ref h, va_rf a1, .int a2] post := by
  refine c_go (by decide) (by cases a1 <;> exact Nat.le_of_ble_eq_true rfl) ?_
  intro p e s m below meth c ls A hF hr hlk hin hAe hH hA hE hl
  unfold cB
  rw [hAe]
  clear hAe
  have hF : FX p m c cX5_matches 10 s _ RX5 D t := hF
  have hx := hF.1.1
  have hb := hF.1.2.1
  have hl : lv_has ls 10 [(0, .ref h), (1, va_rf a1), (2, .int a2)] := (by have h2 := hl; clear hw; revert h2; cases a1 <;> exact id)
  unfold F_X5_matches at hw
  refine lv_aload_n hx hb dX5_matches_0 rfl (lv_at hl 0 rfl) ?_
  refine cw_getPr (a := h) hF hH fk_X5_33 dX5_matches_1 hw (fun z1 hw => ?_)
  obtain ⟨K4, hK5, hw⟩ := jc_open hw
  refine cw_join (K := K4) 23 (fun (x2 : Unit) => []) (fun (x2 : Unit) => []) hl hH (fun x2 κ3 ls H locs cells slots hl hw hH => ?_) (fun jn6 => ?_)
  · have hw := hK5 x2 κ3 hw
    have hl : lv_has ls 10 [] := hl
    refine lv_iconst (v := 0) hx hb dX5_matches_23 (by decide) ?_
    exact cw_retz hF hH ⟨rfl, rfl⟩ hr hlk dX5_matches_24 hw
  · skip
    refine cw_ifnull (q := z1) (tgt := 23) hF dX5_matches_4 rfl hw (fun hw => ?_) (fun hw => ?_)
    · have hl : lv_has ls 10 [] := lv_sub hl [] rfl
      exact jn6 () κ ls _ _ _ _ hl hw hH
    · refine lv_iload_n hx hb dX5_matches_7 rfl (lv_at hl 2 rfl) ?_
      refine w_if_lt (tgt := 23) hF dX5_matches_8 rfl hw (fun hw => ?_) (fun hw => ?_)
      · have hl : lv_has ls 10 [] := lv_sub hl [] rfl
        exact jn6 () κ ls _ _ _ _ hl hw hH
      · refine lv_iload_n hx hb dX5_matches_11 rfl (lv_at hl 2 rfl) ?_
        refine w_aloadq_n hF dX5_matches_12 rfl (lv_at hl 1 rfl) ?_
        refine cw_alen (q := a1) hF hH hE dX5_matches_13 hw (fun z7 hw => ?_)
        refine w_icmp_gt (tgt := 23) hF dX5_matches_14 rfl hw (fun hw => ?_) (fun hw => ?_)
        · have hl : lv_has ls 10 [] := lv_sub hl [] rfl
          exact jn6 () κ ls _ _ _ _ hl hw hH
        · refine lv_iload_n hx hb dX5_matches_17 rfl (lv_at hl 2 rfl) ?_
          refine lv_bipush (v := 12) hx hb dX5_matches_18 (by decide) ?_
          refine w_icmp_le (tgt := 25) hF dX5_matches_20 rfl hw (fun hw => ?_) (fun hw => ?_)
          · refine lv_iconst (v := 1) hx hb dX5_matches_25 (by decide) ?_
            refine lv_istore_n (lv' := [(3, .int 1), (0, .ref h), (1, va_rf a1), (2, .int a2)]) hx hb dX5_matches_26 rfl hl (by decide) rfl (fun ls hl => ?_)
            refine lv_iconst (v := 0) hx hb dX5_matches_27 (by decide) ?_
            refine lv_istore (lv' := [(4, .int 0), (3, .int 1), (0, .ref h), (1, va_rf a1), (2, .int a2)]) hx hb dX5_matches_28 hl (by decide) rfl (fun ls hl => ?_)
            have hl : lv_has ls 10 [(4, .int 0), (3, .int 1), (2, .int a2), (1, va_rf a1), (0, .ref h)] := lv_sub hl [0, 1, 4, 3, 2] rfl
            refine cw_loop (β := Int32 × Int32) (fun x8 => [(4, .int x8.1), (3, .int x8.2), (2, .int a2), (1, va_rf a1), (0, .ref h)]) (0, 1) hl hw hH (fun K10 x8 κ9 ls H locs cells slots hl hw hH ih11 => ?_)
            have hl : lv_has ls 10 [(4, .int x8.1), (3, .int x8.2), (2, .int a2), (1, va_rf a1), (0, .ref h)] := hl
            refine lv_iload hx hb dX5_matches_30 (lv_at hl 0 rfl) ?_
            refine lv_aload_n hx hb dX5_matches_32 rfl (lv_at hl 4 rfl) ?_
            refine cw_getPr (a := h) hF hH fk_X5_33 dX5_matches_33 hw (fun z12 hw => ?_)
            refine cw_alen (q := z12) hF hH hE dX5_matches_36 hw (fun z13 hw => ?_)
            refine w_icmp_ge (tgt := 207) hF dX5_matches_37 rfl hw (fun hw => ?_) (fun hw => ?_)
            · refine lv_iload_n hx hb dX5_matches_207 rfl (lv_at hl 1 rfl) ?_
              refine lv_iload_n hx hb dX5_matches_208 rfl (lv_at hl 2 rfl) ?_
              refine lv_ishr hx hb dX5_matches_209 ?_
              refine w_nmi hw (fun z14 hw => ?_)
              refine lv_iconst (v := 1) hx hb dX5_matches_210 (by decide) ?_
              refine lv_iand hx hb dX5_matches_211 ?_
              refine w_nmi hw (fun z15 hw => ?_)
              obtain ⟨K18, hK19, hw⟩ := jc_open hw
              refine cw_join (K := K18) 220 (fun (x16 : Int32) => []) (fun (x16 : Int32) => [.int x16]) hl hH (fun x16 κ17 ls H locs cells slots hl hw hH => ?_) (fun jn20 => ?_)
              · have hw := hK19 x16 κ17 hw
                have hl : lv_has ls 10 [] := hl
                exact cw_retz hF hH ⟨rfl, rfl⟩ hr hlk dX5_matches_220 hw
              · skip
                refine w_if_eq (tgt := 219) hF dX5_matches_212 rfl hw (fun hw => ?_) (fun hw => ?_)
                · refine lv_iconst (v := 0) hx hb dX5_matches_219 (by decide) ?_
                  have hl : lv_has ls 10 [] := lv_sub hl [] rfl
                  exact jn20 0 κ9 ls _ _ _ _ hl hw hH
                · refine lv_iconst (v := 1) hx hb dX5_matches_215 (by decide) ?_
                  refine lv_goto (tgt := 220) hx hb dX5_matches_216 rfl ?_
                  have hl : lv_has ls 10 [] := lv_sub hl [] rfl
                  exact jn20 1 κ9 ls _ _ _ _ hl hw hH
            · refine lv_aload_n hx hb dX5_matches_40 rfl (lv_at hl 4 rfl) ?_
              refine cw_getPr (a := h) hF hH fk_X5_33 dX5_matches_41 hw (fun z21 hw => ?_)
              refine lv_iload hx hb dX5_matches_44 (lv_at hl 0 rfl) ?_
              refine cw_iald (q := z21) hF hH dX5_matches_46 hw (fun z22 hw => ?_)
              refine lv_bipush (v := 42) hx hb dX5_matches_47 (by decide) ?_
              obtain ⟨K25, hK26, hw⟩ := jc_open hw
              refine cw_join (K := K25) 57 (fun (x23 : Int32) => [(4, .int x8.1), (3, .int x8.2), (2, .int a2), (1, va_rf a1), (0, .ref h)]) (fun (x23 : Int32) => [.int x23]) hl hH (fun x23 κ24 ls H locs cells slots hl hw hH => ?_) (fun jn27 => ?_)
              · have hw := hK26 x23 κ24 hw
                have hl : lv_has ls 10 [(4, .int x8.1), (3, .int x8.2), (2, .int a2), (1, va_rf a1), (0, .ref h)] := hl
                refine lv_istore (lv' := [(5, .int x23), (4, .int x8.1), (3, .int x8.2), (2, .int a2), (1, va_rf a1), (0, .ref h)]) hx hb dX5_matches_57 hl (by decide) rfl (fun ls hl => ?_)
                refine lv_iload hx hb dX5_matches_59 (lv_at hl 0 rfl) ?_
                obtain ⟨K30, hK31, hw⟩ := jc_open hw
                refine cw_join (K := K30) 71 (fun (x28 : Int32) => [(5, .int x23), (4, .int x8.1), (3, .int x8.2), (2, .int a2), (1, va_rf a1), (0, .ref h)]) (fun (x28 : Int32) => [.int x28]) hl hH (fun x28 κ29 ls H locs cells slots hl hw hH => ?_) (fun jn32 => ?_)
                · have hw := hK31 x28 κ29 hw
                  have hl : lv_has ls 10 [(5, .int x23), (4, .int x8.1), (3, .int x8.2), (2, .int a2), (1, va_rf a1), (0, .ref h)] := hl
                  refine lv_istore (lv' := [(6, .int x28), (5, .int x23), (4, .int x8.1), (3, .int x8.2), (2, .int a2), (1, va_rf a1), (0, .ref h)]) hx hb dX5_matches_71 hl (by decide) rfl (fun ls hl => ?_)
                  refine lv_iconst (v := 0) hx hb dX5_matches_73 (by decide) ?_
                  refine lv_istore (lv' := [(7, .int 0), (6, .int x28), (5, .int x23), (4, .int x8.1), (3, .int x8.2), (2, .int a2), (1, va_rf a1), (0, .ref h)]) hx hb dX5_matches_74 hl (by decide) rfl (fun ls hl => ?_)
                  refine cw_loop (β := Int32 × Int32) (fun x33 => [(7, .int x33.1), (6, .int x33.2), (5, .int x23), (4, .int x8.1), (3, .int x8.2), (2, .int a2), (1, va_rf a1), (0, .ref h)]) (0, x28) hl hw hH (fun K35 x33 κ34 ls H locs cells slots hl hw hH ih36 => ?_)
                  have hl : lv_has ls 10 [(7, .int x33.1), (6, .int x33.2), (5, .int x23), (4, .int x8.1), (3, .int x8.2), (2, .int a2), (1, va_rf a1), (0, .ref h)] := hl
                  refine lv_iload hx hb dX5_matches_76 (lv_at hl 0 rfl) ?_
                  refine lv_iload_n hx hb dX5_matches_78 rfl (lv_at hl 5 rfl) ?_
                  refine w_icmp_ge (tgt := 198) hF dX5_matches_79 rfl hw (fun hw => ?_) (fun hw => ?_)
                  · refine lv_iload hx hb dX5_matches_198 (lv_at hl 1 rfl) ?_
                    refine lv_istore_n (lv' := [(3, .int x33.2), (7, .int x33.1), (6, .int x33.2), (5, .int x23), (4, .int x8.1), (2, .int a2), (1, va_rf a1), (0, .ref h)]) hx hb dX5_matches_200 rfl hl (by decide) rfl (fun ls hl => ?_)
                    obtain ⟨z37, ez37⟩ : ∃ z : Int32, z = x8.1 + 1 := ⟨_, rfl⟩
                    have hw := hw z37 ez37
                    refine lv_iinc (lv' := [(4, .int z37), (3, .int x33.2), (7, .int x33.1), (6, .int x33.2), (5, .int x23), (2, .int a2), (1, va_rf a1), (0, .ref h)]) (k := 4) (v := z37) hx hb dX5_matches_201 hl rfl ez37.symm (by decide) rfl (fun ls hl => ?_)
                    refine lv_goto (tgt := 30) hx hb dX5_matches_204 rfl ?_
                    have hl : lv_has ls 10 [(4, .int z37), (3, .int x33.2), (2, .int a2), (1, va_rf a1), (0, .ref h)] := lv_sub hl [0, 1, 5, 6, 7] rfl
                    exact ih11 (z37, x33.2) κ34 ls _ _ _ _ hl hw hH
                  · refine lv_aload_n hx hb dX5_matches_82 rfl (lv_at hl 7 rfl) ?_
                    refine cw_getPr (a := h) hF hH fk_X5_33 dX5_matches_83 hw (fun z38 hw => ?_)
                    refine lv_iload hx hb dX5_matches_86 (lv_at hl 3 rfl) ?_
                    refine cw_iald (q := z38) hF hH dX5_matches_88 hw (fun z39 hw => ?_)
                    refine lv_bipush (v := 63) hx hb dX5_matches_89 (by decide) ?_
                    obtain ⟨K42, hK43, hw⟩ := jc_open hw
                    refine cw_join (K := K42) 119 (fun (x40 : Int32) => [(7, .int x33.1), (6, .int x33.2), (5, .int x23), (4, .int x8.1), (3, .int x8.2), (2, .int a2), (1, va_rf a1), (0, .ref h)]) (fun (x40 : Int32) => [.int x40]) hl hH (fun x40 κ41 ls H locs cells slots hl hw hH => ?_) (fun jn44 => ?_)
                    · have hw := hK43 x40 κ41 hw
                      have hl : lv_has ls 10 [(7, .int x33.1), (6, .int x33.2), (5, .int x23), (4, .int x8.1), (3, .int x8.2), (2, .int a2), (1, va_rf a1), (0, .ref h)] := hl
                      refine lv_istore (lv' := [(8, .int x40), (7, .int x33.1), (6, .int x33.2), (5, .int x23), (4, .int x8.1), (3, .int x8.2), (2, .int a2), (1, va_rf a1), (0, .ref h)]) hx hb dX5_matches_119 hl (by decide) rfl (fun ls hl => ?_)
                      refine lv_iload hx hb dX5_matches_121 (lv_at hl 3 rfl) ?_
                      obtain ⟨K47, hK48, hw⟩ := jc_open hw
                      refine cw_join (K := K47) 170 (fun (x45 : Int32) => [(7, .int x33.1), (6, .int x33.2), (5, .int x23), (4, .int x8.1), (3, .int x8.2), (2, .int a2), (1, va_rf a1), (0, .ref h)]) (fun (x45 : Int32) => [.int x45]) hl hH (fun x45 κ46 ls H locs cells slots hl hw hH => ?_) (fun jn49 => ?_)
                      · have hw := hK48 x45 κ46 hw
                        have hl : lv_has ls 10 [(7, .int x33.1), (6, .int x33.2), (5, .int x23), (4, .int x8.1), (3, .int x8.2), (2, .int a2), (1, va_rf a1), (0, .ref h)] := hl
                        refine lv_istore (lv' := [(9, .int x45), (7, .int x33.1), (6, .int x33.2), (5, .int x23), (4, .int x8.1), (3, .int x8.2), (2, .int a2), (1, va_rf a1), (0, .ref h)]) hx hb dX5_matches_170 hl (by decide) rfl (fun ls hl => ?_)
                        refine lv_iload hx hb dX5_matches_172 (lv_at hl 2 rfl) ?_
                        refine lv_iload hx hb dX5_matches_174 (lv_at hl 0 rfl) ?_
                        obtain ⟨K52, hK53, hw⟩ := jc_open hw
                        refine cw_join (K := K52) 189 (fun (x50 : Int32) => [(7, .int x33.1), (5, .int x23), (4, .int x8.1), (3, .int x8.2), (2, .int a2), (1, va_rf a1), (0, .ref h)]) (fun (x50 : Int32) => [.int x50, .int x33.2]) hl hH (fun x50 κ51 ls H locs cells slots hl hw hH => ?_) (fun jn54 => ?_)
                        · have hw := hK53 x50 κ51 hw
                          have hl : lv_has ls 10 [(7, .int x33.1), (5, .int x23), (4, .int x8.1), (3, .int x8.2), (2, .int a2), (1, va_rf a1), (0, .ref h)] := hl
                          refine lv_ior hx hb dX5_matches_189 ?_
                          refine w_nmi hw (fun z55 hw => ?_)
                          refine lv_istore (lv' := [(6, .int z55), (7, .int x33.1), (5, .int x23), (4, .int x8.1), (3, .int x8.2), (2, .int a2), (1, va_rf a1), (0, .ref h)]) hx hb dX5_matches_190 hl (by decide) rfl (fun ls hl => ?_)
                          obtain ⟨z56, ez56⟩ : ∃ z : Int32, z = x33.1 + 1 := ⟨_, rfl⟩
                          have hw := hw z56 ez56
                          refine lv_iinc (lv' := [(7, .int z56), (6, .int z55), (5, .int x23), (4, .int x8.1), (3, .int x8.2), (2, .int a2), (1, va_rf a1), (0, .ref h)]) (k := 1) (v := z56) hx hb dX5_matches_192 hl rfl ez56.symm (by decide) rfl (fun ls hl => ?_)
                          refine lv_goto (tgt := 76) hx hb dX5_matches_195 rfl ?_
                          exact ih36 (z56, z55) κ51 ls _ _ _ _ hl hw hH
                        · skip
                          refine w_if_eq (tgt := 188) hF dX5_matches_176 rfl hw (fun hw => ?_) (fun hw => ?_)
                          · refine lv_iconst (v := 0) hx hb dX5_matches_188 (by decide) ?_
                            have hl : lv_has ls 10 [(7, .int x33.1), (5, .int x23), (4, .int x8.1), (3, .int x8.2), (2, .int a2), (1, va_rf a1), (0, .ref h)] := lv_sub hl [1, 3, 4, 5, 6, 7, 8] rfl
                            exact jn54 0 κ46 ls _ _ _ _ hl hw hH
                          · refine lv_iconst (v := 1) hx hb dX5_matches_179 (by decide) ?_
                            refine lv_iload hx hb dX5_matches_180 (lv_at hl 1 rfl) ?_
                            refine lv_iconst (v := 1) hx hb dX5_matches_182 (by decide) ?_
                            refine lv_iadd hx hb dX5_matches_183 ?_
                            refine w_nmi hw (fun z57 hw => ?_)
                            refine lv_ishl hx hb dX5_matches_184 ?_
                            refine w_nmi hw (fun z58 hw => ?_)
                            refine lv_goto (tgt := 189) hx hb dX5_matches_185 rfl ?_
                            have hl : lv_has ls 10 [(7, .int x33.1), (5, .int x23), (4, .int x8.1), (3, .int x8.2), (2, .int a2), (1, va_rf a1), (0, .ref h)] := lv_sub hl [1, 3, 4, 5, 6, 7, 8] rfl
                            exact jn54 z58 κ46 ls _ _ _ _ hl hw hH
                      · skip
                        refine w_if_eq (tgt := 151) hF dX5_matches_123 rfl hw (fun hw => ?_) (fun hw => ?_)
                        · refine lv_iload hx hb dX5_matches_151 (lv_at hl 0 rfl) ?_
                          obtain ⟨K61, hK62, hw⟩ := jc_open hw
                          refine cw_join (K := K61) 169 (fun (x59 : Unit) => [(7, .int x33.1), (6, .int x33.2), (5, .int x23), (4, .int x8.1), (3, .int x8.2), (2, .int a2), (1, va_rf a1), (0, .ref h)]) (fun (x59 : Unit) => []) hl hH (fun x59 κ60 ls H locs cells slots hl hw hH => ?_) (fun jn63 => ?_)
                          · have hw := hK62 x59 κ60 hw
                            have hl : lv_has ls 10 [(7, .int x33.1), (6, .int x33.2), (5, .int x23), (4, .int x8.1), (3, .int x8.2), (2, .int a2), (1, va_rf a1), (0, .ref h)] := hl
                            refine lv_iconst (v := 0) hx hb dX5_matches_169 (by decide) ?_
                            exact jn49 0 κ60 ls _ _ _ _ hl hw hH
                          · skip
                            refine w_if_eq (tgt := 169) hF dX5_matches_153 rfl hw (fun hw => ?_) (fun hw => ?_)
                            · have hl : lv_has ls 10 [(7, .int x33.1), (6, .int x33.2), (5, .int x23), (4, .int x8.1), (3, .int x8.2), (2, .int a2), (1, va_rf a1), (0, .ref h)] := lv_sub hl [1, 2, 3, 4, 5, 6, 7, 8] rfl
                              exact jn63 () κ41 ls _ _ _ _ hl hw hH
                            · refine lv_iload_n hx hb dX5_matches_156 rfl (lv_at hl 5 rfl) ?_
                              refine lv_iload hx hb dX5_matches_157 (lv_at hl 1 rfl) ?_
                              refine lv_ishr hx hb dX5_matches_159 ?_
                              refine w_nmi hw (fun z64 hw => ?_)
                              refine lv_iconst (v := 1) hx hb dX5_matches_160 (by decide) ?_
                              refine lv_iand hx hb dX5_matches_161 ?_
                              refine w_nmi hw (fun z65 hw => ?_)
                              refine w_if_eq (tgt := 169) hF dX5_matches_162 rfl hw (fun hw => ?_) (fun hw => ?_)
                              · have hl : lv_has ls 10 [(7, .int x33.1), (6, .int x33.2), (5, .int x23), (4, .int x8.1), (3, .int x8.2), (2, .int a2), (1, va_rf a1), (0, .ref h)] := lv_sub hl [1, 2, 3, 4, 5, 6, 7, 8] rfl
                                exact jn63 () κ41 ls _ _ _ _ hl hw hH
                              · refine lv_iconst (v := 1) hx hb dX5_matches_165 (by decide) ?_
                                refine lv_goto (tgt := 170) hx hb dX5_matches_166 rfl ?_
                                have hl : lv_has ls 10 [(7, .int x33.1), (6, .int x33.2), (5, .int x23), (4, .int x8.1), (3, .int x8.2), (2, .int a2), (1, va_rf a1), (0, .ref h)] := lv_sub hl [1, 2, 3, 4, 5, 6, 7, 8] rfl
                                exact jn49 1 κ41 ls _ _ _ _ hl hw hH
                        · refine lv_iload_n hx hb dX5_matches_126 rfl (lv_at hl 5 rfl) ?_
                          refine lv_iload hx hb dX5_matches_127 (lv_at hl 1 rfl) ?_
                          refine lv_iconst (v := 1) hx hb dX5_matches_129 (by decide) ?_
                          refine lv_iadd hx hb dX5_matches_130 ?_
                          refine w_nmi hw (fun z66 hw => ?_)
                          refine lv_ishr hx hb dX5_matches_131 ?_
                          refine w_nmi hw (fun z67 hw => ?_)
                          refine lv_iload hx hb dX5_matches_132 (lv_at hl 2 rfl) ?_
                          refine lv_iload hx hb dX5_matches_134 (lv_at hl 1 rfl) ?_
                          refine lv_ishr hx hb dX5_matches_136 ?_
                          refine w_nmi hw (fun z68 hw => ?_)
                          refine lv_ior hx hb dX5_matches_137 ?_
                          refine w_nmi hw (fun z69 hw => ?_)
                          refine lv_iconst (v := 1) hx hb dX5_matches_138 (by decide) ?_
                          refine lv_iand hx hb dX5_matches_139 ?_
                          refine w_nmi hw (fun z70 hw => ?_)
                          refine w_if_eq (tgt := 147) hF dX5_matches_140 rfl hw (fun hw => ?_) (fun hw => ?_)
                          · refine lv_iconst (v := 0) hx hb dX5_matches_147 (by decide) ?_
                            refine lv_goto (tgt := 170) hx hb dX5_matches_148 rfl ?_
                            have hl : lv_has ls 10 [(7, .int x33.1), (6, .int x33.2), (5, .int x23), (4, .int x8.1), (3, .int x8.2), (2, .int a2), (1, va_rf a1), (0, .ref h)] := lv_sub hl [1, 2, 3, 4, 5, 6, 7, 8] rfl
                            exact jn49 0 κ41 ls _ _ _ _ hl hw hH
                          · refine lv_iconst (v := 1) hx hb dX5_matches_143 (by decide) ?_
                            refine lv_goto (tgt := 170) hx hb dX5_matches_144 rfl ?_
                            have hl : lv_has ls 10 [(7, .int x33.1), (6, .int x33.2), (5, .int x23), (4, .int x8.1), (3, .int x8.2), (2, .int a2), (1, va_rf a1), (0, .ref h)] := lv_sub hl [1, 2, 3, 4, 5, 6, 7, 8] rfl
                            exact jn49 1 κ41 ls _ _ _ _ hl hw hH
                    · skip
                      obtain ⟨K73, hK74, hw⟩ := jc_open hw
                      refine cw_join (K := K73) 114 (fun (x71 : Unit) => [(7, .int x33.1), (6, .int x33.2), (5, .int x23), (4, .int x8.1), (3, .int x8.2), (2, .int a2), (1, va_rf a1), (0, .ref h)]) (fun (x71 : Unit) => []) hl hH (fun x71 κ72 ls H locs cells slots hl hw hH => ?_) (fun jn75 => ?_)
                      · have hw := hK74 x71 κ72 hw
                        have hl : lv_has ls 10 [(7, .int x33.1), (6, .int x33.2), (5, .int x23), (4, .int x8.1), (3, .int x8.2), (2, .int a2), (1, va_rf a1), (0, .ref h)] := hl
                        refine lv_iconst (v := 1) hx hb dX5_matches_114 (by decide) ?_
                        refine lv_goto (tgt := 119) hx hb dX5_matches_115 rfl ?_
                        exact jn44 1 κ72 ls _ _ _ _ hl hw hH
                      · skip
                        refine w_icmp_eq (tgt := 114) hF dX5_matches_91 rfl hw (fun hw => ?_) (fun hw => ?_)
                        · exact jn75 () κ34 ls _ _ _ _ hl hw hH
                        · refine lv_aload_n hx hb dX5_matches_94 rfl (lv_at hl 7 rfl) ?_
                          refine cw_getPr (a := h) hF hH fk_X5_33 dX5_matches_95 hw (fun z76 hw => ?_)
                          refine lv_iload hx hb dX5_matches_98 (lv_at hl 3 rfl) ?_
                          refine cw_iald (q := z76) hF hH dX5_matches_100 hw (fun z77 hw => ?_)
                          refine cw_cSiN (As := [.int z77]) (rest := []) hF hH hA hE msn_X5_67 (fun sz => c_X11_upper l D t G _ z77 _ hw sz) dX5_matches_101 ⟨Nat.le_of_ble_eq_true rfl, Nat.le_of_ble_eq_true rfl⟩ rfl hl.1 (Nat.le_of_ble_eq_true rfl) rfl (fun z79 κ78 H locs cells slots hw hH => ?_)
                          refine w_aloadq_n hF dX5_matches_104 rfl (lv_at hl 6 rfl) ?_
                          refine lv_iload hx hb dX5_matches_105 (lv_at hl 0 rfl) ?_
                          refine cw_bald (q := a1) hF hH hE dX5_matches_107 hw (fun z80 hw => ?_)
                          refine cw_cSiN (As := [.int z80]) (rest := [.int z79]) hF hH hA hE msn_X5_67 (fun sz => c_X11_upper l D t G _ z80 _ hw sz) dX5_matches_108 ⟨Nat.le_of_ble_eq_true rfl, Nat.le_of_ble_eq_true rfl⟩ rfl hl.1 (Nat.le_of_ble_eq_true rfl) rfl (fun z82 κ81 H locs cells slots hw hH => ?_)
                          refine w_icmp_ne (tgt := 118) hF dX5_matches_111 rfl hw (fun hw => ?_) (fun hw => ?_)
                          · refine lv_iconst (v := 0) hx hb dX5_matches_118 (by decide) ?_
                            exact jn44 0 κ81 ls _ _ _ _ hl hw hH
                          · exact jn75 () κ81 ls _ _ _ _ hl hw hH
                · skip
                  refine w_if_eq (tgt := 70) hF dX5_matches_61 rfl hw (fun hw => ?_) (fun hw => ?_)
                  · refine lv_iconst (v := 0) hx hb dX5_matches_70 (by decide) ?_
                    exact jn32 0 κ24 ls _ _ _ _ hl hw hH
                  · refine lv_iload_n hx hb dX5_matches_64 rfl (lv_at hl 2 rfl) ?_
                    refine lv_iconst (v := 1) hx hb dX5_matches_65 (by decide) ?_
                    refine lv_iand hx hb dX5_matches_66 ?_
                    refine w_nmi hw (fun z83 hw => ?_)
                    refine lv_goto (tgt := 71) hx hb dX5_matches_67 rfl ?_
                    exact jn32 z83 κ24 ls _ _ _ _ hl hw hH
              · skip
                refine w_icmp_ne (tgt := 56) hF dX5_matches_49 rfl hw (fun hw => ?_) (fun hw => ?_)
                · refine lv_iconst (v := 0) hx hb dX5_matches_56 (by decide) ?_
                  exact jn27 0 κ9 ls _ _ _ _ hl hw hH
                · refine lv_iconst (v := 1) hx hb dX5_matches_52 (by decide) ?_
                  refine lv_goto (tgt := 57) hx hb dX5_matches_53 rfl ?_
                  exact jn27 1 κ9 ls _ _ _ _ hl hw hH
          · have hl : lv_has ls 10 [] := lv_sub hl [] rfl
            exact jn6 () κ ls _ _ _ _ hl hw hH
set_option maxRecDepth 100000 in
def F_J7_rangeCheck_23922 (G : GE) (a0 : Int32) (a1 : Int32) (a2 : Int32) (post : CS → Prop) (κ : CS) : Prop := ((a1.toInt ≤ a2.toInt) → ((0 ≤ a1.toInt) → ((a2.toInt ≤ a0.toInt) → post κ) ∧ ((a0.toInt < a2.toInt) → False)) ∧ ((a1.toInt < 0) → False)) ∧ ((a2.toInt < a1.toInt) → False)
theorem dJ7_rangeCheck_23922_0 : decode cJ7_rangeCheck_23922 0 = .ok (.iload_n 1, 1) := by decide +kernel
theorem dJ7_rangeCheck_23922_1 : decode cJ7_rangeCheck_23922 1 = .ok (.iload_n 2, 1) := by decide +kernel
theorem dJ7_rangeCheck_23922_2 : decode cJ7_rangeCheck_23922 2 = .ok (.if_icmp .le 44, 3) := by decide +kernel
theorem dJ7_rangeCheck_23922_5 : decode cJ7_rangeCheck_23922 5 = .ok (.new 43, 3) := by decide +kernel
theorem dJ7_rangeCheck_23922_8 : decode cJ7_rangeCheck_23922 8 = .ok (.dup, 1) := by decide +kernel
theorem dJ7_rangeCheck_23922_9 : decode cJ7_rangeCheck_23922 9 = .ok (.new 45, 3) := by decide +kernel
theorem dJ7_rangeCheck_23922_12 : decode cJ7_rangeCheck_23922 12 = .ok (.dup, 1) := by decide +kernel
theorem dJ7_rangeCheck_23922_13 : decode cJ7_rangeCheck_23922 13 = .ok (.invokespecial 47, 3) := by decide +kernel
theorem dJ7_rangeCheck_23922_16 : decode cJ7_rangeCheck_23922 16 = .ok (.ldc 48, 2) := by decide +kernel
theorem dJ7_rangeCheck_23922_18 : decode cJ7_rangeCheck_23922 18 = .ok (.invokevirtual 50, 3) := by decide +kernel
theorem dJ7_rangeCheck_23922_21 : decode cJ7_rangeCheck_23922 21 = .ok (.iload_n 1, 1) := by decide +kernel
theorem dJ7_rangeCheck_23922_22 : decode cJ7_rangeCheck_23922 22 = .ok (.invokevirtual 54, 3) := by decide +kernel
theorem dJ7_rangeCheck_23922_25 : decode cJ7_rangeCheck_23922 25 = .ok (.ldc 57, 2) := by decide +kernel
theorem dJ7_rangeCheck_23922_27 : decode cJ7_rangeCheck_23922 27 = .ok (.invokevirtual 50, 3) := by decide +kernel
theorem dJ7_rangeCheck_23922_30 : decode cJ7_rangeCheck_23922 30 = .ok (.iload_n 2, 1) := by decide +kernel
theorem dJ7_rangeCheck_23922_31 : decode cJ7_rangeCheck_23922 31 = .ok (.invokevirtual 54, 3) := by decide +kernel
theorem dJ7_rangeCheck_23922_34 : decode cJ7_rangeCheck_23922 34 = .ok (.ldc 59, 2) := by decide +kernel
theorem dJ7_rangeCheck_23922_36 : decode cJ7_rangeCheck_23922 36 = .ok (.invokevirtual 50, 3) := by decide +kernel
theorem dJ7_rangeCheck_23922_39 : decode cJ7_rangeCheck_23922 39 = .ok (.invokevirtual 61, 3) := by decide +kernel
theorem dJ7_rangeCheck_23922_42 : decode cJ7_rangeCheck_23922 42 = .ok (.invokespecial 65, 3) := by decide +kernel
theorem dJ7_rangeCheck_23922_45 : decode cJ7_rangeCheck_23922 45 = .ok (.athrow, 1) := by decide +kernel
theorem dJ7_rangeCheck_23922_46 : decode cJ7_rangeCheck_23922 46 = .ok (.iload_n 1, 1) := by decide +kernel
theorem dJ7_rangeCheck_23922_47 : decode cJ7_rangeCheck_23922 47 = .ok (.ifCond .ge 12, 3) := by decide +kernel
theorem dJ7_rangeCheck_23922_50 : decode cJ7_rangeCheck_23922 50 = .ok (.new 68, 3) := by decide +kernel
theorem dJ7_rangeCheck_23922_53 : decode cJ7_rangeCheck_23922 53 = .ok (.dup, 1) := by decide +kernel
theorem dJ7_rangeCheck_23922_54 : decode cJ7_rangeCheck_23922 54 = .ok (.iload_n 1, 1) := by decide +kernel
theorem dJ7_rangeCheck_23922_55 : decode cJ7_rangeCheck_23922 55 = .ok (.invokespecial 70, 3) := by decide +kernel
theorem dJ7_rangeCheck_23922_58 : decode cJ7_rangeCheck_23922 58 = .ok (.athrow, 1) := by decide +kernel
theorem dJ7_rangeCheck_23922_59 : decode cJ7_rangeCheck_23922 59 = .ok (.iload_n 2, 1) := by decide +kernel
theorem dJ7_rangeCheck_23922_60 : decode cJ7_rangeCheck_23922 60 = .ok (.iload_n 0, 1) := by decide +kernel
theorem dJ7_rangeCheck_23922_61 : decode cJ7_rangeCheck_23922 61 = .ok (.if_icmp .le 12, 3) := by decide +kernel
theorem dJ7_rangeCheck_23922_64 : decode cJ7_rangeCheck_23922 64 = .ok (.new 68, 3) := by decide +kernel
theorem dJ7_rangeCheck_23922_67 : decode cJ7_rangeCheck_23922 67 = .ok (.dup, 1) := by decide +kernel
theorem dJ7_rangeCheck_23922_68 : decode cJ7_rangeCheck_23922 68 = .ok (.iload_n 2, 1) := by decide +kernel
theorem dJ7_rangeCheck_23922_69 : decode cJ7_rangeCheck_23922 69 = .ok (.invokespecial 70, 3) := by decide +kernel
theorem dJ7_rangeCheck_23922_72 : decode cJ7_rangeCheck_23922 72 = .ok (.athrow, 1) := by decide +kernel
theorem dJ7_rangeCheck_23922_73 : decode cJ7_rangeCheck_23922 73 = .ok (.return_, 1) := by decide +kernel
set_option maxRecDepth 100000 in
set_option maxHeartbeats 4000000 in
theorem c_J7_rangeCheck_23922 (l : Launch) (D : va_G) (t : Nat → ClassId) (G : GE) (κ : CS) (a0 : Int32) (a1 : Int32) (a2 : Int32) (post : CS → Prop) (hw : F_J7_rangeCheck_23922 G a0 a1 a2 post κ) (sz : Nat) : CMv l D t yJ7_rangeCheck_23922 cJ7_rangeCheck_23922 3 0 14 G κ sz [.int a0, .int a1, .int a2] post := by
  refine c_go (by decide) (Nat.le_of_ble_eq_true rfl) ?_
  intro p e s m below meth c ls A hF hr hlk hin hAe hH hA hE hl
  unfold cB
  rw [hAe]
  clear hAe
  have hF : FX p m c cJ7_rangeCheck_23922 3 s _ RJ7 D t := hF
  have hx := hF.1.1
  have hb := hF.1.2.1
  have hl : lv_has ls 3 [(0, .int a0), (1, .int a1), (2, .int a2)] := hl
  unfold F_J7_rangeCheck_23922 at hw
  refine lv_iload_n hx hb dJ7_rangeCheck_23922_0 rfl (lv_at hl 1 rfl) ?_
  refine lv_iload_n hx hb dJ7_rangeCheck_23922_1 rfl (lv_at hl 2 rfl) ?_
  refine w_icmp_le (tgt := 46) hF dJ7_rangeCheck_23922_2 rfl hw (fun hw => ?_) (fun hw => ?_)
  · refine lv_iload_n hx hb dJ7_rangeCheck_23922_46 rfl (lv_at hl 1 rfl) ?_
    refine w_if_ge (tgt := 59) hF dJ7_rangeCheck_23922_47 rfl hw (fun hw => ?_) (fun hw => ?_)
    · refine lv_iload_n hx hb dJ7_rangeCheck_23922_59 rfl (lv_at hl 2 rfl) ?_
      refine lv_iload_n hx hb dJ7_rangeCheck_23922_60 rfl (lv_at hl 0 rfl) ?_
      refine w_icmp_le (tgt := 73) hF dJ7_rangeCheck_23922_61 rfl hw (fun hw => ?_) (fun hw => ?_)
      · exact cw_retv hF hH ⟨rfl, rfl⟩ hr hlk dJ7_rangeCheck_23922_73 hw
      · exact hw.elim
    · exact hw.elim
  · exact hw.elim
set_option maxRecDepth 100000 in
def F_J7_fill_eb02e (G : GE) (a0 : Option Nat) (a1 : Int32) (a2 : Int32) (a3 : Int32) (post : CS → Prop) (κ : CS) : Prop := ∃ n : Nat, AL G κ a0 n ∧ ∀ z1 : Int32, z1 = nI n → F_J7_rangeCheck_23922 G z1 a1 a2 (fun (κ2 : CS) => lc (fun (K6 : Int32 → CS → Prop) (x4 : Int32) (κ5 : CS) => ((a2.toInt ≤ x4.toInt) → post κ5) ∧ ((x4.toInt < a2.toInt) → ∃ b : Nat, a0 = some b ∧ (b ∈ sL κ5.1 ∧ sK κ5.1 b = 20) ∧ (0 ≤ x4.toInt ∧ x4.toInt < (sN κ5.1 b : Int)) ∧ ∀ κ8 : CS, κ8 = (h_uI κ5.1 b x4.toInt.toNat (vp_nar .byte a3), κ5.2) → ∀ z9 : Int32, z9 = x4 + 1 → K6 z9 κ8)) a1 κ2) κ
theorem dJ7_fill_eb02e_0 : decode cJ7_fill_eb02e 0 = .ok (.aload_n 0, 1) := by decide +kernel
theorem dJ7_fill_eb02e_1 : decode cJ7_fill_eb02e 1 = .ok (.arraylength, 1) := by decide +kernel
theorem dJ7_fill_eb02e_2 : decode cJ7_fill_eb02e 2 = .ok (.iload_n 1, 1) := by decide +kernel
theorem dJ7_fill_eb02e_3 : decode cJ7_fill_eb02e 3 = .ok (.iload_n 2, 1) := by decide +kernel
theorem dJ7_fill_eb02e_4 : decode cJ7_fill_eb02e 4 = .ok (.invokestatic 13, 3) := by decide +kernel
theorem dJ7_fill_eb02e_7 : decode cJ7_fill_eb02e 7 = .ok (.iload_n 1, 1) := by decide +kernel
theorem dJ7_fill_eb02e_8 : decode cJ7_fill_eb02e 8 = .ok (.istore 4, 2) := by decide +kernel
theorem dJ7_fill_eb02e_10 : decode cJ7_fill_eb02e 10 = .ok (.iload 4, 2) := by decide +kernel
theorem dJ7_fill_eb02e_12 : decode cJ7_fill_eb02e 12 = .ok (.iload_n 2, 1) := by decide +kernel
theorem dJ7_fill_eb02e_13 : decode cJ7_fill_eb02e 13 = .ok (.if_icmp .ge 14, 3) := by decide +kernel
theorem dJ7_fill_eb02e_16 : decode cJ7_fill_eb02e 16 = .ok (.aload_n 0, 1) := by decide +kernel
theorem dJ7_fill_eb02e_17 : decode cJ7_fill_eb02e 17 = .ok (.iload 4, 2) := by decide +kernel
theorem dJ7_fill_eb02e_19 : decode cJ7_fill_eb02e 19 = .ok (.iload_n 3, 1) := by decide +kernel
theorem dJ7_fill_eb02e_20 : decode cJ7_fill_eb02e 20 = .ok (.bastore, 1) := by decide +kernel
theorem dJ7_fill_eb02e_21 : decode cJ7_fill_eb02e 21 = .ok (.iinc 4 1, 3) := by decide +kernel
theorem dJ7_fill_eb02e_24 : decode cJ7_fill_eb02e 24 = .ok (.goto (-14), 3) := by decide +kernel
theorem dJ7_fill_eb02e_27 : decode cJ7_fill_eb02e 27 = .ok (.return_, 1) := by decide +kernel
set_option maxRecDepth 100000 in
set_option maxHeartbeats 4000000 in
theorem c_J7_fill_eb02e (l : Launch) (D : va_G) (t : Nat → ClassId) (G : GE) (κ : CS) (a0 : Option Nat) (a1 : Int32) (a2 : Int32) (a3 : Int32) (post : CS → Prop) (hw : F_J7_fill_eb02e G a0 a1 a2 a3 post κ) (sz : Nat) : CMv l D t yJ7_fill_eb02e cJ7_fill_eb02e 5 1 36 G κ sz [va_rf a0, .int a1, .int a2, .int a3] post := by
  refine c_go (by decide) (by cases a0 <;> exact Nat.le_of_ble_eq_true rfl) ?_
  intro p e s m below meth c ls A hF hr hlk hin hAe hH hA hE hl
  unfold cB
  rw [hAe]
  clear hAe
  have hF : FX p m c cJ7_fill_eb02e 5 s _ RJ7 D t := hF
  have hx := hF.1.1
  have hb := hF.1.2.1
  have hl : lv_has ls 5 [(0, va_rf a0), (1, .int a1), (2, .int a2), (3, .int a3)] := (by have h2 := hl; clear hw; revert h2; cases a0 <;> exact id)
  unfold F_J7_fill_eb02e at hw
  refine w_aloadq_n hF dJ7_fill_eb02e_0 rfl (lv_at hl 0 rfl) ?_
  refine cw_alen (q := a0) hF hH hE dJ7_fill_eb02e_1 hw (fun z1 hw => ?_)
  refine lv_iload_n hx hb dJ7_fill_eb02e_2 rfl (lv_at hl 1 rfl) ?_
  refine lv_iload_n hx hb dJ7_fill_eb02e_3 rfl (lv_at hl 2 rfl) ?_
  refine cw_cSv (As := [.int z1, .int a1, .int a2]) (rest := []) hF hH hA hE ms_J7_13 (fun sz => c_J7_rangeCheck_23922 l D t G _ z1 a1 a2 _ hw sz) dJ7_fill_eb02e_4 ⟨Nat.le_of_ble_eq_true rfl, Nat.le_of_ble_eq_true rfl⟩ rfl hl.1 (Nat.le_of_ble_eq_true rfl) rfl (fun κ2 H locs cells slots hw hH => ?_)
  refine lv_iload_n hx hb dJ7_fill_eb02e_7 rfl (lv_at hl 1 rfl) ?_
  refine lv_istore (lv' := [(4, .int a1), (0, va_rf a0), (1, .int a1), (2, .int a2), (3, .int a3)]) hx hb dJ7_fill_eb02e_8 hl (by decide) rfl (fun ls hl => ?_)
  have hl : lv_has ls 5 [(4, .int a1), (3, .int a3), (2, .int a2), (0, va_rf a0)] := lv_sub hl [0, 4, 3, 1] rfl
  refine cw_loop (β := Int32) (fun x4 => [(4, .int x4), (3, .int a3), (2, .int a2), (0, va_rf a0)]) a1 hl hw hH (fun K6 x4 κ5 ls H locs cells slots hl hw hH ih7 => ?_)
  have hl : lv_has ls 5 [(4, .int x4), (3, .int a3), (2, .int a2), (0, va_rf a0)] := hl
  refine lv_iload hx hb dJ7_fill_eb02e_10 (lv_at hl 0 rfl) ?_
  refine lv_iload_n hx hb dJ7_fill_eb02e_12 rfl (lv_at hl 2 rfl) ?_
  refine w_icmp_ge (tgt := 27) hF dJ7_fill_eb02e_13 rfl hw (fun hw => ?_) (fun hw => ?_)
  · exact cw_retv hF hH ⟨rfl, rfl⟩ hr hlk dJ7_fill_eb02e_27 hw
  · refine w_aloadq_n hF dJ7_fill_eb02e_16 rfl (lv_at hl 3 rfl) ?_
    refine lv_iload hx hb dJ7_fill_eb02e_17 (lv_at hl 0 rfl) ?_
    refine lv_iload_n hx hb dJ7_fill_eb02e_19 rfl (lv_at hl 1 rfl) ?_
    refine cw_bast (q := a0) hF hH dJ7_fill_eb02e_20 hw (fun κ8 H locs cells slots hw hH => ?_)
    obtain ⟨z9, ez9⟩ : ∃ z : Int32, z = x4 + 1 := ⟨_, rfl⟩
    have hw := hw z9 ez9
    refine lv_iinc (lv' := [(4, .int z9), (3, .int a3), (2, .int a2), (0, va_rf a0)]) (k := 0) (v := z9) hx hb dJ7_fill_eb02e_21 hl rfl ez9.symm (by decide) rfl (fun ls hl => ?_)
    refine lv_goto (tgt := 10) hx hb dJ7_fill_eb02e_24 rfl ?_
    exact ih7 z9 κ8 ls _ _ _ _ hl hw hH
set_option maxRecDepth 100000 in
def F_X6_begin (G : GE) (h : Nat) (a1 : Int32) (post : CS → Prop) (κ : CS) : Prop := ∀ z2 : Int32, z2.toInt = max ((0 : Int32).toInt) a1.toInt → (h ∈ sL κ.1 ∧ sK κ.1 h = 2) ∧ ∀ z3 : Option Nat, z3 = sP κ.1 h 0 → ∃ n : Nat, AL G κ z3 n ∧ ∀ z4 : Int32, z4 = nI n → jc (fun (K7 : Unit → CS → Prop) => ((z2.toInt ≤ z4.toInt) → K7 () κ) ∧ ((z4.toInt < z2.toInt) → ∀ z14 : Int32, z14 = z2 + 64 → (0 ≤ z14.toInt ∧ z14.toInt ≤ 1000000) ∧ (z14.toInt.toNat + 12 ≤ κ.2) ∧ ∀ o15 : Nat, o15 ∉ sL κ.1 → ∀ κ16 : CS, κ16 = (h_uN κ.1 o15 20 z14.toInt.toNat, κ.2 - (z14.toInt.toNat + 12)) → (h ∈ sL κ16.1 ∧ sK κ16.1 h = 2) ∧ ∀ κ17 : CS, κ17 = (h_uP κ16.1 h 0 (some o15), κ16.2) → K7 () κ17)) (fun (x5 : Unit) (κ6 : CS) => (h ∈ sL κ6.1 ∧ sK κ6.1 h = 2) ∧ ∀ z10 : Option Nat, z10 = sP κ6.1 h 0 → F_J7_fill_eb02e G z10 0 z2 0 (fun (κ11 : CS) => (h ∈ sL κ11.1 ∧ sK κ11.1 h = 2) ∧ ∀ κ13 : CS, κ13 = (h_uI κ11.1 h 1 z2, κ11.2) → post κ13) κ6)
theorem dX6_begin_0 : decode cX6_begin 0 = .ok (.iconst 0, 1) := by decide +kernel
theorem dX6_begin_1 : decode cX6_begin 1 = .ok (.iload_n 1, 1) := by decide +kernel
theorem dX6_begin_2 : decode cX6_begin 2 = .ok (.invokestatic 13, 3) := by decide +kernel
theorem dX6_begin_5 : decode cX6_begin 5 = .ok (.istore_n 2, 1) := by decide +kernel
theorem dX6_begin_6 : decode cX6_begin 6 = .ok (.iload_n 2, 1) := by decide +kernel
theorem dX6_begin_7 : decode cX6_begin 7 = .ok (.aload_n 0, 1) := by decide +kernel
theorem dX6_begin_8 : decode cX6_begin 8 = .ok (.getfield 7, 3) := by decide +kernel
theorem dX6_begin_11 : decode cX6_begin 11 = .ok (.arraylength, 1) := by decide +kernel
theorem dX6_begin_12 : decode cX6_begin 12 = .ok (.if_icmp .le 13, 3) := by decide +kernel
theorem dX6_begin_15 : decode cX6_begin 15 = .ok (.aload_n 0, 1) := by decide +kernel
theorem dX6_begin_16 : decode cX6_begin 16 = .ok (.iload_n 2, 1) := by decide +kernel
theorem dX6_begin_17 : decode cX6_begin 17 = .ok (.bipush 64, 2) := by decide +kernel
theorem dX6_begin_19 : decode cX6_begin 19 = .ok (.iadd, 1) := by decide +kernel
theorem dX6_begin_20 : decode cX6_begin 20 = .ok (.newarray .byte, 2) := by decide +kernel
theorem dX6_begin_22 : decode cX6_begin 22 = .ok (.putfield 7, 3) := by decide +kernel
theorem dX6_begin_25 : decode cX6_begin 25 = .ok (.aload_n 0, 1) := by decide +kernel
theorem dX6_begin_26 : decode cX6_begin 26 = .ok (.getfield 7, 3) := by decide +kernel
theorem dX6_begin_29 : decode cX6_begin 29 = .ok (.iconst 0, 1) := by decide +kernel
theorem dX6_begin_30 : decode cX6_begin 30 = .ok (.iload_n 2, 1) := by decide +kernel
theorem dX6_begin_31 : decode cX6_begin 31 = .ok (.iconst 0, 1) := by decide +kernel
theorem dX6_begin_32 : decode cX6_begin 32 = .ok (.invokestatic 19, 3) := by decide +kernel
theorem dX6_begin_35 : decode cX6_begin 35 = .ok (.aload_n 0, 1) := by decide +kernel
theorem dX6_begin_36 : decode cX6_begin 36 = .ok (.iload_n 2, 1) := by decide +kernel
theorem dX6_begin_37 : decode cX6_begin 37 = .ok (.putfield 25, 3) := by decide +kernel
theorem dX6_begin_40 : decode cX6_begin 40 = .ok (.return_, 1) := by decide +kernel
set_option maxRecDepth 100000 in
set_option maxHeartbeats 4000000 in
theorem c_X6_begin (l : Launch) (D : va_G) (t : Nat → ClassId) (G : GE) (κ : CS) (h : Nat) (a1 : Int32) (post : CS → Prop) (hw : F_X6_begin G h a1 post κ) (sz : Nat) : CMv l D t yX6_begin cX6_begin 3 2 60 G κ sz [.ref h, .int a1] post := by
  refine c_go (by decide) (Nat.le_of_ble_eq_true rfl) ?_
  intro p e s m below meth c ls A hF hr hlk hin hAe hH hA hE hl
  unfold cB
  rw [hAe]
  clear hAe
  have hF : FX p m c cX6_begin 3 s _ RX6 D t := hF
  have hx := hF.1.1
  have hb := hF.1.2.1
  have hl : lv_has ls 3 [(0, .ref h), (1, .int a1)] := hl
  unfold F_X6_begin at hw
  refine lv_iconst (v := 0) hx hb dX6_begin_0 (by decide) ?_
  refine lv_iload_n hx hb dX6_begin_1 rfl (lv_at hl 1 rfl) ?_
  refine cw_mmax hF hH hl.1 (wc_15 11 rfl) (wc_10 1 rfl) (wc_5 5 rfl) (wc_10 0 rfl) (Nat.le_of_ble_eq_true rfl) (Nat.le_of_ble_eq_true rfl) dX6_begin_2 hw (fun z2 hw => ?_)
  refine lv_istore_n (lv' := [(2, .int z2), (0, .ref h), (1, .int a1)]) hx hb dX6_begin_5 rfl hl (by decide) rfl (fun ls hl => ?_)
  refine lv_iload_n hx hb dX6_begin_6 rfl (lv_at hl 0 rfl) ?_
  refine lv_aload_n hx hb dX6_begin_7 rfl (lv_at hl 1 rfl) ?_
  refine cw_getPr (a := h) hF hH fk_X6_7 dX6_begin_8 hw (fun z3 hw => ?_)
  refine cw_alen (q := z3) hF hH hE dX6_begin_11 hw (fun z4 hw => ?_)
  obtain ⟨K7, hK8, hw⟩ := jc_open hw
  refine cw_join (K := K7) 25 (fun (x5 : Unit) => [(2, .int z2), (0, .ref h)]) (fun (x5 : Unit) => []) hl hH (fun x5 κ6 ls H locs cells slots hl hw hH => ?_) (fun jn9 => ?_)
  · have hw := hK8 x5 κ6 hw
    have hl : lv_has ls 3 [(2, .int z2), (0, .ref h)] := hl
    refine lv_aload_n hx hb dX6_begin_25 rfl (lv_at hl 1 rfl) ?_
    refine cw_getPr (a := h) hF hH fk_X6_7 dX6_begin_26 hw (fun z10 hw => ?_)
    refine lv_iconst (v := 0) hx hb dX6_begin_29 (by decide) ?_
    refine lv_iload_n hx hb dX6_begin_30 rfl (lv_at hl 0 rfl) ?_
    refine lv_iconst (v := 0) hx hb dX6_begin_31 (by decide) ?_
    refine cw_cSv (As := [va_rf z10, .int 0, .int z2, .int 0]) (rest := []) hF hH hA hE ms_X6_19 (fun sz => c_J7_fill_eb02e l D t G _ z10 0 z2 0 _ hw sz) dX6_begin_32 ⟨Nat.le_of_ble_eq_true rfl, Nat.le_of_ble_eq_true rfl⟩ rfl hl.1 (Nat.le_of_ble_eq_true rfl) rfl (fun κ11 H locs cells slots hw hH => ?_)
    refine lv_aload_n hx hb dX6_begin_35 rfl (lv_at hl 1 rfl) ?_
    refine lv_iload_n hx hb dX6_begin_36 rfl (lv_at hl 0 rfl) ?_
    refine cw_putIr (a := h) (v := z2) hF hH fk_X6_25 dX6_begin_37 rfl rfl rfl hw (fun κ13 H locs cells slots hw hH => ?_)
    exact cw_retv hF hH ⟨rfl, rfl⟩ hr hlk dX6_begin_40 hw
  · skip
    refine w_icmp_le (tgt := 25) hF dX6_begin_12 rfl hw (fun hw => ?_) (fun hw => ?_)
    · have hl : lv_has ls 3 [(2, .int z2), (0, .ref h)] := lv_sub hl [0, 1] rfl
      exact jn9 () κ ls _ _ _ _ hl hw hH
    · refine lv_aload_n hx hb dX6_begin_15 rfl (lv_at hl 1 rfl) ?_
      refine lv_iload_n hx hb dX6_begin_16 rfl (lv_at hl 0 rfl) ?_
      refine lv_bipush (v := 64) hx hb dX6_begin_17 (by decide) ?_
      refine lv_iadd hx hb dX6_begin_19 ?_
      refine w_nmi hw (fun z14 hw => ?_)
      refine cw_newarr_byte hF hH hA (wc_5 11 rfl) dX6_begin_20 hw (fun o15 κ16 H locs cells slots hw hH => ?_)
      refine cw_putPr (a := h) (v := (some o15)) hF hH fk_X6_7 dX6_begin_22 rfl rfl hw (fun κ17 H locs cells slots hw hH => ?_)
      have hl : lv_has ls 3 [(2, .int z2), (0, .ref h)] := lv_sub hl [0, 1] rfl
      exact jn9 () κ17 ls _ _ _ _ hl hw hH
set_option maxRecDepth 100000 in
def F_X6_add (G : GE) (h : Nat) (a1 : Int32) (post : CS → Prop) (κ : CS) : Prop := (h ∈ sL κ.1 ∧ sK κ.1 h = 2) ∧ ∀ z1 : Int32, z1 = sI κ.1 h 1 → (h ∈ sL κ.1 ∧ sK κ.1 h = 2) ∧ ∀ z2 : Option Nat, z2 = sP κ.1 h 0 → ∃ n : Nat, AL G κ z2 n ∧ ∀ z3 : Int32, z3 = nI n → jc (fun (K6 : Unit → CS → Prop) => ((z1.toInt < z3.toInt) → K6 () κ) ∧ ((z3.toInt ≤ z1.toInt) → (h ∈ sL κ.1 ∧ sK κ.1 h = 2) ∧ ∀ z16 : Option Nat, z16 = sP κ.1 h 0 → (h ∈ sL κ.1 ∧ sK κ.1 h = 2) ∧ ∀ z17 : Int32, z17 = sI κ.1 h 1 → ∀ z18 : Int32, z18 = 2 * z17 → ∀ z19 : Int32, z19 = z18 + 64 → F_J7_copyOf_9075b G z16 z19 (fun (z21 : Option Nat) (κ20 : CS) => (h ∈ sL κ20.1 ∧ sK κ20.1 h = 2) ∧ ∀ κ22 : CS, κ22 = (h_uP κ20.1 h 0 z21, κ20.2) → K6 () κ22) κ)) (fun (x4 : Unit) (κ5 : CS) => (h ∈ sL κ5.1 ∧ sK κ5.1 h = 2) ∧ ∀ z9 : Option Nat, z9 = sP κ5.1 h 0 → (h ∈ sL κ5.1 ∧ sK κ5.1 h = 2) ∧ ∀ z10 : Int32, z10 = sI κ5.1 h 1 → ∀ z11 : Int32, z11 = (a1 : Int32).toInt8.toInt32 → ∃ b : Nat, z9 = some b ∧ (b ∈ sL κ5.1 ∧ sK κ5.1 b = 20) ∧ (0 ≤ z10.toInt ∧ z10.toInt < (sN κ5.1 b : Int)) ∧ ∀ κ12 : CS, κ12 = (h_uI κ5.1 b z10.toInt.toNat (vp_nar .byte z11), κ5.2) → (h ∈ sL κ12.1 ∧ sK κ12.1 h = 2) ∧ ∀ z13 : Int32, z13 = sI κ12.1 h 1 → ∀ z14 : Int32, z14 = z13 + 1 → (h ∈ sL κ12.1 ∧ sK κ12.1 h = 2) ∧ ∀ κ15 : CS, κ15 = (h_uI κ12.1 h 1 z14, κ12.2) → post κ15)
theorem dX6_add_0 : decode cX6_add 0 = .ok (.aload_n 0, 1) := by decide +kernel
theorem dX6_add_1 : decode cX6_add 1 = .ok (.getfield 25, 3) := by decide +kernel
theorem dX6_add_4 : decode cX6_add 4 = .ok (.aload_n 0, 1) := by decide +kernel
theorem dX6_add_5 : decode cX6_add 5 = .ok (.getfield 7, 3) := by decide +kernel
theorem dX6_add_8 : decode cX6_add 8 = .ok (.arraylength, 1) := by decide +kernel
theorem dX6_add_9 : decode cX6_add 9 = .ok (.if_icmp .lt 23, 3) := by decide +kernel
theorem dX6_add_12 : decode cX6_add 12 = .ok (.aload_n 0, 1) := by decide +kernel
theorem dX6_add_13 : decode cX6_add 13 = .ok (.aload_n 0, 1) := by decide +kernel
theorem dX6_add_14 : decode cX6_add 14 = .ok (.getfield 7, 3) := by decide +kernel
theorem dX6_add_17 : decode cX6_add 17 = .ok (.iconst 2, 1) := by decide +kernel
theorem dX6_add_18 : decode cX6_add 18 = .ok (.aload_n 0, 1) := by decide +kernel
theorem dX6_add_19 : decode cX6_add 19 = .ok (.getfield 25, 3) := by decide +kernel
theorem dX6_add_22 : decode cX6_add 22 = .ok (.imul, 1) := by decide +kernel
theorem dX6_add_23 : decode cX6_add 23 = .ok (.bipush 64, 2) := by decide +kernel
theorem dX6_add_25 : decode cX6_add 25 = .ok (.iadd, 1) := by decide +kernel
theorem dX6_add_26 : decode cX6_add 26 = .ok (.invokestatic 29, 3) := by decide +kernel
theorem dX6_add_29 : decode cX6_add 29 = .ok (.putfield 7, 3) := by decide +kernel
theorem dX6_add_32 : decode cX6_add 32 = .ok (.aload_n 0, 1) := by decide +kernel
theorem dX6_add_33 : decode cX6_add 33 = .ok (.getfield 7, 3) := by decide +kernel
theorem dX6_add_36 : decode cX6_add 36 = .ok (.aload_n 0, 1) := by decide +kernel
theorem dX6_add_37 : decode cX6_add 37 = .ok (.getfield 25, 3) := by decide +kernel
theorem dX6_add_40 : decode cX6_add 40 = .ok (.iload_n 1, 1) := by decide +kernel
theorem dX6_add_41 : decode cX6_add 41 = .ok (.i2b, 1) := by decide +kernel
theorem dX6_add_42 : decode cX6_add 42 = .ok (.bastore, 1) := by decide +kernel
theorem dX6_add_43 : decode cX6_add 43 = .ok (.aload_n 0, 1) := by decide +kernel
theorem dX6_add_44 : decode cX6_add 44 = .ok (.dup, 1) := by decide +kernel
theorem dX6_add_45 : decode cX6_add 45 = .ok (.getfield 25, 3) := by decide +kernel
theorem dX6_add_48 : decode cX6_add 48 = .ok (.iconst 1, 1) := by decide +kernel
theorem dX6_add_49 : decode cX6_add 49 = .ok (.iadd, 1) := by decide +kernel
theorem dX6_add_50 : decode cX6_add 50 = .ok (.putfield 25, 3) := by decide +kernel
theorem dX6_add_53 : decode cX6_add 53 = .ok (.return_, 1) := by decide +kernel
set_option maxRecDepth 100000 in
set_option maxHeartbeats 4000000 in
theorem c_X6_add (l : Launch) (D : va_G) (t : Nat → ClassId) (G : GE) (κ : CS) (h : Nat) (a1 : Int32) (post : CS → Prop) (hw : F_X6_add G h a1 post κ) (sz : Nat) : CMv l D t yX6_add cX6_add 2 2 62 G κ sz [.ref h, .int a1] post := by
  refine c_go (by decide) (Nat.le_of_ble_eq_true rfl) ?_
  intro p e s m below meth c ls A hF hr hlk hin hAe hH hA hE hl
  unfold cB
  rw [hAe]
  clear hAe
  have hF : FX p m c cX6_add 2 s _ RX6 D t := hF
  have hx := hF.1.1
  have hb := hF.1.2.1
  have hl : lv_has ls 2 [(0, .ref h), (1, .int a1)] := hl
  unfold F_X6_add at hw
  refine lv_aload_n hx hb dX6_add_0 rfl (lv_at hl 0 rfl) ?_
  refine cw_getIr (a := h) hF hH fk_X6_25 dX6_add_1 hw (fun z1 hw => ?_)
  refine lv_aload_n hx hb dX6_add_4 rfl (lv_at hl 0 rfl) ?_
  refine cw_getPr (a := h) hF hH fk_X6_7 dX6_add_5 hw (fun z2 hw => ?_)
  refine cw_alen (q := z2) hF hH hE dX6_add_8 hw (fun z3 hw => ?_)
  obtain ⟨K6, hK7, hw⟩ := jc_open hw
  refine cw_join (K := K6) 32 (fun (x4 : Unit) => [(1, .int a1), (0, .ref h)]) (fun (x4 : Unit) => []) hl hH (fun x4 κ5 ls H locs cells slots hl hw hH => ?_) (fun jn8 => ?_)
  · have hw := hK7 x4 κ5 hw
    have hl : lv_has ls 2 [(1, .int a1), (0, .ref h)] := hl
    refine lv_aload_n hx hb dX6_add_32 rfl (lv_at hl 1 rfl) ?_
    refine cw_getPr (a := h) hF hH fk_X6_7 dX6_add_33 hw (fun z9 hw => ?_)
    refine lv_aload_n hx hb dX6_add_36 rfl (lv_at hl 1 rfl) ?_
    refine cw_getIr (a := h) hF hH fk_X6_25 dX6_add_37 hw (fun z10 hw => ?_)
    refine lv_iload_n hx hb dX6_add_40 rfl (lv_at hl 0 rfl) ?_
    refine lv_i2b hx hb dX6_add_41 rfl ?_
    refine w_nmi hw (fun z11 hw => ?_)
    refine cw_bast (q := z9) hF hH dX6_add_42 hw (fun κ12 H locs cells slots hw hH => ?_)
    refine lv_aload_n hx hb dX6_add_43 rfl (lv_at hl 1 rfl) ?_
    refine lv_dup hx hb dX6_add_44 rfl ?_
    refine cw_getIr (a := h) hF hH fk_X6_25 dX6_add_45 hw (fun z13 hw => ?_)
    refine lv_iconst (v := 1) hx hb dX6_add_48 (by decide) ?_
    refine lv_iadd hx hb dX6_add_49 ?_
    refine w_nmi hw (fun z14 hw => ?_)
    refine cw_putIr (a := h) (v := z14) hF hH fk_X6_25 dX6_add_50 rfl rfl rfl hw (fun κ15 H locs cells slots hw hH => ?_)
    exact cw_retv hF hH ⟨rfl, rfl⟩ hr hlk dX6_add_53 hw
  · skip
    refine w_icmp_lt (tgt := 32) hF dX6_add_9 rfl hw (fun hw => ?_) (fun hw => ?_)
    · have hl : lv_has ls 2 [(1, .int a1), (0, .ref h)] := lv_sub hl [1, 0] rfl
      exact jn8 () κ ls _ _ _ _ hl hw hH
    · refine lv_aload_n hx hb dX6_add_12 rfl (lv_at hl 0 rfl) ?_
      refine lv_aload_n hx hb dX6_add_13 rfl (lv_at hl 0 rfl) ?_
      refine cw_getPr (a := h) hF hH fk_X6_7 dX6_add_14 hw (fun z16 hw => ?_)
      refine lv_iconst (v := 2) hx hb dX6_add_17 (by decide) ?_
      refine lv_aload_n hx hb dX6_add_18 rfl (lv_at hl 0 rfl) ?_
      refine cw_getIr (a := h) hF hH fk_X6_25 dX6_add_19 hw (fun z17 hw => ?_)
      refine lv_imul hx hb dX6_add_22 ?_
      refine w_nmi hw (fun z18 hw => ?_)
      refine lv_bipush (v := 64) hx hb dX6_add_23 (by decide) ?_
      refine lv_iadd hx hb dX6_add_25 ?_
      refine w_nmi hw (fun z19 hw => ?_)
      refine cw_cSq (As := [va_rf z16, .int z19]) (rest := [.ref h]) hF hH hA hE ms_X6_29 (fun sz => c_J7_copyOf_9075b l D t G _ z16 z19 _ hw sz) dX6_add_26 ⟨Nat.le_of_ble_eq_true rfl, Nat.le_of_ble_eq_true rfl⟩ rfl hl.1 (Nat.le_of_ble_eq_true rfl) rfl (fun z21 κ20 H locs cells slots hw hH => ?_)
      refine cw_putPr (a := h) (v := z21) hF hH fk_X6_7 dX6_add_29 rfl rfl hw (fun κ22 H locs cells slots hw hH => ?_)
      have hl : lv_has ls 2 [(1, .int a1), (0, .ref h)] := lv_sub hl [1, 0] rfl
      exact jn8 () κ22 ls _ _ _ _ hl hw hH
set_option maxRecDepth 100000 in
def F_X6_addHighestFirst (G : GE) (h : Nat) (a1 : Int32) (post : CS → Prop) (κ : CS) : Prop := ∀ z1 : Int32, z1 = a1 >>> (24 &&& 31) → (h ∈ sL κ.1 ∧ sK κ.1 h = 2) ∧ F_X6_add G h z1 (fun (κ2 : CS) => ∀ z4 : Int32, z4 = a1 >>> (16 &&& 31) → (h ∈ sL κ2.1 ∧ sK κ2.1 h = 2) ∧ F_X6_add G h z4 (fun (κ5 : CS) => ∀ z7 : Int32, z7 = a1 >>> (8 &&& 31) → (h ∈ sL κ5.1 ∧ sK κ5.1 h = 2) ∧ F_X6_add G h z7 (fun (κ8 : CS) => (h ∈ sL κ8.1 ∧ sK κ8.1 h = 2) ∧ F_X6_add G h a1 (fun (κ10 : CS) => post κ10) κ8) κ5) κ2) κ
theorem dX6_addHighestFirst_0 : decode cX6_addHighestFirst 0 = .ok (.aload_n 0, 1) := by decide +kernel
theorem dX6_addHighestFirst_1 : decode cX6_addHighestFirst 1 = .ok (.iload_n 1, 1) := by decide +kernel
theorem dX6_addHighestFirst_2 : decode cX6_addHighestFirst 2 = .ok (.bipush 24, 2) := by decide +kernel
theorem dX6_addHighestFirst_4 : decode cX6_addHighestFirst 4 = .ok (.ishr, 1) := by decide +kernel
theorem dX6_addHighestFirst_5 : decode cX6_addHighestFirst 5 = .ok (.invokevirtual 33, 3) := by decide +kernel
theorem dX6_addHighestFirst_8 : decode cX6_addHighestFirst 8 = .ok (.aload_n 0, 1) := by decide +kernel
theorem dX6_addHighestFirst_9 : decode cX6_addHighestFirst 9 = .ok (.iload_n 1, 1) := by decide +kernel
theorem dX6_addHighestFirst_10 : decode cX6_addHighestFirst 10 = .ok (.bipush 16, 2) := by decide +kernel
theorem dX6_addHighestFirst_12 : decode cX6_addHighestFirst 12 = .ok (.ishr, 1) := by decide +kernel
theorem dX6_addHighestFirst_13 : decode cX6_addHighestFirst 13 = .ok (.invokevirtual 33, 3) := by decide +kernel
theorem dX6_addHighestFirst_16 : decode cX6_addHighestFirst 16 = .ok (.aload_n 0, 1) := by decide +kernel
theorem dX6_addHighestFirst_17 : decode cX6_addHighestFirst 17 = .ok (.iload_n 1, 1) := by decide +kernel
theorem dX6_addHighestFirst_18 : decode cX6_addHighestFirst 18 = .ok (.bipush 8, 2) := by decide +kernel
theorem dX6_addHighestFirst_20 : decode cX6_addHighestFirst 20 = .ok (.ishr, 1) := by decide +kernel
theorem dX6_addHighestFirst_21 : decode cX6_addHighestFirst 21 = .ok (.invokevirtual 33, 3) := by decide +kernel
theorem dX6_addHighestFirst_24 : decode cX6_addHighestFirst 24 = .ok (.aload_n 0, 1) := by decide +kernel
theorem dX6_addHighestFirst_25 : decode cX6_addHighestFirst 25 = .ok (.iload_n 1, 1) := by decide +kernel
theorem dX6_addHighestFirst_26 : decode cX6_addHighestFirst 26 = .ok (.invokevirtual 33, 3) := by decide +kernel
theorem dX6_addHighestFirst_29 : decode cX6_addHighestFirst 29 = .ok (.return_, 1) := by decide +kernel
set_option maxRecDepth 100000 in
set_option maxHeartbeats 4000000 in
theorem c_X6_addHighestFirst (l : Launch) (D : va_G) (t : Nat → ClassId) (G : GE) (κ : CS) (h : Nat) (a1 : Int32) (post : CS → Prop) (hw : F_X6_addHighestFirst G h a1 post κ) (sz : Nat) : CMv l D t yX6_addHighestFirst cX6_addHighestFirst 2 3 83 G κ sz [.ref h, .int a1] post := by
  refine c_go (by decide) (Nat.le_of_ble_eq_true rfl) ?_
  intro p e s m below meth c ls A hF hr hlk hin hAe hH hA hE hl
  unfold cB
  rw [hAe]
  clear hAe
  have hF : FX p m c cX6_addHighestFirst 2 s _ RX6 D t := hF
  have hx := hF.1.1
  have hb := hF.1.2.1
  have hl : lv_has ls 2 [(0, .ref h), (1, .int a1)] := hl
  unfold F_X6_addHighestFirst at hw
  refine lv_aload_n hx hb dX6_addHighestFirst_0 rfl (lv_at hl 0 rfl) ?_
  refine lv_iload_n hx hb dX6_addHighestFirst_1 rfl (lv_at hl 1 rfl) ?_
  refine lv_bipush (v := 24) hx hb dX6_addHighestFirst_2 (by decide) ?_
  refine lv_ishr hx hb dX6_addHighestFirst_4 ?_
  refine w_nmi hw (fun z1 hw => ?_)
  refine cw_cVv (b := h) (As := [.int z1]) (rest := []) hF hH hA hE mv_X6_33 ci_X6 (by decide) (fun sz => c_X6_add l D t G _ h z1 _ hw.2 sz) dX6_addHighestFirst_5 hw.1 ⟨Nat.le_of_ble_eq_true rfl, Nat.le_of_ble_eq_true rfl⟩ rfl hl.1 (Nat.le_of_ble_eq_true rfl) rfl (fun κ2 H locs cells slots hw hH => ?_)
  refine lv_aload_n hx hb dX6_addHighestFirst_8 rfl (lv_at hl 0 rfl) ?_
  refine lv_iload_n hx hb dX6_addHighestFirst_9 rfl (lv_at hl 1 rfl) ?_
  refine lv_bipush (v := 16) hx hb dX6_addHighestFirst_10 (by decide) ?_
  refine lv_ishr hx hb dX6_addHighestFirst_12 ?_
  refine w_nmi hw (fun z4 hw => ?_)
  refine cw_cVv (b := h) (As := [.int z4]) (rest := []) hF hH hA hE mv_X6_33 ci_X6 (by decide) (fun sz => c_X6_add l D t G _ h z4 _ hw.2 sz) dX6_addHighestFirst_13 hw.1 ⟨Nat.le_of_ble_eq_true rfl, Nat.le_of_ble_eq_true rfl⟩ rfl hl.1 (Nat.le_of_ble_eq_true rfl) rfl (fun κ5 H locs cells slots hw hH => ?_)
  refine lv_aload_n hx hb dX6_addHighestFirst_16 rfl (lv_at hl 0 rfl) ?_
  refine lv_iload_n hx hb dX6_addHighestFirst_17 rfl (lv_at hl 1 rfl) ?_
  refine lv_bipush (v := 8) hx hb dX6_addHighestFirst_18 (by decide) ?_
  refine lv_ishr hx hb dX6_addHighestFirst_20 ?_
  refine w_nmi hw (fun z7 hw => ?_)
  refine cw_cVv (b := h) (As := [.int z7]) (rest := []) hF hH hA hE mv_X6_33 ci_X6 (by decide) (fun sz => c_X6_add l D t G _ h z7 _ hw.2 sz) dX6_addHighestFirst_21 hw.1 ⟨Nat.le_of_ble_eq_true rfl, Nat.le_of_ble_eq_true rfl⟩ rfl hl.1 (Nat.le_of_ble_eq_true rfl) rfl (fun κ8 H locs cells slots hw hH => ?_)
  refine lv_aload_n hx hb dX6_addHighestFirst_24 rfl (lv_at hl 0 rfl) ?_
  refine lv_iload_n hx hb dX6_addHighestFirst_25 rfl (lv_at hl 1 rfl) ?_
  refine cw_cVv (b := h) (As := [.int a1]) (rest := []) hF hH hA hE mv_X6_33 ci_X6 (by decide) (fun sz => c_X6_add l D t G _ h a1 _ hw.2 sz) dX6_addHighestFirst_26 hw.1 ⟨Nat.le_of_ble_eq_true rfl, Nat.le_of_ble_eq_true rfl⟩ rfl hl.1 (Nat.le_of_ble_eq_true rfl) rfl (fun κ10 H locs cells slots hw hH => ?_)
  exact cw_retv hF hH ⟨rfl, rfl⟩ hr hlk dX6_addHighestFirst_29 hw
set_option maxRecDepth 100000 in
def F_X6_chain (G : GE) (h : Nat) (a1 : Option Nat) (a2 : Int32) (post : Int32 → CS → Prop) (κ : CS) : Prop := (h ∈ sL κ.1 ∧ sK κ.1 h = 2) ∧ ∀ z1 : Int32, z1 = sI κ.1 h 1 → ∀ z2 : Int32, z2 = z1 + 7 → (h ∈ sL κ.1 ∧ sK κ.1 h = 2) ∧ ∀ z3 : Int32, z3 = sI κ.1 h 1 → ∀ z4 : Int32, z4 = z3 + 7 → ∀ z5 : Int32, z5 = z4 - z4 / 8 * 8 → ∀ z6 : Int32, z6 = z2 - z5 → ∃ b : Nat, a1 = some b ∧ (b ∈ sL κ.1 ∧ sK κ.1 b = 2) ∧ ∀ z7 : Int32, z7 = sI κ.1 b 1 → ∀ z8 : Int32, z8 = z6 + z7 → (h ∈ sL κ.1 ∧ sK κ.1 h = 2) ∧ ∀ z9 : Option Nat, z9 = sP κ.1 h 0 → ∃ n : Nat, AL G κ z9 n ∧ ∀ z10 : Int32, z10 = nI n → jc (fun (K13 : Unit → CS → Prop) => ((z8.toInt ≤ z10.toInt) → K13 () κ) ∧ ((z10.toInt < z8.toInt) → (h ∈ sL κ.1 ∧ sK κ.1 h = 2) ∧ ∀ z35 : Option Nat, z35 = sP κ.1 h 0 → ∀ z36 : Int32, z36 = 2 * z8 → F_J7_copyOf_9075b G z35 z36 (fun (z38 : Option Nat) (κ37 : CS) => (h ∈ sL κ37.1 ∧ sK κ37.1 h = 2) ∧ ∀ κ39 : CS, κ39 = (h_uP κ37.1 h 0 z38, κ37.2) → K13 () κ39) κ)) (fun (x11 : Unit) (κ12 : CS) => (h ∈ sL κ12.1 ∧ sK κ12.1 h = 2) ∧ ∀ z16 : Option Nat, z16 = sP κ12.1 h 0 → (h ∈ sL κ12.1 ∧ sK κ12.1 h = 2) ∧ ∀ z17 : Int32, z17 = sI κ12.1 h 1 → F_J7_fill_eb02e G z16 z17 z6 0 (fun (κ18 : CS) => ∃ b : Nat, a1 = some b ∧ (b ∈ sL κ18.1 ∧ sK κ18.1 b = 2) ∧ ∀ z20 : Option Nat, z20 = sP κ18.1 b 0 → (h ∈ sL κ18.1 ∧ sK κ18.1 h = 2) ∧ ∀ z21 : Option Nat, z21 = sP κ18.1 h 0 → ∃ b : Nat, a1 = some b ∧ (b ∈ sL κ18.1 ∧ sK κ18.1 b = 2) ∧ ∀ z22 : Int32, z22 = sI κ18.1 b 1 → ∃ u0 : Nat, z20 = some u0 ∧ ∃ u1 : Nat, z21 = some u1 ∧ (u0 ∈ sL κ18.1 ∧ sK κ18.1 u0 = 20) ∧ (u1 ∈ sL κ18.1 ∧ sK κ18.1 u1 = 20) ∧ (0 ≤ (0 : Int32).toInt ∧ 0 ≤ z6.toInt ∧ 0 ≤ z22.toInt ∧ (0 : Int32).toInt + z22.toInt ≤ (sN κ18.1 u0 : Int) ∧ z6.toInt + z22.toInt ≤ (sN κ18.1 u1 : Int)) ∧ (∀ j : Nat, j < z22.toInt.toNat → -128 ≤ (sI κ18.1 u0 ((0 : Int32).toInt.toNat + j)).toInt ∧ (sI κ18.1 u0 ((0 : Int32).toInt.toNat + j)).toInt ≤ 127) ∧ ∀ κ23 : CS, κ23 = (h_cpI κ18.1 u0 u1 (0 : Int32).toInt.toNat z6.toInt.toNat z22.toInt.toNat, κ18.2) → (h ∈ sL κ23.1 ∧ sK κ23.1 h = 2) ∧ ∀ κ24 : CS, κ24 = (h_uI κ23.1 h 1 z8, κ23.2) → jc (fun (K27 : Unit → CS → Prop) => ((z6.toInt ≤ 0) → K27 () κ24) ∧ ((0 < z6.toInt) → ∀ z30 : Int32, z30 = a2 + 20 → ∀ z31 : Int32, z31 = z6 - a2 → ∀ z32 : Int64, z32 = (z31 : Int32).toInt64 → (h ∈ sL κ24.1 ∧ sK κ24.1 h = 2) ∧ F_X6_put G h z30 4 z32 (fun (κ33 : CS) => K27 () κ33) κ24)) (fun (x25 : Unit) (κ26 : CS) => post z6 κ26)) κ12)
theorem dX6_chain_0 : decode cX6_chain 0 = .ok (.aload_n 0, 1) := by decide +kernel
theorem dX6_chain_1 : decode cX6_chain 1 = .ok (.getfield 25, 3) := by decide +kernel
theorem dX6_chain_4 : decode cX6_chain 4 = .ok (.bipush 7, 2) := by decide +kernel
theorem dX6_chain_6 : decode cX6_chain 6 = .ok (.iadd, 1) := by decide +kernel
theorem dX6_chain_7 : decode cX6_chain 7 = .ok (.aload_n 0, 1) := by decide +kernel
theorem dX6_chain_8 : decode cX6_chain 8 = .ok (.getfield 25, 3) := by decide +kernel
theorem dX6_chain_11 : decode cX6_chain 11 = .ok (.bipush 7, 2) := by decide +kernel
theorem dX6_chain_13 : decode cX6_chain 13 = .ok (.iadd, 1) := by decide +kernel
theorem dX6_chain_14 : decode cX6_chain 14 = .ok (.bipush 8, 2) := by decide +kernel
theorem dX6_chain_16 : decode cX6_chain 16 = .ok (.irem, 1) := by decide +kernel
theorem dX6_chain_17 : decode cX6_chain 17 = .ok (.isub, 1) := by decide +kernel
theorem dX6_chain_18 : decode cX6_chain 18 = .ok (.istore_n 3, 1) := by decide +kernel
theorem dX6_chain_19 : decode cX6_chain 19 = .ok (.iload_n 3, 1) := by decide +kernel
theorem dX6_chain_20 : decode cX6_chain 20 = .ok (.aload_n 1, 1) := by decide +kernel
theorem dX6_chain_21 : decode cX6_chain 21 = .ok (.getfield 25, 3) := by decide +kernel
theorem dX6_chain_24 : decode cX6_chain 24 = .ok (.iadd, 1) := by decide +kernel
theorem dX6_chain_25 : decode cX6_chain 25 = .ok (.istore 4, 2) := by decide +kernel
theorem dX6_chain_27 : decode cX6_chain 27 = .ok (.iload 4, 2) := by decide +kernel
theorem dX6_chain_29 : decode cX6_chain 29 = .ok (.aload_n 0, 1) := by decide +kernel
theorem dX6_chain_30 : decode cX6_chain 30 = .ok (.getfield 7, 3) := by decide +kernel
theorem dX6_chain_33 : decode cX6_chain 33 = .ok (.arraylength, 1) := by decide +kernel
theorem dX6_chain_34 : decode cX6_chain 34 = .ok (.if_icmp .le 18, 3) := by decide +kernel
theorem dX6_chain_37 : decode cX6_chain 37 = .ok (.aload_n 0, 1) := by decide +kernel
theorem dX6_chain_38 : decode cX6_chain 38 = .ok (.aload_n 0, 1) := by decide +kernel
theorem dX6_chain_39 : decode cX6_chain 39 = .ok (.getfield 7, 3) := by decide +kernel
theorem dX6_chain_42 : decode cX6_chain 42 = .ok (.iconst 2, 1) := by decide +kernel
theorem dX6_chain_43 : decode cX6_chain 43 = .ok (.iload 4, 2) := by decide +kernel
theorem dX6_chain_45 : decode cX6_chain 45 = .ok (.imul, 1) := by decide +kernel
theorem dX6_chain_46 : decode cX6_chain 46 = .ok (.invokestatic 29, 3) := by decide +kernel
theorem dX6_chain_49 : decode cX6_chain 49 = .ok (.putfield 7, 3) := by decide +kernel
theorem dX6_chain_52 : decode cX6_chain 52 = .ok (.aload_n 0, 1) := by decide +kernel
theorem dX6_chain_53 : decode cX6_chain 53 = .ok (.getfield 7, 3) := by decide +kernel
theorem dX6_chain_56 : decode cX6_chain 56 = .ok (.aload_n 0, 1) := by decide +kernel
theorem dX6_chain_57 : decode cX6_chain 57 = .ok (.getfield 25, 3) := by decide +kernel
theorem dX6_chain_60 : decode cX6_chain 60 = .ok (.iload_n 3, 1) := by decide +kernel
theorem dX6_chain_61 : decode cX6_chain 61 = .ok (.iconst 0, 1) := by decide +kernel
theorem dX6_chain_62 : decode cX6_chain 62 = .ok (.invokestatic 19, 3) := by decide +kernel
theorem dX6_chain_65 : decode cX6_chain 65 = .ok (.aload_n 1, 1) := by decide +kernel
theorem dX6_chain_66 : decode cX6_chain 66 = .ok (.getfield 7, 3) := by decide +kernel
theorem dX6_chain_69 : decode cX6_chain 69 = .ok (.iconst 0, 1) := by decide +kernel
theorem dX6_chain_70 : decode cX6_chain 70 = .ok (.aload_n 0, 1) := by decide +kernel
theorem dX6_chain_71 : decode cX6_chain 71 = .ok (.getfield 7, 3) := by decide +kernel
theorem dX6_chain_74 : decode cX6_chain 74 = .ok (.iload_n 3, 1) := by decide +kernel
theorem dX6_chain_75 : decode cX6_chain 75 = .ok (.aload_n 1, 1) := by decide +kernel
theorem dX6_chain_76 : decode cX6_chain 76 = .ok (.getfield 25, 3) := by decide +kernel
theorem dX6_chain_79 : decode cX6_chain 79 = .ok (.invokestatic 37, 3) := by decide +kernel
theorem dX6_chain_82 : decode cX6_chain 82 = .ok (.aload_n 0, 1) := by decide +kernel
theorem dX6_chain_83 : decode cX6_chain 83 = .ok (.iload 4, 2) := by decide +kernel
theorem dX6_chain_85 : decode cX6_chain 85 = .ok (.putfield 25, 3) := by decide +kernel
theorem dX6_chain_88 : decode cX6_chain 88 = .ok (.iload_n 3, 1) := by decide +kernel
theorem dX6_chain_89 : decode cX6_chain 89 = .ok (.ifCond .le 16, 3) := by decide +kernel
theorem dX6_chain_92 : decode cX6_chain 92 = .ok (.aload_n 0, 1) := by decide +kernel
theorem dX6_chain_93 : decode cX6_chain 93 = .ok (.iload_n 2, 1) := by decide +kernel
theorem dX6_chain_94 : decode cX6_chain 94 = .ok (.bipush 20, 2) := by decide +kernel
theorem dX6_chain_96 : decode cX6_chain 96 = .ok (.iadd, 1) := by decide +kernel
theorem dX6_chain_97 : decode cX6_chain 97 = .ok (.iconst 4, 1) := by decide +kernel
theorem dX6_chain_98 : decode cX6_chain 98 = .ok (.iload_n 3, 1) := by decide +kernel
theorem dX6_chain_99 : decode cX6_chain 99 = .ok (.iload_n 2, 1) := by decide +kernel
theorem dX6_chain_100 : decode cX6_chain 100 = .ok (.isub, 1) := by decide +kernel
theorem dX6_chain_101 : decode cX6_chain 101 = .ok (.i2l, 1) := by decide +kernel
theorem dX6_chain_102 : decode cX6_chain 102 = .ok (.invokevirtual 43, 3) := by decide +kernel
theorem dX6_chain_105 : decode cX6_chain 105 = .ok (.iload_n 3, 1) := by decide +kernel
theorem dX6_chain_106 : decode cX6_chain 106 = .ok (.ireturn, 1) := by decide +kernel
set_option maxRecDepth 100000 in
set_option maxHeartbeats 4000000 in
theorem c_X6_chain (l : Launch) (D : va_G) (t : Nat → ClassId) (G : GE) (κ : CS) (h : Nat) (a1 : Option Nat) (a2 : Int32) (post : Int32 → CS → Prop) (hw : F_X6_chain G h a1 a2 post κ) (sz : Nat) : CMi l D t yX6_chain cX6_chain 5 (some .int) 2 62 G κ sz [.ref h, va_rf a1, .int a2] post := by
  refine c_go (by decide) (by cases a1 <;> exact Nat.le_of_ble_eq_true rfl) ?_
  intro p e s m below meth c ls A hF hr hlk hin hAe hH hA hE hl
  unfold cB
  rw [hAe]
  clear hAe
  have hF : FX p m c cX6_chain 5 s _ RX6 D t := hF
  have hx := hF.1.1
  have hb := hF.1.2.1
  have hl : lv_has ls 5 [(0, .ref h), (1, va_rf a1), (2, .int a2)] := (by have h2 := hl; clear hw; revert h2; cases a1 <;> exact id)
  unfold F_X6_chain at hw
  refine lv_aload_n hx hb dX6_chain_0 rfl (lv_at hl 0 rfl) ?_
  refine cw_getIr (a := h) hF hH fk_X6_25 dX6_chain_1 hw (fun z1 hw => ?_)
  refine lv_bipush (v := 7) hx hb dX6_chain_4 (by decide) ?_
  refine lv_iadd hx hb dX6_chain_6 ?_
  refine w_nmi hw (fun z2 hw => ?_)
  refine lv_aload_n hx hb dX6_chain_7 rfl (lv_at hl 0 rfl) ?_
  refine cw_getIr (a := h) hF hH fk_X6_25 dX6_chain_8 hw (fun z3 hw => ?_)
  refine lv_bipush (v := 7) hx hb dX6_chain_11 (by decide) ?_
  refine lv_iadd hx hb dX6_chain_13 ?_
  refine w_nmi hw (fun z4 hw => ?_)
  refine lv_bipush (v := 8) hx hb dX6_chain_14 (by decide) ?_
  refine lv_irem hx hb dX6_chain_16 (by decide) ?_
  refine w_nmi hw (fun z5 hw => ?_)
  refine lv_isub hx hb dX6_chain_17 ?_
  refine w_nmi hw (fun z6 hw => ?_)
  refine lv_istore_n (lv' := [(3, .int z6), (0, .ref h), (1, va_rf a1), (2, .int a2)]) hx hb dX6_chain_18 rfl hl (by decide) rfl (fun ls hl => ?_)
  refine lv_iload_n hx hb dX6_chain_19 rfl (lv_at hl 0 rfl) ?_
  refine w_aloadq_n hF dX6_chain_20 rfl (lv_at hl 2 rfl) ?_
  refine cw_getI (q := a1) hF hH fk_X6_25 dX6_chain_21 hw (fun z7 hw => ?_)
  refine lv_iadd hx hb dX6_chain_24 ?_
  refine w_nmi hw (fun z8 hw => ?_)
  refine lv_istore (lv' := [(4, .int z8), (3, .int z6), (0, .ref h), (1, va_rf a1), (2, .int a2)]) hx hb dX6_chain_25 hl (by decide) rfl (fun ls hl => ?_)
  refine lv_iload hx hb dX6_chain_27 (lv_at hl 0 rfl) ?_
  refine lv_aload_n hx hb dX6_chain_29 rfl (lv_at hl 2 rfl) ?_
  refine cw_getPr (a := h) hF hH fk_X6_7 dX6_chain_30 hw (fun z9 hw => ?_)
  refine cw_alen (q := z9) hF hH hE dX6_chain_33 hw (fun z10 hw => ?_)
  obtain ⟨K13, hK14, hw⟩ := jc_open hw
  refine cw_join (K := K13) 52 (fun (x11 : Unit) => [(4, .int z8), (3, .int z6), (2, .int a2), (1, va_rf a1), (0, .ref h)]) (fun (x11 : Unit) => []) hl hH (fun x11 κ12 ls H locs cells slots hl hw hH => ?_) (fun jn15 => ?_)
  · have hw := hK14 x11 κ12 hw
    have hl : lv_has ls 5 [(4, .int z8), (3, .int z6), (2, .int a2), (1, va_rf a1), (0, .ref h)] := hl
    refine lv_aload_n hx hb dX6_chain_52 rfl (lv_at hl 4 rfl) ?_
    refine cw_getPr (a := h) hF hH fk_X6_7 dX6_chain_53 hw (fun z16 hw => ?_)
    refine lv_aload_n hx hb dX6_chain_56 rfl (lv_at hl 4 rfl) ?_
    refine cw_getIr (a := h) hF hH fk_X6_25 dX6_chain_57 hw (fun z17 hw => ?_)
    refine lv_iload_n hx hb dX6_chain_60 rfl (lv_at hl 1 rfl) ?_
    refine lv_iconst (v := 0) hx hb dX6_chain_61 (by decide) ?_
    refine cw_cSv (As := [va_rf z16, .int z17, .int z6, .int 0]) (rest := []) hF hH hA hE ms_X6_19 (fun sz => c_J7_fill_eb02e l D t G _ z16 z17 z6 0 _ hw sz) dX6_chain_62 ⟨Nat.le_of_ble_eq_true rfl, Nat.le_of_ble_eq_true rfl⟩ rfl hl.1 (Nat.le_of_ble_eq_true rfl) rfl (fun κ18 H locs cells slots hw hH => ?_)
    refine w_aloadq_n hF dX6_chain_65 rfl (lv_at hl 3 rfl) ?_
    refine cw_getP (q := a1) hF hH fk_X6_7 dX6_chain_66 hw (fun z20 hw => ?_)
    refine lv_iconst (v := 0) hx hb dX6_chain_69 (by decide) ?_
    refine lv_aload_n hx hb dX6_chain_70 rfl (lv_at hl 4 rfl) ?_
    refine cw_getPr (a := h) hF hH fk_X6_7 dX6_chain_71 hw (fun z21 hw => ?_)
    refine lv_iload_n hx hb dX6_chain_74 rfl (lv_at hl 1 rfl) ?_
    refine w_aloadq_n hF dX6_chain_75 rfl (lv_at hl 3 rfl) ?_
    refine cw_getI (q := a1) hF hH fk_X6_25 dX6_chain_76 hw (fun z22 hw => ?_)
    refine cw_copyB (q0 := z20) (q1 := z21) hF hH (wc_36 3 rfl) (wc_10 14 rfl) (wc_10 15 rfl) (wc_5 17 rfl) (Nat.le_of_ble_eq_true rfl) (Nat.le_of_ble_eq_true rfl) hl.1 dX6_chain_79 hw (fun κ23 H locs cells slots hw hH => ?_)
    refine lv_aload_n hx hb dX6_chain_82 rfl (lv_at hl 4 rfl) ?_
    refine lv_iload hx hb dX6_chain_83 (lv_at hl 0 rfl) ?_
    refine cw_putIr (a := h) (v := z8) hF hH fk_X6_25 dX6_chain_85 rfl rfl rfl hw (fun κ24 H locs cells slots hw hH => ?_)
    refine lv_iload_n hx hb dX6_chain_88 rfl (lv_at hl 1 rfl) ?_
    obtain ⟨K27, hK28, hw⟩ := jc_open hw
    refine cw_join (K := K27) 105 (fun (x25 : Unit) => [(3, .int z6)]) (fun (x25 : Unit) => []) hl hH (fun x25 κ26 ls H locs cells slots hl hw hH => ?_) (fun jn29 => ?_)
    · have hw := hK28 x25 κ26 hw
      have hl : lv_has ls 5 [(3, .int z6)] := hl
      refine lv_iload_n hx hb dX6_chain_105 rfl (lv_at hl 0 rfl) ?_
      exact cw_reti hF hH ⟨rfl, rfl⟩ hr rfl hlk dX6_chain_106 hw
    · skip
      refine w_if_le (tgt := 105) hF dX6_chain_89 rfl hw (fun hw => ?_) (fun hw => ?_)
      · have hl : lv_has ls 5 [(3, .int z6)] := lv_sub hl [1] rfl
        exact jn29 () κ24 ls _ _ _ _ hl hw hH
      · refine lv_aload_n hx hb dX6_chain_92 rfl (lv_at hl 4 rfl) ?_
        refine lv_iload_n hx hb dX6_chain_93 rfl (lv_at hl 2 rfl) ?_
        refine lv_bipush (v := 20) hx hb dX6_chain_94 (by decide) ?_
        refine lv_iadd hx hb dX6_chain_96 ?_
        refine w_nmi hw (fun z30 hw => ?_)
        refine lv_iconst (v := 4) hx hb dX6_chain_97 (by decide) ?_
        refine lv_iload_n hx hb dX6_chain_98 rfl (lv_at hl 1 rfl) ?_
        refine lv_iload_n hx hb dX6_chain_99 rfl (lv_at hl 2 rfl) ?_
        refine lv_isub hx hb dX6_chain_100 ?_
        refine w_nmi hw (fun z31 hw => ?_)
        refine lv_i2l hx hb dX6_chain_101 rfl ?_
        refine w_nml hw (fun z32 hw => ?_)
        refine cw_cVv (b := h) (As := [.int z30, .int 4, .long z32]) (rest := []) hF hH hA hE mv_X6_43 ci_X6 (by decide) (fun sz => c_X6_put l D t G _ h z30 4 z32 _ hw.2 sz) dX6_chain_102 hw.1 ⟨Nat.le_of_ble_eq_true rfl, Nat.le_of_ble_eq_true rfl⟩ rfl hl.1 (Nat.le_of_ble_eq_true rfl) rfl (fun κ33 H locs cells slots hw hH => ?_)
        have hl : lv_has ls 5 [(3, .int z6)] := lv_sub hl [1] rfl
        exact jn29 () κ33 ls _ _ _ _ hl hw hH
  · skip
    refine w_icmp_le (tgt := 52) hF dX6_chain_34 rfl hw (fun hw => ?_) (fun hw => ?_)
    · have hl : lv_has ls 5 [(4, .int z8), (3, .int z6), (2, .int a2), (1, va_rf a1), (0, .ref h)] := lv_sub hl [0, 1, 4, 3, 2] rfl
      exact jn15 () κ ls _ _ _ _ hl hw hH
    · refine lv_aload_n hx hb dX6_chain_37 rfl (lv_at hl 2 rfl) ?_
      refine lv_aload_n hx hb dX6_chain_38 rfl (lv_at hl 2 rfl) ?_
      refine cw_getPr (a := h) hF hH fk_X6_7 dX6_chain_39 hw (fun z35 hw => ?_)
      refine lv_iconst (v := 2) hx hb dX6_chain_42 (by decide) ?_
      refine lv_iload hx hb dX6_chain_43 (lv_at hl 0 rfl) ?_
      refine lv_imul hx hb dX6_chain_45 ?_
      refine w_nmi hw (fun z36 hw => ?_)
      refine cw_cSq (As := [va_rf z35, .int z36]) (rest := [.ref h]) hF hH hA hE ms_X6_29 (fun sz => c_J7_copyOf_9075b l D t G _ z35 z36 _ hw sz) dX6_chain_46 ⟨Nat.le_of_ble_eq_true rfl, Nat.le_of_ble_eq_true rfl⟩ rfl hl.1 (Nat.le_of_ble_eq_true rfl) rfl (fun z38 κ37 H locs cells slots hw hH => ?_)
      refine cw_putPr (a := h) (v := z38) hF hH fk_X6_7 dX6_chain_49 rfl rfl hw (fun κ39 H locs cells slots hw hH => ?_)
      have hl : lv_has ls 5 [(4, .int z8), (3, .int z6), (2, .int a2), (1, va_rf a1), (0, .ref h)] := lv_sub hl [0, 1, 4, 3, 2] rfl
      exact jn15 () κ39 ls _ _ _ _ hl hw hH

/-! the class, lifted: 4 -/
set_option maxRecDepth 100000 in
def F_X10_takeAccess (G : GE) (h : Nat) (a1 : Int32) (post : CS → Prop) (κ : CS) : Prop := ∀ z1 : Int32, z1 = a1 &&& (-2147483648) → jc (fun (K4 : Int32 → CS → Prop) => ((z1.toInt = 0) → K4 0 κ) ∧ ((¬ z1.toInt = 0) → K4 1179785 κ)) (fun (x2 : Int32) (κ3 : CS) => ∀ z7 : Int32, z7 = a1 ||| x2 → ∀ z8 : Int32, z8 = a1 &&& 1073741824 → jc (fun (K11 : Int32 → CS → Prop) => ((z8.toInt = 0) → K11 0 κ3) ∧ ((¬ z8.toInt = 0) → K11 1179926 κ3)) (fun (x9 : Int32) (κ10 : CS) => ∀ z14 : Int32, z14 = z7 ||| x9 → ∀ z15 : Int32, z15 = a1 &&& 536870912 → jc (fun (K18 : Int32 → CS → Prop) => ((z15.toInt = 0) → K18 0 κ10) ∧ ((¬ z15.toInt = 0) → K18 1179808 κ10)) (fun (x16 : Int32) (κ17 : CS) => ∀ z21 : Int32, z21 = z14 ||| x16 → ∀ z22 : Int32, z22 = a1 &&& 301989888 → jc (fun (K25 : Int32 → CS → Prop) => ((z22.toInt = 0) → K25 0 κ17) ∧ ((¬ z22.toInt = 0) → K25 2032127 κ17)) (fun (x23 : Int32) (κ24 : CS) => ∀ z28 : Int32, z28 = z21 ||| x23 → ∀ z29 : Int32, z29 = z28 &&& 2032127 → (h ∈ sL κ24.1 ∧ sK κ24.1 h = 13) ∧ ∀ κ30 : CS, κ30 = (h_uI κ24.1 h 1 z29, κ24.2) → post κ30))))
theorem dX10_takeAccess_0 : decode cX10_takeAccess 0 = .ok (.iload_n 1, 1) := by decide +kernel
theorem dX10_takeAccess_1 : decode cX10_takeAccess 1 = .ok (.istore_n 2, 1) := by decide +kernel
theorem dX10_takeAccess_2 : decode cX10_takeAccess 2 = .ok (.iload_n 2, 1) := by decide +kernel
theorem dX10_takeAccess_3 : decode cX10_takeAccess 3 = .ok (.iload_n 1, 1) := by decide +kernel
theorem dX10_takeAccess_4 : decode cX10_takeAccess 4 = .ok (.ldc 25, 2) := by decide +kernel
theorem dX10_takeAccess_6 : decode cX10_takeAccess 6 = .ok (.iand, 1) := by decide +kernel
theorem dX10_takeAccess_7 : decode cX10_takeAccess 7 = .ok (.ifCond .eq 8, 3) := by decide +kernel
theorem dX10_takeAccess_10 : decode cX10_takeAccess 10 = .ok (.ldc 26, 2) := by decide +kernel
theorem dX10_takeAccess_12 : decode cX10_takeAccess 12 = .ok (.goto 4, 3) := by decide +kernel
theorem dX10_takeAccess_15 : decode cX10_takeAccess 15 = .ok (.iconst 0, 1) := by decide +kernel
theorem dX10_takeAccess_16 : decode cX10_takeAccess 16 = .ok (.ior, 1) := by decide +kernel
theorem dX10_takeAccess_17 : decode cX10_takeAccess 17 = .ok (.istore_n 2, 1) := by decide +kernel
theorem dX10_takeAccess_18 : decode cX10_takeAccess 18 = .ok (.iload_n 2, 1) := by decide +kernel
theorem dX10_takeAccess_19 : decode cX10_takeAccess 19 = .ok (.iload_n 1, 1) := by decide +kernel
theorem dX10_takeAccess_20 : decode cX10_takeAccess 20 = .ok (.ldc 27, 2) := by decide +kernel
theorem dX10_takeAccess_22 : decode cX10_takeAccess 22 = .ok (.iand, 1) := by decide +kernel
theorem dX10_takeAccess_23 : decode cX10_takeAccess 23 = .ok (.ifCond .eq 8, 3) := by decide +kernel
theorem dX10_takeAccess_26 : decode cX10_takeAccess 26 = .ok (.ldc 28, 2) := by decide +kernel
theorem dX10_takeAccess_28 : decode cX10_takeAccess 28 = .ok (.goto 4, 3) := by decide +kernel
theorem dX10_takeAccess_31 : decode cX10_takeAccess 31 = .ok (.iconst 0, 1) := by decide +kernel
theorem dX10_takeAccess_32 : decode cX10_takeAccess 32 = .ok (.ior, 1) := by decide +kernel
theorem dX10_takeAccess_33 : decode cX10_takeAccess 33 = .ok (.istore_n 2, 1) := by decide +kernel
theorem dX10_takeAccess_34 : decode cX10_takeAccess 34 = .ok (.iload_n 2, 1) := by decide +kernel
theorem dX10_takeAccess_35 : decode cX10_takeAccess 35 = .ok (.iload_n 1, 1) := by decide +kernel
theorem dX10_takeAccess_36 : decode cX10_takeAccess 36 = .ok (.ldc 29, 2) := by decide +kernel
theorem dX10_takeAccess_38 : decode cX10_takeAccess 38 = .ok (.iand, 1) := by decide +kernel
theorem dX10_takeAccess_39 : decode cX10_takeAccess 39 = .ok (.ifCond .eq 8, 3) := by decide +kernel
theorem dX10_takeAccess_42 : decode cX10_takeAccess 42 = .ok (.ldc 30, 2) := by decide +kernel
theorem dX10_takeAccess_44 : decode cX10_takeAccess 44 = .ok (.goto 4, 3) := by decide +kernel
theorem dX10_takeAccess_47 : decode cX10_takeAccess 47 = .ok (.iconst 0, 1) := by decide +kernel
theorem dX10_takeAccess_48 : decode cX10_takeAccess 48 = .ok (.ior, 1) := by decide +kernel
theorem dX10_takeAccess_49 : decode cX10_takeAccess 49 = .ok (.istore_n 2, 1) := by decide +kernel
theorem dX10_takeAccess_50 : decode cX10_takeAccess 50 = .ok (.iload_n 2, 1) := by decide +kernel
theorem dX10_takeAccess_51 : decode cX10_takeAccess 51 = .ok (.iload_n 1, 1) := by decide +kernel
theorem dX10_takeAccess_52 : decode cX10_takeAccess 52 = .ok (.ldc 31, 2) := by decide +kernel
theorem dX10_takeAccess_54 : decode cX10_takeAccess 54 = .ok (.iand, 1) := by decide +kernel
theorem dX10_takeAccess_55 : decode cX10_takeAccess 55 = .ok (.ifCond .eq 8, 3) := by decide +kernel
theorem dX10_takeAccess_58 : decode cX10_takeAccess 58 = .ok (.ldc 32, 2) := by decide +kernel
theorem dX10_takeAccess_60 : decode cX10_takeAccess 60 = .ok (.goto 4, 3) := by decide +kernel
theorem dX10_takeAccess_63 : decode cX10_takeAccess 63 = .ok (.iconst 0, 1) := by decide +kernel
theorem dX10_takeAccess_64 : decode cX10_takeAccess 64 = .ok (.ior, 1) := by decide +kernel
theorem dX10_takeAccess_65 : decode cX10_takeAccess 65 = .ok (.istore_n 2, 1) := by decide +kernel
theorem dX10_takeAccess_66 : decode cX10_takeAccess 66 = .ok (.aload_n 0, 1) := by decide +kernel
theorem dX10_takeAccess_67 : decode cX10_takeAccess 67 = .ok (.iload_n 2, 1) := by decide +kernel
theorem dX10_takeAccess_68 : decode cX10_takeAccess 68 = .ok (.ldc 32, 2) := by decide +kernel
theorem dX10_takeAccess_70 : decode cX10_takeAccess 70 = .ok (.iand, 1) := by decide +kernel
theorem dX10_takeAccess_71 : decode cX10_takeAccess 71 = .ok (.putfield 33, 3) := by decide +kernel
theorem dX10_takeAccess_74 : decode cX10_takeAccess 74 = .ok (.return_, 1) := by decide +kernel
set_option maxRecDepth 100000 in
set_option maxHeartbeats 4000000 in
theorem c_X10_takeAccess (l : Launch) (D : va_G) (t : Nat → ClassId) (G : GE) (κ : CS) (h : Nat) (a1 : Int32) (post : CS → Prop) (hw : F_X10_takeAccess G h a1 post κ) (sz : Nat) : CMv l D t yX10_takeAccess cX10_takeAccess 3 0 14 G κ sz [.ref h, .int a1] post := by
  refine c_go (by decide) (Nat.le_of_ble_eq_true rfl) ?_
  intro p e s m below meth c ls A hF hr hlk hin hAe hH hA hE hl
  unfold cB
  rw [hAe]
  clear hAe
  have hF : FX p m c cX10_takeAccess 3 s _ RX10 D t := hF
  have hx := hF.1.1
  have hb := hF.1.2.1
  have hl : lv_has ls 3 [(0, .ref h), (1, .int a1)] := hl
  unfold F_X10_takeAccess at hw
  refine lv_iload_n hx hb dX10_takeAccess_0 rfl (lv_at hl 1 rfl) ?_
  refine lv_istore_n (lv' := [(2, .int a1), (0, .ref h), (1, .int a1)]) hx hb dX10_takeAccess_1 rfl hl (by decide) rfl (fun ls hl => ?_)
  refine lv_iload_n hx hb dX10_takeAccess_2 rfl (lv_at hl 0 rfl) ?_
  refine lv_iload_n hx hb dX10_takeAccess_3 rfl (lv_at hl 2 rfl) ?_
  refine lv_ldc (v := (-2147483648)) hx hb hF.1.2.2.2.1 (hF.1.2.2.2.2 _ (wc_25 18 rfl)) dX10_takeAccess_4 ?_
  refine lv_iand hx hb dX10_takeAccess_6 ?_
  refine w_nmi hw (fun z1 hw => ?_)
  obtain ⟨K4, hK5, hw⟩ := jc_open hw
  refine cw_join (K := K4) 16 (fun (x2 : Int32) => [(1, .int a1), (0, .ref h)]) (fun (x2 : Int32) => [.int x2, .int a1]) hl hH (fun x2 κ3 ls H locs cells slots hl hw hH => ?_) (fun jn6 => ?_)
  · have hw := hK5 x2 κ3 hw
    have hl : lv_has ls 3 [(1, .int a1), (0, .ref h)] := hl
    refine lv_ior hx hb dX10_takeAccess_16 ?_
    refine w_nmi hw (fun z7 hw => ?_)
    refine lv_istore_n (lv' := [(2, .int z7), (1, .int a1), (0, .ref h)]) hx hb dX10_takeAccess_17 rfl hl (by decide) rfl (fun ls hl => ?_)
    refine lv_iload_n hx hb dX10_takeAccess_18 rfl (lv_at hl 0 rfl) ?_
    refine lv_iload_n hx hb dX10_takeAccess_19 rfl (lv_at hl 1 rfl) ?_
    refine lv_ldc (v := 1073741824) hx hb hF.1.2.2.2.1 (hF.1.2.2.2.2 _ (wc_25 20 rfl)) dX10_takeAccess_20 ?_
    refine lv_iand hx hb dX10_takeAccess_22 ?_
    refine w_nmi hw (fun z8 hw => ?_)
    obtain ⟨K11, hK12, hw⟩ := jc_open hw
    refine cw_join (K := K11) 32 (fun (x9 : Int32) => [(1, .int a1), (0, .ref h)]) (fun (x9 : Int32) => [.int x9, .int z7]) hl hH (fun x9 κ10 ls H locs cells slots hl hw hH => ?_) (fun jn13 => ?_)
    · have hw := hK12 x9 κ10 hw
      have hl : lv_has ls 3 [(1, .int a1), (0, .ref h)] := hl
      refine lv_ior hx hb dX10_takeAccess_32 ?_
      refine w_nmi hw (fun z14 hw => ?_)
      refine lv_istore_n (lv' := [(2, .int z14), (1, .int a1), (0, .ref h)]) hx hb dX10_takeAccess_33 rfl hl (by decide) rfl (fun ls hl => ?_)
      refine lv_iload_n hx hb dX10_takeAccess_34 rfl (lv_at hl 0 rfl) ?_
      refine lv_iload_n hx hb dX10_takeAccess_35 rfl (lv_at hl 1 rfl) ?_
      refine lv_ldc (v := 536870912) hx hb hF.1.2.2.2.1 (hF.1.2.2.2.2 _ (wc_25 22 rfl)) dX10_takeAccess_36 ?_
      refine lv_iand hx hb dX10_takeAccess_38 ?_
      refine w_nmi hw (fun z15 hw => ?_)
      obtain ⟨K18, hK19, hw⟩ := jc_open hw
      refine cw_join (K := K18) 48 (fun (x16 : Int32) => [(1, .int a1), (0, .ref h)]) (fun (x16 : Int32) => [.int x16, .int z14]) hl hH (fun x16 κ17 ls H locs cells slots hl hw hH => ?_) (fun jn20 => ?_)
      · have hw := hK19 x16 κ17 hw
        have hl : lv_has ls 3 [(1, .int a1), (0, .ref h)] := hl
        refine lv_ior hx hb dX10_takeAccess_48 ?_
        refine w_nmi hw (fun z21 hw => ?_)
        refine lv_istore_n (lv' := [(2, .int z21), (1, .int a1), (0, .ref h)]) hx hb dX10_takeAccess_49 rfl hl (by decide) rfl (fun ls hl => ?_)
        refine lv_iload_n hx hb dX10_takeAccess_50 rfl (lv_at hl 0 rfl) ?_
        refine lv_iload_n hx hb dX10_takeAccess_51 rfl (lv_at hl 1 rfl) ?_
        refine lv_ldc (v := 301989888) hx hb hF.1.2.2.2.1 (hF.1.2.2.2.2 _ (wc_25 24 rfl)) dX10_takeAccess_52 ?_
        refine lv_iand hx hb dX10_takeAccess_54 ?_
        refine w_nmi hw (fun z22 hw => ?_)
        obtain ⟨K25, hK26, hw⟩ := jc_open hw
        refine cw_join (K := K25) 64 (fun (x23 : Int32) => [(0, .ref h)]) (fun (x23 : Int32) => [.int x23, .int z21]) hl hH (fun x23 κ24 ls H locs cells slots hl hw hH => ?_) (fun jn27 => ?_)
        · have hw := hK26 x23 κ24 hw
          have hl : lv_has ls 3 [(0, .ref h)] := hl
          refine lv_ior hx hb dX10_takeAccess_64 ?_
          refine w_nmi hw (fun z28 hw => ?_)
          refine lv_istore_n (lv' := [(2, .int z28), (0, .ref h)]) hx hb dX10_takeAccess_65 rfl hl (by decide) rfl (fun ls hl => ?_)
          refine lv_aload_n hx hb dX10_takeAccess_66 rfl (lv_at hl 1 rfl) ?_
          refine lv_iload_n hx hb dX10_takeAccess_67 rfl (lv_at hl 0 rfl) ?_
          refine lv_ldc (v := 2032127) hx hb hF.1.2.2.2.1 (hF.1.2.2.2.2 _ (wc_25 25 rfl)) dX10_takeAccess_68 ?_
          refine lv_iand hx hb dX10_takeAccess_70 ?_
          refine w_nmi hw (fun z29 hw => ?_)
          refine cw_putIr (a := h) (v := z29) hF hH fk_X10_33 dX10_takeAccess_71 rfl rfl rfl hw (fun κ30 H locs cells slots hw hH => ?_)
          exact cw_retv hF hH ⟨rfl, rfl⟩ hr hlk dX10_takeAccess_74 hw
        · skip
          refine w_if_eq (tgt := 63) hF dX10_takeAccess_55 rfl hw (fun hw => ?_) (fun hw => ?_)
          · refine lv_iconst (v := 0) hx hb dX10_takeAccess_63 (by decide) ?_
            have hl : lv_has ls 3 [(0, .ref h)] := lv_sub hl [2] rfl
            exact jn27 0 κ17 ls _ _ _ _ hl hw hH
          · refine lv_ldc (v := 2032127) hx hb hF.1.2.2.2.1 (hF.1.2.2.2.2 _ (wc_25 25 rfl)) dX10_takeAccess_58 ?_
            refine lv_goto (tgt := 64) hx hb dX10_takeAccess_60 rfl ?_
            have hl : lv_has ls 3 [(0, .ref h)] := lv_sub hl [2] rfl
            exact jn27 2032127 κ17 ls _ _ _ _ hl hw hH
      · skip
        refine w_if_eq (tgt := 47) hF dX10_takeAccess_39 rfl hw (fun hw => ?_) (fun hw => ?_)
        · refine lv_iconst (v := 0) hx hb dX10_takeAccess_47 (by decide) ?_
          have hl : lv_has ls 3 [(1, .int a1), (0, .ref h)] := lv_sub hl [1, 2] rfl
          exact jn20 0 κ10 ls _ _ _ _ hl hw hH
        · refine lv_ldc (v := 1179808) hx hb hF.1.2.2.2.1 (hF.1.2.2.2.2 _ (wc_25 23 rfl)) dX10_takeAccess_42 ?_
          refine lv_goto (tgt := 48) hx hb dX10_takeAccess_44 rfl ?_
          have hl : lv_has ls 3 [(1, .int a1), (0, .ref h)] := lv_sub hl [1, 2] rfl
          exact jn20 1179808 κ10 ls _ _ _ _ hl hw hH
    · skip
      refine w_if_eq (tgt := 31) hF dX10_takeAccess_23 rfl hw (fun hw => ?_) (fun hw => ?_)
      · refine lv_iconst (v := 0) hx hb dX10_takeAccess_31 (by decide) ?_
        have hl : lv_has ls 3 [(1, .int a1), (0, .ref h)] := lv_sub hl [1, 2] rfl
        exact jn13 0 κ3 ls _ _ _ _ hl hw hH
      · refine lv_ldc (v := 1179926) hx hb hF.1.2.2.2.1 (hF.1.2.2.2.2 _ (wc_25 21 rfl)) dX10_takeAccess_26 ?_
        refine lv_goto (tgt := 32) hx hb dX10_takeAccess_28 rfl ?_
        have hl : lv_has ls 3 [(1, .int a1), (0, .ref h)] := lv_sub hl [1, 2] rfl
        exact jn13 1179926 κ3 ls _ _ _ _ hl hw hH
  · skip
    refine w_if_eq (tgt := 15) hF dX10_takeAccess_7 rfl hw (fun hw => ?_) (fun hw => ?_)
    · refine lv_iconst (v := 0) hx hb dX10_takeAccess_15 (by decide) ?_
      have hl : lv_has ls 3 [(1, .int a1), (0, .ref h)] := lv_sub hl [2, 1] rfl
      exact jn6 0 κ ls _ _ _ _ hl hw hH
    · refine lv_ldc (v := 1179785) hx hb hF.1.2.2.2.1 (hF.1.2.2.2.2 _ (wc_25 19 rfl)) dX10_takeAccess_10 ?_
      refine lv_goto (tgt := 16) hx hb dX10_takeAccess_12 rfl ?_
      have hl : lv_has ls 3 [(1, .int a1), (0, .ref h)] := lv_sub hl [2, 1] rfl
      exact jn6 1179785 κ ls _ _ _ _ hl hw hH
set_option maxRecDepth 100000 in
def F_X10_empties (G : GE) (h : Nat) (post : Int32 → CS → Prop) (κ : CS) : Prop := (h ∈ sL κ.1 ∧ sK κ.1 h = 13) ∧ ∀ z1 : Int32, z1 = sI κ.1 h 4 → jc (fun (K4 : Int32 → CS → Prop) => jc (fun (K9 : Unit → CS → Prop) => ((z1.toInt = 0) → K9 () κ) ∧ ((¬ z1.toInt = 0) → (h ∈ sL κ.1 ∧ sK κ.1 h = 13) ∧ ∀ z12 : Int32, z12 = sI κ.1 h 4 → ((z12.toInt = (4 : Int32).toInt) → K9 () κ) ∧ ((¬ z12.toInt = (4 : Int32).toInt) → (h ∈ sL κ.1 ∧ sK κ.1 h = 13) ∧ ∀ z13 : Int32, z13 = sI κ.1 h 4 → ((¬ z13.toInt = (5 : Int32).toInt) → K4 0 κ) ∧ ((z13.toInt = (5 : Int32).toInt) → K9 () κ)))) (fun (x7 : Unit) (κ8 : CS) => K4 1 κ8)) (fun (x2 : Int32) (κ3 : CS) => (0 ≤ x2.toInt ∧ x2.toInt ≤ 1) ∧ post x2 κ3)
theorem dX10_empties_0 : decode cX10_empties 0 = .ok (.aload_n 0, 1) := by decide +kernel
theorem dX10_empties_1 : decode cX10_empties 1 = .ok (.getfield 37, 3) := by decide +kernel
theorem dX10_empties_4 : decode cX10_empties 4 = .ok (.ifCond .eq 19, 3) := by decide +kernel
theorem dX10_empties_7 : decode cX10_empties 7 = .ok (.aload_n 0, 1) := by decide +kernel
theorem dX10_empties_8 : decode cX10_empties 8 = .ok (.getfield 37, 3) := by decide +kernel
theorem dX10_empties_11 : decode cX10_empties 11 = .ok (.iconst 4, 1) := by decide +kernel
theorem dX10_empties_12 : decode cX10_empties 12 = .ok (.if_icmp .eq 11, 3) := by decide +kernel
theorem dX10_empties_15 : decode cX10_empties 15 = .ok (.aload_n 0, 1) := by decide +kernel
theorem dX10_empties_16 : decode cX10_empties 16 = .ok (.getfield 37, 3) := by decide +kernel
theorem dX10_empties_19 : decode cX10_empties 19 = .ok (.iconst 5, 1) := by decide +kernel
theorem dX10_empties_20 : decode cX10_empties 20 = .ok (.if_icmp .ne 7, 3) := by decide +kernel
theorem dX10_empties_23 : decode cX10_empties 23 = .ok (.iconst 1, 1) := by decide +kernel
theorem dX10_empties_24 : decode cX10_empties 24 = .ok (.goto 4, 3) := by decide +kernel
theorem dX10_empties_27 : decode cX10_empties 27 = .ok (.iconst 0, 1) := by decide +kernel
theorem dX10_empties_28 : decode cX10_empties 28 = .ok (.ireturn, 1) := by decide +kernel
set_option maxRecDepth 100000 in
set_option maxHeartbeats 4000000 in
theorem c_X10_empties (l : Launch) (D : va_G) (t : Nat → ClassId) (G : GE) (κ : CS) (h : Nat) (post : Int32 → CS → Prop) (hw : F_X10_empties G h post κ) (sz : Nat) : CMi l D t yX10_empties cX10_empties 1 (some .boolean) 0 14 G κ sz [.ref h] post := by
  refine c_go (by decide) (Nat.le_of_ble_eq_true rfl) ?_
  intro p e s m below meth c ls A hF hr hlk hin hAe hH hA hE hl
  unfold cB
  rw [hAe]
  clear hAe
  have hF : FX p m c cX10_empties 1 s _ RX10 D t := hF
  have hx := hF.1.1
  have hb := hF.1.2.1
  have hl : lv_has ls 1 [(0, .ref h)] := hl
  unfold F_X10_empties at hw
  refine lv_aload_n hx hb dX10_empties_0 rfl (lv_at hl 0 rfl) ?_
  refine cw_getIr (a := h) hF hH fk_X10_37 dX10_empties_1 hw (fun z1 hw => ?_)
  obtain ⟨K4, hK5, hw⟩ := jc_open hw
  refine cw_join (K := K4) 28 (fun (x2 : Int32) => []) (fun (x2 : Int32) => [.int x2]) hl hH (fun x2 κ3 ls H locs cells slots hl hw hH => ?_) (fun jn6 => ?_)
  · have hw := hK5 x2 κ3 hw
    have hl : lv_has ls 1 [] := hl
    exact cw_retz hF hH ⟨rfl, rfl⟩ hr hlk dX10_empties_28 hw
  · skip
    obtain ⟨K9, hK10, hw⟩ := jc_open hw
    refine cw_join (K := K9) 23 (fun (x7 : Unit) => []) (fun (x7 : Unit) => []) hl hH (fun x7 κ8 ls H locs cells slots hl hw hH => ?_) (fun jn11 => ?_)
    · have hw := hK10 x7 κ8 hw
      have hl : lv_has ls 1 [] := hl
      refine lv_iconst (v := 1) hx hb dX10_empties_23 (by decide) ?_
      refine lv_goto (tgt := 28) hx hb dX10_empties_24 rfl ?_
      exact jn6 1 κ8 ls _ _ _ _ hl hw hH
    · skip
      refine w_if_eq (tgt := 23) hF dX10_empties_4 rfl hw (fun hw => ?_) (fun hw => ?_)
      · have hl : lv_has ls 1 [] := lv_sub hl [] rfl
        exact jn11 () κ ls _ _ _ _ hl hw hH
      · refine lv_aload_n hx hb dX10_empties_7 rfl (lv_at hl 0 rfl) ?_
        refine cw_getIr (a := h) hF hH fk_X10_37 dX10_empties_8 hw (fun z12 hw => ?_)
        refine lv_iconst (v := 4) hx hb dX10_empties_11 (by decide) ?_
        refine w_icmp_eq (tgt := 23) hF dX10_empties_12 rfl hw (fun hw => ?_) (fun hw => ?_)
        · have hl : lv_has ls 1 [] := lv_sub hl [] rfl
          exact jn11 () κ ls _ _ _ _ hl hw hH
        · refine lv_aload_n hx hb dX10_empties_15 rfl (lv_at hl 0 rfl) ?_
          refine cw_getIr (a := h) hF hH fk_X10_37 dX10_empties_16 hw (fun z13 hw => ?_)
          refine lv_iconst (v := 5) hx hb dX10_empties_19 (by decide) ?_
          refine w_icmp_ne (tgt := 27) hF dX10_empties_20 rfl hw (fun hw => ?_) (fun hw => ?_)
          · refine lv_iconst (v := 0) hx hb dX10_empties_27 (by decide) ?_
            have hl : lv_has ls 1 [] := lv_sub hl [] rfl
            exact jn6 0 κ ls _ _ _ _ hl hw hH
          · have hl : lv_has ls 1 [] := lv_sub hl [] rfl
            exact jn11 () κ ls _ _ _ _ hl hw hH
set_option maxRecDepth 100000 in
def F_X10_newAttributes (G : GE) (h : Nat) (post : Int32 → CS → Prop) (κ : CS) : Prop := (h ∈ sL κ.1 ∧ sK κ.1 h = 13) ∧ ∀ z1 : Int32, z1 = sI κ.1 h 5 → jc (fun (K4 : Int32 → CS → Prop) => ((z1.toInt = 0) → (h ∈ sL κ.1 ∧ sK κ.1 h = 13) ∧ ∀ z7 : Int32, z7 = sI κ.1 h 2 → ∀ z8 : Int32, z8 = z7 &&& 39 → ∀ z9 : Int32, z9 = z8 ||| 32 → K4 z9 κ) ∧ ((¬ z1.toInt = 0) → (h ∈ sL κ.1 ∧ sK κ.1 h = 13) ∧ ∀ z10 : Int32, z10 = sI κ.1 h 2 → ∀ z11 : Int32, z11 = z10 &&& 6 → K4 z11 κ)) (fun (x2 : Int32) (κ3 : CS) => post x2 κ3)
theorem dX10_newAttributes_0 : decode cX10_newAttributes 0 = .ok (.aload_n 0, 1) := by decide +kernel
theorem dX10_newAttributes_1 : decode cX10_newAttributes 1 = .ok (.getfield 15, 3) := by decide +kernel
theorem dX10_newAttributes_4 : decode cX10_newAttributes 4 = .ok (.ifCond .eq 13, 3) := by decide +kernel
theorem dX10_newAttributes_7 : decode cX10_newAttributes 7 = .ok (.aload_n 0, 1) := by decide +kernel
theorem dX10_newAttributes_8 : decode cX10_newAttributes 8 = .ok (.getfield 40, 3) := by decide +kernel
theorem dX10_newAttributes_11 : decode cX10_newAttributes 11 = .ok (.bipush 6, 2) := by decide +kernel
theorem dX10_newAttributes_13 : decode cX10_newAttributes 13 = .ok (.iand, 1) := by decide +kernel
theorem dX10_newAttributes_14 : decode cX10_newAttributes 14 = .ok (.goto 13, 3) := by decide +kernel
theorem dX10_newAttributes_17 : decode cX10_newAttributes 17 = .ok (.aload_n 0, 1) := by decide +kernel
theorem dX10_newAttributes_18 : decode cX10_newAttributes 18 = .ok (.getfield 40, 3) := by decide +kernel
theorem dX10_newAttributes_21 : decode cX10_newAttributes 21 = .ok (.bipush 39, 2) := by decide +kernel
theorem dX10_newAttributes_23 : decode cX10_newAttributes 23 = .ok (.iand, 1) := by decide +kernel
theorem dX10_newAttributes_24 : decode cX10_newAttributes 24 = .ok (.bipush 32, 2) := by decide +kernel
theorem dX10_newAttributes_26 : decode cX10_newAttributes 26 = .ok (.ior, 1) := by decide +kernel
theorem dX10_newAttributes_27 : decode cX10_newAttributes 27 = .ok (.ireturn, 1) := by decide +kernel
set_option maxRecDepth 100000 in
set_option maxHeartbeats 4000000 in
theorem c_X10_newAttributes (l : Launch) (D : va_G) (t : Nat → ClassId) (G : GE) (κ : CS) (h : Nat) (post : Int32 → CS → Prop) (hw : F_X10_newAttributes G h post κ) (sz : Nat) : CMi l D t yX10_newAttributes cX10_newAttributes 1 (some .int) 0 14 G κ sz [.ref h] post := by
  refine c_go (by decide) (Nat.le_of_ble_eq_true rfl) ?_
  intro p e s m below meth c ls A hF hr hlk hin hAe hH hA hE hl
  unfold cB
  rw [hAe]
  clear hAe
  have hF : FX p m c cX10_newAttributes 1 s _ RX10 D t := hF
  have hx := hF.1.1
  have hb := hF.1.2.1
  have hl : lv_has ls 1 [(0, .ref h)] := hl
  unfold F_X10_newAttributes at hw
  refine lv_aload_n hx hb dX10_newAttributes_0 rfl (lv_at hl 0 rfl) ?_
  refine cw_getIr (a := h) hF hH fk_X10_15 dX10_newAttributes_1 hw (fun z1 hw => ?_)
  obtain ⟨K4, hK5, hw⟩ := jc_open hw
  refine cw_join (K := K4) 27 (fun (x2 : Int32) => []) (fun (x2 : Int32) => [.int x2]) hl hH (fun x2 κ3 ls H locs cells slots hl hw hH => ?_) (fun jn6 => ?_)
  · have hw := hK5 x2 κ3 hw
    have hl : lv_has ls 1 [] := hl
    exact cw_reti hF hH ⟨rfl, rfl⟩ hr rfl hlk dX10_newAttributes_27 hw
  · skip
    refine w_if_eq (tgt := 17) hF dX10_newAttributes_4 rfl hw (fun hw => ?_) (fun hw => ?_)
    · refine lv_aload_n hx hb dX10_newAttributes_17 rfl (lv_at hl 0 rfl) ?_
      refine cw_getIr (a := h) hF hH fk_X10_40 dX10_newAttributes_18 hw (fun z7 hw => ?_)
      refine lv_bipush (v := 39) hx hb dX10_newAttributes_21 (by decide) ?_
      refine lv_iand hx hb dX10_newAttributes_23 ?_
      refine w_nmi hw (fun z8 hw => ?_)
      refine lv_bipush (v := 32) hx hb dX10_newAttributes_24 (by decide) ?_
      refine lv_ior hx hb dX10_newAttributes_26 ?_
      refine w_nmi hw (fun z9 hw => ?_)
      have hl : lv_has ls 1 [] := lv_sub hl [] rfl
      exact jn6 z9 κ ls _ _ _ _ hl hw hH
    · refine lv_aload_n hx hb dX10_newAttributes_7 rfl (lv_at hl 0 rfl) ?_
      refine cw_getIr (a := h) hF hH fk_X10_40 dX10_newAttributes_8 hw (fun z10 hw => ?_)
      refine lv_bipush (v := 6) hx hb dX10_newAttributes_11 (by decide) ?_
      refine lv_iand hx hb dX10_newAttributes_13 ?_
      refine w_nmi hw (fun z11 hw => ?_)
      refine lv_goto (tgt := 27) hx hb dX10_newAttributes_14 rfl ?_
      have hl : lv_has ls 1 [] := lv_sub hl [] rfl
      exact jn6 z11 κ ls _ _ _ _ hl hw hH
set_option maxRecDepth 100000 in
def F_J0_isLatin1_aae02 (G : GE)  (post : Int32 → CS → Prop) (κ : CS) : Prop := jc (fun (K3 : Int32 → CS → Prop) => jc (fun (K8 : Unit → CS → Prop) => (((1 : Int32).toInt = 0) → K8 () κ) ∧ ((¬ (1 : Int32).toInt = 0) → ((¬ (0 : Int32).toInt = 0) → K8 () κ) ∧ (((0 : Int32).toInt = 0) → K3 1 κ))) (fun (x6 : Unit) (κ7 : CS) => K3 0 κ7)) (fun (x1 : Int32) (κ2 : CS) => (0 ≤ x1.toInt ∧ x1.toInt ≤ 1) ∧ post x1 κ2)
theorem dJ0_isLatin1_aae02_0 : decode cJ0_isLatin1_aae02 0 = .ok (.getstatic 38, 3) := by decide +kernel
theorem dJ0_isLatin1_aae02_3 : decode cJ0_isLatin1_aae02 3 = .ok (.ifCond .eq 14, 3) := by decide +kernel
theorem dJ0_isLatin1_aae02_6 : decode cJ0_isLatin1_aae02 6 = .ok (.aload_n 0, 1) := by decide +kernel
theorem dJ0_isLatin1_aae02_7 : decode cJ0_isLatin1_aae02 7 = .ok (.getfield 15, 3) := by decide +kernel
theorem dJ0_isLatin1_aae02_10 : decode cJ0_isLatin1_aae02 10 = .ok (.ifCond .ne 7, 3) := by decide +kernel
theorem dJ0_isLatin1_aae02_13 : decode cJ0_isLatin1_aae02 13 = .ok (.iconst 1, 1) := by decide +kernel
theorem dJ0_isLatin1_aae02_14 : decode cJ0_isLatin1_aae02 14 = .ok (.goto 4, 3) := by decide +kernel
theorem dJ0_isLatin1_aae02_17 : decode cJ0_isLatin1_aae02 17 = .ok (.iconst 0, 1) := by decide +kernel
theorem dJ0_isLatin1_aae02_18 : decode cJ0_isLatin1_aae02 18 = .ok (.ireturn, 1) := by decide +kernel
set_option maxRecDepth 100000 in
set_option maxHeartbeats 4000000 in
theorem c_J0_isLatin1_aae02 (l : Launch) (D : va_G) (t : Nat → ClassId) (G : GE) (κ : CS)  (post : Int32 → CS → Prop) (hw : F_J0_isLatin1_aae02 G  post κ) (sz : Nat) : CMi l D t yJ0_isLatin1_aae02 cJ0_isLatin1_aae02 1 (some .boolean) 0 14 G κ sz [.ref G.2.2.2.2.2.1] post := by
  refine c_go (by decide) (Nat.le_of_ble_eq_true rfl) ?_
  intro p e s m below meth c ls A hF hr hlk hin hAe hH hA hE hl
  unfold cB
  rw [hAe]
  clear hAe
  have hF : FX p m c cJ0_isLatin1_aae02 1 s _ RJ0 D t := hF
  have hx := hF.1.1
  have hb := hF.1.2.1
  have hl : lv_has ls 1 [(0, .ref G.2.2.2.2.2.1)] := hl
  unfold F_J0_isLatin1_aae02 at hw
  refine cw_getsC hF hH hE (wc_28 21 rfl) dJ0_isLatin1_aae02_0 ?_
  obtain ⟨K3, hK4, hw⟩ := jc_open hw
  refine cw_join (K := K3) 18 (fun (x1 : Int32) => []) (fun (x1 : Int32) => [.int x1]) hl hH (fun x1 κ2 ls H locs cells slots hl hw hH => ?_) (fun jn5 => ?_)
  · have hw := hK4 x1 κ2 hw
    have hl : lv_has ls 1 [] := hl
    exact cw_retz hF hH ⟨rfl, rfl⟩ hr hlk dJ0_isLatin1_aae02_18 hw
  · skip
    obtain ⟨K8, hK9, hw⟩ := jc_open hw
    refine cw_join (K := K8) 17 (fun (x6 : Unit) => []) (fun (x6 : Unit) => []) hl hH (fun x6 κ7 ls H locs cells slots hl hw hH => ?_) (fun jn10 => ?_)
    · have hw := hK9 x6 κ7 hw
      have hl : lv_has ls 1 [] := hl
      refine lv_iconst (v := 0) hx hb dJ0_isLatin1_aae02_17 (by decide) ?_
      exact jn5 0 κ7 ls _ _ _ _ hl hw hH
    · skip
      refine w_if_eq (tgt := 17) hF dJ0_isLatin1_aae02_3 rfl hw (fun hw => ?_) (fun hw => ?_)
      · have hl : lv_has ls 1 [] := lv_sub hl [] rfl
        exact jn10 () κ ls _ _ _ _ hl hw hH
      · refine lv_aload_n hx hb dJ0_isLatin1_aae02_6 rfl (lv_at hl 0 rfl) ?_
        refine cw_strC hF hH hE (wc_57 25 rfl) dJ0_isLatin1_aae02_7 ?_
        refine w_if_ne (tgt := 17) hF dJ0_isLatin1_aae02_10 rfl hw (fun hw => ?_) (fun hw => ?_)
        · have hl : lv_has ls 1 [] := lv_sub hl [] rfl
          exact jn10 () κ ls _ _ _ _ hl hw hH
        · refine lv_iconst (v := 1) hx hb dJ0_isLatin1_aae02_13 (by decide) ?_
          refine lv_goto (tgt := 18) hx hb dJ0_isLatin1_aae02_14 rfl ?_
          have hl : lv_has ls 1 [] := lv_sub hl [] rfl
          exact jn5 1 κ ls _ _ _ _ hl hw hH
set_option maxRecDepth 100000 in
def F_J0_coder_7d493 (G : GE)  (post : Int32 → CS → Prop) (κ : CS) : Prop := jc (fun (K3 : Int32 → CS → Prop) => (((1 : Int32).toInt = 0) → K3 1 κ) ∧ ((¬ (1 : Int32).toInt = 0) → K3 0 κ)) (fun (x1 : Int32) (κ2 : CS) => (-128 ≤ x1.toInt ∧ x1.toInt ≤ 127) ∧ post x1 κ2)
theorem dJ0_coder_7d493_0 : decode cJ0_coder_7d493 0 = .ok (.getstatic 38, 3) := by decide +kernel
theorem dJ0_coder_7d493_3 : decode cJ0_coder_7d493 3 = .ok (.ifCond .eq 10, 3) := by decide +kernel
theorem dJ0_coder_7d493_6 : decode cJ0_coder_7d493 6 = .ok (.aload_n 0, 1) := by decide +kernel
theorem dJ0_coder_7d493_7 : decode cJ0_coder_7d493 7 = .ok (.getfield 15, 3) := by decide +kernel
theorem dJ0_coder_7d493_10 : decode cJ0_coder_7d493 10 = .ok (.goto 4, 3) := by decide +kernel
theorem dJ0_coder_7d493_13 : decode cJ0_coder_7d493 13 = .ok (.iconst 1, 1) := by decide +kernel
theorem dJ0_coder_7d493_14 : decode cJ0_coder_7d493 14 = .ok (.ireturn, 1) := by decide +kernel
set_option maxRecDepth 100000 in
set_option maxHeartbeats 4000000 in
theorem c_J0_coder_7d493 (l : Launch) (D : va_G) (t : Nat → ClassId) (G : GE) (κ : CS)  (post : Int32 → CS → Prop) (hw : F_J0_coder_7d493 G  post κ) (sz : Nat) : CMi l D t yJ0_coder_7d493 cJ0_coder_7d493 1 (some .byte) 0 14 G κ sz [.ref G.2.2.2.2.2.1] post := by
  refine c_go (by decide) (Nat.le_of_ble_eq_true rfl) ?_
  intro p e s m below meth c ls A hF hr hlk hin hAe hH hA hE hl
  unfold cB
  rw [hAe]
  clear hAe
  have hF : FX p m c cJ0_coder_7d493 1 s _ RJ0 D t := hF
  have hx := hF.1.1
  have hb := hF.1.2.1
  have hl : lv_has ls 1 [(0, .ref G.2.2.2.2.2.1)] := hl
  unfold F_J0_coder_7d493 at hw
  refine cw_getsC hF hH hE (wc_28 21 rfl) dJ0_coder_7d493_0 ?_
  obtain ⟨K3, hK4, hw⟩ := jc_open hw
  refine cw_join (K := K3) 14 (fun (x1 : Int32) => []) (fun (x1 : Int32) => [.int x1]) hl hH (fun x1 κ2 ls H locs cells slots hl hw hH => ?_) (fun jn5 => ?_)
  · have hw := hK4 x1 κ2 hw
    have hl : lv_has ls 1 [] := hl
    exact cw_reti hF hH ⟨rfl, rfl⟩ hr (nar_b hw.1) hlk dJ0_coder_7d493_14 hw.2
  · skip
    refine w_if_eq (tgt := 13) hF dJ0_coder_7d493_3 rfl hw (fun hw => ?_) (fun hw => ?_)
    · refine lv_iconst (v := 1) hx hb dJ0_coder_7d493_13 (by decide) ?_
      have hl : lv_has ls 1 [] := lv_sub hl [] rfl
      exact jn5 1 κ ls _ _ _ _ hl hw hH
    · refine lv_aload_n hx hb dJ0_coder_7d493_6 rfl (lv_at hl 0 rfl) ?_
      refine cw_strC hF hH hE (wc_57 25 rfl) dJ0_coder_7d493_7 ?_
      refine lv_goto (tgt := 14) hx hb dJ0_coder_7d493_10 rfl ?_
      have hl : lv_has ls 1 [] := lv_sub hl [] rfl
      exact jn5 0 κ ls _ _ _ _ hl hw hH
set_option maxRecDepth 100000 in
def F_J0_length_8abf5 (G : GE)  (post : Int32 → CS → Prop) (κ : CS) : Prop := ∃ n : Nat, AL G κ (some G.2.2.2.2.2.2) n ∧ ∀ z1 : Int32, z1 = nI n → F_J0_coder_7d493 G  (fun (z3 : Int32) (κ2 : CS) => ∀ z4 : Int32, z4 = z1 >>> (z3 &&& 31) → post z4 κ2) κ
theorem dJ0_length_8abf5_0 : decode cJ0_length_8abf5 0 = .ok (.aload_n 0, 1) := by decide +kernel
theorem dJ0_length_8abf5_1 : decode cJ0_length_8abf5 1 = .ok (.getfield 9, 3) := by decide +kernel
theorem dJ0_length_8abf5_4 : decode cJ0_length_8abf5 4 = .ok (.arraylength, 1) := by decide +kernel
theorem dJ0_length_8abf5_5 : decode cJ0_length_8abf5 5 = .ok (.aload_n 0, 1) := by decide +kernel
theorem dJ0_length_8abf5_6 : decode cJ0_length_8abf5 6 = .ok (.invokevirtual 335, 3) := by decide +kernel
theorem dJ0_length_8abf5_9 : decode cJ0_length_8abf5 9 = .ok (.ishr, 1) := by decide +kernel
theorem dJ0_length_8abf5_10 : decode cJ0_length_8abf5 10 = .ok (.ireturn, 1) := by decide +kernel
set_option maxRecDepth 100000 in
set_option maxHeartbeats 4000000 in
theorem c_J0_length_8abf5 (l : Launch) (D : va_G) (t : Nat → ClassId) (G : GE) (κ : CS)  (post : Int32 → CS → Prop) (hw : F_J0_length_8abf5 G  post κ) (sz : Nat) : CMi l D t yJ0_length_8abf5 cJ0_length_8abf5 1 (some .int) 6 160 G κ sz [.ref G.2.2.2.2.2.1] post := by
  refine c_go (by decide) (Nat.le_of_ble_eq_true rfl) ?_
  intro p e s m below meth c ls A hF hr hlk hin hAe hH hA hE hl
  unfold cB
  rw [hAe]
  clear hAe
  have hF : FX p m c cJ0_length_8abf5 1 s _ RJ0 D t := hF
  have hx := hF.1.1
  have hb := hF.1.2.1
  have hl : lv_has ls 1 [(0, .ref G.2.2.2.2.2.1)] := hl
  unfold F_J0_length_8abf5 at hw
  refine lv_aload_n hx hb dJ0_length_8abf5_0 rfl (lv_at hl 0 rfl) ?_
  refine cw_strV hF hH hE (wc_57 24 rfl) dJ0_length_8abf5_1 ?_
  refine cw_alen (q := (some G.2.2.2.2.2.2)) hF hH hE dJ0_length_8abf5_4 hw (fun z1 hw => ?_)
  refine lv_aload_n hx hb dJ0_length_8abf5_5 rfl (lv_at hl 0 rfl) ?_
  refine cw_cViS (As := []) (rest := [.int z1]) hF hH hA hE mv_J0_335 (fun sz => c_J0_coder_7d493 l D t G _  _ hw sz) dJ0_length_8abf5_6 ⟨Nat.le_of_ble_eq_true rfl, Nat.le_of_ble_eq_true rfl⟩ rfl hl.1 (Nat.le_of_ble_eq_true rfl) rfl (fun z3 κ2 H locs cells slots hw hH => ?_)
  refine lv_ishr hx hb dJ0_length_8abf5_9 ?_
  refine w_nmi hw (fun z4 hw => ?_)
  exact cw_reti hF hH ⟨rfl, rfl⟩ hr rfl hlk dJ0_length_8abf5_10 hw
set_option maxRecDepth 100000 in
def F_J1_canEncode_9a6ad (G : GE) (a0 : Int32) (post : Int32 → CS → Prop) (κ : CS) : Prop := jc (fun (K3 : Int32 → CS → Prop) => jc (fun (K8 : Unit → CS → Prop) => ((a0.toInt < 0) → K8 () κ) ∧ ((0 ≤ a0.toInt) → (((255 : Int32).toInt < a0.toInt) → K8 () κ) ∧ ((a0.toInt ≤ (255 : Int32).toInt) → K3 1 κ))) (fun (x6 : Unit) (κ7 : CS) => K3 0 κ7)) (fun (x1 : Int32) (κ2 : CS) => (0 ≤ x1.toInt ∧ x1.toInt ≤ 1) ∧ post x1 κ2)
theorem dJ1_canEncode_9a6ad_0 : decode cJ1_canEncode_9a6ad 0 = .ok (.iload_n 0, 1) := by decide +kernel
theorem dJ1_canEncode_9a6ad_1 : decode cJ1_canEncode_9a6ad 1 = .ok (.ifCond .lt 14, 3) := by decide +kernel
theorem dJ1_canEncode_9a6ad_4 : decode cJ1_canEncode_9a6ad 4 = .ok (.iload_n 0, 1) := by decide +kernel
theorem dJ1_canEncode_9a6ad_5 : decode cJ1_canEncode_9a6ad 5 = .ok (.sipush 255, 3) := by decide +kernel
theorem dJ1_canEncode_9a6ad_8 : decode cJ1_canEncode_9a6ad 8 = .ok (.if_icmp .gt 7, 3) := by decide +kernel
theorem dJ1_canEncode_9a6ad_11 : decode cJ1_canEncode_9a6ad 11 = .ok (.iconst 1, 1) := by decide +kernel
theorem dJ1_canEncode_9a6ad_12 : decode cJ1_canEncode_9a6ad 12 = .ok (.goto 4, 3) := by decide +kernel
theorem dJ1_canEncode_9a6ad_15 : decode cJ1_canEncode_9a6ad 15 = .ok (.iconst 0, 1) := by decide +kernel
theorem dJ1_canEncode_9a6ad_16 : decode cJ1_canEncode_9a6ad 16 = .ok (.ireturn, 1) := by decide +kernel
set_option maxRecDepth 100000 in
set_option maxHeartbeats 4000000 in
theorem c_J1_canEncode_9a6ad (l : Launch) (D : va_G) (t : Nat → ClassId) (G : GE) (κ : CS) (a0 : Int32) (post : Int32 → CS → Prop) (hw : F_J1_canEncode_9a6ad G a0 post κ) (sz : Nat) : CMi l D t yJ1_canEncode_9a6ad cJ1_canEncode_9a6ad 1 (some .boolean) 0 14 G κ sz [.int a0] post := by
  refine c_go (by decide) (Nat.le_of_ble_eq_true rfl) ?_
  intro p e s m below meth c ls A hF hr hlk hin hAe hH hA hE hl
  unfold cB
  rw [hAe]
  clear hAe
  have hF : FX p m c cJ1_canEncode_9a6ad 1 s _ RJ1 D t := hF
  have hx := hF.1.1
  have hb := hF.1.2.1
  have hl : lv_has ls 1 [(0, .int a0)] := hl
  unfold F_J1_canEncode_9a6ad at hw
  refine lv_iload_n hx hb dJ1_canEncode_9a6ad_0 rfl (lv_at hl 0 rfl) ?_
  obtain ⟨K3, hK4, hw⟩ := jc_open hw
  refine cw_join (K := K3) 16 (fun (x1 : Int32) => []) (fun (x1 : Int32) => [.int x1]) hl hH (fun x1 κ2 ls H locs cells slots hl hw hH => ?_) (fun jn5 => ?_)
  · have hw := hK4 x1 κ2 hw
    have hl : lv_has ls 1 [] := hl
    exact cw_retz hF hH ⟨rfl, rfl⟩ hr hlk dJ1_canEncode_9a6ad_16 hw
  · skip
    obtain ⟨K8, hK9, hw⟩ := jc_open hw
    refine cw_join (K := K8) 15 (fun (x6 : Unit) => []) (fun (x6 : Unit) => []) hl hH (fun x6 κ7 ls H locs cells slots hl hw hH => ?_) (fun jn10 => ?_)
    · have hw := hK9 x6 κ7 hw
      have hl : lv_has ls 1 [] := hl
      refine lv_iconst (v := 0) hx hb dJ1_canEncode_9a6ad_15 (by decide) ?_
      exact jn5 0 κ7 ls _ _ _ _ hl hw hH
    · skip
      refine w_if_lt (tgt := 15) hF dJ1_canEncode_9a6ad_1 rfl hw (fun hw => ?_) (fun hw => ?_)
      · have hl : lv_has ls 1 [] := lv_sub hl [] rfl
        exact jn10 () κ ls _ _ _ _ hl hw hH
      · refine lv_iload_n hx hb dJ1_canEncode_9a6ad_4 rfl (lv_at hl 0 rfl) ?_
        refine lv_sipush (v := 255) hx hb dJ1_canEncode_9a6ad_5 (by decide) ?_
        refine w_icmp_gt (tgt := 15) hF dJ1_canEncode_9a6ad_8 rfl hw (fun hw => ?_) (fun hw => ?_)
        · have hl : lv_has ls 1 [] := lv_sub hl [] rfl
          exact jn10 () κ ls _ _ _ _ hl hw hH
        · refine lv_iconst (v := 1) hx hb dJ1_canEncode_9a6ad_11 (by decide) ?_
          refine lv_goto (tgt := 16) hx hb dJ1_canEncode_9a6ad_12 rfl ?_
          have hl : lv_has ls 1 [] := lv_sub hl [] rfl
          exact jn5 1 κ ls _ _ _ _ hl hw hH
set_option maxRecDepth 100000 in
def F_J1_indexOfChar_4cfef (G : GE) (a0 : Option Nat) (a1 : Int32) (a2 : Int32) (a3 : Int32) (post : Int32 → CS → Prop) (κ : CS) : Prop := ∀ z1 : Int32, z1 = (a1 : Int32).toInt8.toInt32 → lc (fun (K4 : Int32 → CS → Prop) (x2 : Int32) (κ3 : CS) => ((a3.toInt ≤ x2.toInt) → post (-1) κ3) ∧ ((x2.toInt < a3.toInt) → ∃ (f : Nat → Int32) (n : Nat), BA G κ3 a0 f n ∧ (0 ≤ x2.toInt ∧ x2.toInt < (n : Int)) ∧ ∀ z6 : Int32, z6 = f x2.toInt.toNat → ((¬ z6.toInt = z1.toInt) → ∀ z7 : Int32, z7 = x2 + 1 → K4 z7 κ3) ∧ ((z6.toInt = z1.toInt) → post x2 κ3))) a2 κ
theorem dJ1_indexOfChar_4cfef_0 : decode cJ1_indexOfChar_4cfef 0 = .ok (.iload_n 1, 1) := by decide +kernel
theorem dJ1_indexOfChar_4cfef_1 : decode cJ1_indexOfChar_4cfef 1 = .ok (.i2b, 1) := by decide +kernel
theorem dJ1_indexOfChar_4cfef_2 : decode cJ1_indexOfChar_4cfef 2 = .ok (.istore 4, 2) := by decide +kernel
theorem dJ1_indexOfChar_4cfef_4 : decode cJ1_indexOfChar_4cfef 4 = .ok (.iload_n 2, 1) := by decide +kernel
theorem dJ1_indexOfChar_4cfef_5 : decode cJ1_indexOfChar_4cfef 5 = .ok (.istore 5, 2) := by decide +kernel
theorem dJ1_indexOfChar_4cfef_7 : decode cJ1_indexOfChar_4cfef 7 = .ok (.iload 5, 2) := by decide +kernel
theorem dJ1_indexOfChar_4cfef_9 : decode cJ1_indexOfChar_4cfef 9 = .ok (.iload_n 3, 1) := by decide +kernel
theorem dJ1_indexOfChar_4cfef_10 : decode cJ1_indexOfChar_4cfef 10 = .ok (.if_icmp .ge 21, 3) := by decide +kernel
theorem dJ1_indexOfChar_4cfef_13 : decode cJ1_indexOfChar_4cfef 13 = .ok (.aload_n 0, 1) := by decide +kernel
theorem dJ1_indexOfChar_4cfef_14 : decode cJ1_indexOfChar_4cfef 14 = .ok (.iload 5, 2) := by decide +kernel
theorem dJ1_indexOfChar_4cfef_16 : decode cJ1_indexOfChar_4cfef 16 = .ok (.baload, 1) := by decide +kernel
theorem dJ1_indexOfChar_4cfef_17 : decode cJ1_indexOfChar_4cfef 17 = .ok (.iload 4, 2) := by decide +kernel
theorem dJ1_indexOfChar_4cfef_19 : decode cJ1_indexOfChar_4cfef 19 = .ok (.if_icmp .ne 6, 3) := by decide +kernel
theorem dJ1_indexOfChar_4cfef_22 : decode cJ1_indexOfChar_4cfef 22 = .ok (.iload 5, 2) := by decide +kernel
theorem dJ1_indexOfChar_4cfef_24 : decode cJ1_indexOfChar_4cfef 24 = .ok (.ireturn, 1) := by decide +kernel
theorem dJ1_indexOfChar_4cfef_25 : decode cJ1_indexOfChar_4cfef 25 = .ok (.iinc 5 1, 3) := by decide +kernel
theorem dJ1_indexOfChar_4cfef_28 : decode cJ1_indexOfChar_4cfef 28 = .ok (.goto (-21), 3) := by decide +kernel
theorem dJ1_indexOfChar_4cfef_31 : decode cJ1_indexOfChar_4cfef 31 = .ok (.iconst (-1), 1) := by decide +kernel
theorem dJ1_indexOfChar_4cfef_32 : decode cJ1_indexOfChar_4cfef 32 = .ok (.ireturn, 1) := by decide +kernel
set_option maxRecDepth 100000 in
set_option maxHeartbeats 4000000 in
theorem c_J1_indexOfChar_4cfef (l : Launch) (D : va_G) (t : Nat → ClassId) (G : GE) (κ : CS) (a0 : Option Nat) (a1 : Int32) (a2 : Int32) (a3 : Int32) (post : Int32 → CS → Prop) (hw : F_J1_indexOfChar_4cfef G a0 a1 a2 a3 post κ) (sz : Nat) : CMi l D t yJ1_indexOfChar_4cfef cJ1_indexOfChar_4cfef 6 (some .int) 0 14 G κ sz [va_rf a0, .int a1, .int a2, .int a3] post := by
  refine c_go (by decide) (by cases a0 <;> exact Nat.le_of_ble_eq_true rfl) ?_
  intro p e s m below meth c ls A hF hr hlk hin hAe hH hA hE hl
  unfold cB
  rw [hAe]
  clear hAe
  have hF : FX p m c cJ1_indexOfChar_4cfef 6 s _ RJ1 D t := hF
  have hx := hF.1.1
  have hb := hF.1.2.1
  have hl : lv_has ls 6 [(0, va_rf a0), (1, .int a1), (2, .int a2), (3, .int a3)] := (by have h2 := hl; clear hw; revert h2; cases a0 <;> exact id)
  unfold F_J1_indexOfChar_4cfef at hw
  refine lv_iload_n hx hb dJ1_indexOfChar_4cfef_0 rfl (lv_at hl 1 rfl) ?_
  refine lv_i2b hx hb dJ1_indexOfChar_4cfef_1 rfl ?_
  refine w_nmi hw (fun z1 hw => ?_)
  refine lv_istore (lv' := [(4, .int z1), (0, va_rf a0), (1, .int a1), (2, .int a2), (3, .int a3)]) hx hb dJ1_indexOfChar_4cfef_2 hl (by decide) rfl (fun ls hl => ?_)
  refine lv_iload_n hx hb dJ1_indexOfChar_4cfef_4 rfl (lv_at hl 3 rfl) ?_
  refine lv_istore (lv' := [(5, .int a2), (4, .int z1), (0, va_rf a0), (1, .int a1), (2, .int a2), (3, .int a3)]) hx hb dJ1_indexOfChar_4cfef_5 hl (by decide) rfl (fun ls hl => ?_)
  have hl : lv_has ls 6 [(5, .int a2), (4, .int z1), (3, .int a3), (0, va_rf a0)] := lv_sub hl [0, 1, 5, 2] rfl
  refine cw_loop (β := Int32) (fun x2 => [(5, .int x2), (4, .int z1), (3, .int a3), (0, va_rf a0)]) a2 hl hw hH (fun K4 x2 κ3 ls H locs cells slots hl hw hH ih5 => ?_)
  have hl : lv_has ls 6 [(5, .int x2), (4, .int z1), (3, .int a3), (0, va_rf a0)] := hl
  refine lv_iload hx hb dJ1_indexOfChar_4cfef_7 (lv_at hl 0 rfl) ?_
  refine lv_iload_n hx hb dJ1_indexOfChar_4cfef_9 rfl (lv_at hl 2 rfl) ?_
  refine w_icmp_ge (tgt := 31) hF dJ1_indexOfChar_4cfef_10 rfl hw (fun hw => ?_) (fun hw => ?_)
  · refine lv_iconst (v := (-1)) hx hb dJ1_indexOfChar_4cfef_31 (by decide) ?_
    exact cw_reti hF hH ⟨rfl, rfl⟩ hr rfl hlk dJ1_indexOfChar_4cfef_32 hw
  · refine w_aloadq_n hF dJ1_indexOfChar_4cfef_13 rfl (lv_at hl 3 rfl) ?_
    refine lv_iload hx hb dJ1_indexOfChar_4cfef_14 (lv_at hl 0 rfl) ?_
    refine cw_bald (q := a0) hF hH hE dJ1_indexOfChar_4cfef_16 hw (fun z6 hw => ?_)
    refine lv_iload hx hb dJ1_indexOfChar_4cfef_17 (lv_at hl 1 rfl) ?_
    refine w_icmp_ne (tgt := 25) hF dJ1_indexOfChar_4cfef_19 rfl hw (fun hw => ?_) (fun hw => ?_)
    · obtain ⟨z7, ez7⟩ : ∃ z : Int32, z = x2 + 1 := ⟨_, rfl⟩
      have hw := hw z7 ez7
      refine lv_iinc (lv' := [(5, .int z7), (4, .int z1), (3, .int a3), (0, va_rf a0)]) (k := 0) (v := z7) hx hb dJ1_indexOfChar_4cfef_25 hl rfl ez7.symm (by decide) rfl (fun ls hl => ?_)
      refine lv_goto (tgt := 7) hx hb dJ1_indexOfChar_4cfef_28 rfl ?_
      exact ih5 z7 κ3 ls _ _ _ _ hl hw hH
    · refine lv_iload hx hb dJ1_indexOfChar_4cfef_22 (lv_at hl 0 rfl) ?_
      exact cw_reti hF hH ⟨rfl, rfl⟩ hr rfl hlk dJ1_indexOfChar_4cfef_24 hw
set_option maxRecDepth 100000 in
def F_J1_indexOf_4cfef (G : GE) (a0 : Option Nat) (a1 : Int32) (a2 : Int32) (a3 : Int32) (post : Int32 → CS → Prop) (κ : CS) : Prop := F_J1_canEncode_9a6ad G a1 (fun (z2 : Int32) (κ1 : CS) => ((¬ z2.toInt = 0) → ∀ z4 : Int32, z4.toInt = max a2.toInt ((0 : Int32).toInt) → ∃ n : Nat, AL G κ1 a0 n ∧ ∀ z5 : Int32, z5 = nI n → ∀ z7 : Int32, z7.toInt = min a3.toInt z5.toInt → ((z4.toInt < z7.toInt) → F_J1_indexOfChar_4cfef G a0 a1 z4 z7 (fun (z9 : Int32) (κ8 : CS) => post z9 κ8) κ1) ∧ ((z7.toInt ≤ z4.toInt) → post (-1) κ1)) ∧ ((z2.toInt = 0) → post (-1) κ1)) κ
theorem dJ1_indexOf_4cfef_0 : decode cJ1_indexOf_4cfef 0 = .ok (.iload_n 1, 1) := by decide +kernel
theorem dJ1_indexOf_4cfef_1 : decode cJ1_indexOf_4cfef 1 = .ok (.invokestatic 88, 3) := by decide +kernel
theorem dJ1_indexOf_4cfef_4 : decode cJ1_indexOf_4cfef 4 = .ok (.ifCond .ne 5, 3) := by decide +kernel
theorem dJ1_indexOf_4cfef_7 : decode cJ1_indexOf_4cfef 7 = .ok (.iconst (-1), 1) := by decide +kernel
theorem dJ1_indexOf_4cfef_8 : decode cJ1_indexOf_4cfef 8 = .ok (.ireturn, 1) := by decide +kernel
theorem dJ1_indexOf_4cfef_9 : decode cJ1_indexOf_4cfef 9 = .ok (.iload_n 2, 1) := by decide +kernel
theorem dJ1_indexOf_4cfef_10 : decode cJ1_indexOf_4cfef 10 = .ok (.iconst 0, 1) := by decide +kernel
theorem dJ1_indexOf_4cfef_11 : decode cJ1_indexOf_4cfef 11 = .ok (.invokestatic 92, 3) := by decide +kernel
theorem dJ1_indexOf_4cfef_14 : decode cJ1_indexOf_4cfef 14 = .ok (.istore_n 2, 1) := by decide +kernel
theorem dJ1_indexOf_4cfef_15 : decode cJ1_indexOf_4cfef 15 = .ok (.iload_n 3, 1) := by decide +kernel
theorem dJ1_indexOf_4cfef_16 : decode cJ1_indexOf_4cfef 16 = .ok (.aload_n 0, 1) := by decide +kernel
theorem dJ1_indexOf_4cfef_17 : decode cJ1_indexOf_4cfef 17 = .ok (.arraylength, 1) := by decide +kernel
theorem dJ1_indexOf_4cfef_18 : decode cJ1_indexOf_4cfef 18 = .ok (.invokestatic 38, 3) := by decide +kernel
theorem dJ1_indexOf_4cfef_21 : decode cJ1_indexOf_4cfef 21 = .ok (.istore_n 3, 1) := by decide +kernel
theorem dJ1_indexOf_4cfef_22 : decode cJ1_indexOf_4cfef 22 = .ok (.iload_n 2, 1) := by decide +kernel
theorem dJ1_indexOf_4cfef_23 : decode cJ1_indexOf_4cfef 23 = .ok (.iload_n 3, 1) := by decide +kernel
theorem dJ1_indexOf_4cfef_24 : decode cJ1_indexOf_4cfef 24 = .ok (.if_icmp .lt 5, 3) := by decide +kernel
theorem dJ1_indexOf_4cfef_27 : decode cJ1_indexOf_4cfef 27 = .ok (.iconst (-1), 1) := by decide +kernel
theorem dJ1_indexOf_4cfef_28 : decode cJ1_indexOf_4cfef 28 = .ok (.ireturn, 1) := by decide +kernel
theorem dJ1_indexOf_4cfef_29 : decode cJ1_indexOf_4cfef 29 = .ok (.aload_n 0, 1) := by decide +kernel
theorem dJ1_indexOf_4cfef_30 : decode cJ1_indexOf_4cfef 30 = .ok (.iload_n 1, 1) := by decide +kernel
theorem dJ1_indexOf_4cfef_31 : decode cJ1_indexOf_4cfef 31 = .ok (.iload_n 2, 1) := by decide +kernel
theorem dJ1_indexOf_4cfef_32 : decode cJ1_indexOf_4cfef 32 = .ok (.iload_n 3, 1) := by decide +kernel
theorem dJ1_indexOf_4cfef_33 : decode cJ1_indexOf_4cfef 33 = .ok (.invokestatic 95, 3) := by decide +kernel
theorem dJ1_indexOf_4cfef_36 : decode cJ1_indexOf_4cfef 36 = .ok (.ireturn, 1) := by decide +kernel
set_option maxRecDepth 100000 in
set_option maxHeartbeats 4000000 in
theorem c_J1_indexOf_4cfef (l : Launch) (D : va_G) (t : Nat → ClassId) (G : GE) (κ : CS) (a0 : Option Nat) (a1 : Int32) (a2 : Int32) (a3 : Int32) (post : Int32 → CS → Prop) (hw : F_J1_indexOf_4cfef G a0 a1 a2 a3 post κ) (sz : Nat) : CMi l D t yJ1_indexOf_4cfef cJ1_indexOf_4cfef 4 (some .int) 1 40 G κ sz [va_rf a0, .int a1, .int a2, .int a3] post := by
  refine c_go (by decide) (by cases a0 <;> exact Nat.le_of_ble_eq_true rfl) ?_
  intro p e s m below meth c ls A hF hr hlk hin hAe hH hA hE hl
  unfold cB
  rw [hAe]
  clear hAe
  have hF : FX p m c cJ1_indexOf_4cfef 4 s _ RJ1 D t := hF
  have hx := hF.1.1
  have hb := hF.1.2.1
  have hl : lv_has ls 4 [(0, va_rf a0), (1, .int a1), (2, .int a2), (3, .int a3)] := (by have h2 := hl; clear hw; revert h2; cases a0 <;> exact id)
  unfold F_J1_indexOf_4cfef at hw
  refine lv_iload_n hx hb dJ1_indexOf_4cfef_0 rfl (lv_at hl 1 rfl) ?_
  refine cw_cSi (As := [.int a1]) (rest := []) hF hH hA hE ms_J1_88 (fun sz => c_J1_canEncode_9a6ad l D t G _ a1 _ hw sz) dJ1_indexOf_4cfef_1 ⟨Nat.le_of_ble_eq_true rfl, Nat.le_of_ble_eq_true rfl⟩ rfl hl.1 (Nat.le_of_ble_eq_true rfl) rfl (fun z2 κ1 H locs cells slots hw hH => ?_)
  refine w_if_ne (tgt := 9) hF dJ1_indexOf_4cfef_4 rfl hw (fun hw => ?_) (fun hw => ?_)
  · refine lv_iload_n hx hb dJ1_indexOf_4cfef_9 rfl (lv_at hl 2 rfl) ?_
    refine lv_iconst (v := 0) hx hb dJ1_indexOf_4cfef_10 (by decide) ?_
    refine cw_mmax hF hH hl.1 (wc_28 29 rfl) (wc_10 1 rfl) (wc_5 5 rfl) (wc_10 0 rfl) (Nat.le_of_ble_eq_true rfl) (Nat.le_of_ble_eq_true rfl) dJ1_indexOf_4cfef_11 hw (fun z4 hw => ?_)
    refine lv_istore_n (lv' := [(2, .int z4), (0, va_rf a0), (1, .int a1), (3, .int a3)]) hx hb dJ1_indexOf_4cfef_14 rfl hl (by decide) rfl (fun ls hl => ?_)
    refine lv_iload_n hx hb dJ1_indexOf_4cfef_15 rfl (lv_at hl 3 rfl) ?_
    refine w_aloadq_n hF dJ1_indexOf_4cfef_16 rfl (lv_at hl 1 rfl) ?_
    refine cw_alen (q := a0) hF hH hE dJ1_indexOf_4cfef_17 hw (fun z5 hw => ?_)
    refine cw_mmin hF hH hl.1 (wc_28 30 rfl) (wc_10 25 rfl) (wc_5 5 rfl) (wc_10 24 rfl) (Nat.le_of_ble_eq_true rfl) (Nat.le_of_ble_eq_true rfl) dJ1_indexOf_4cfef_18 hw (fun z7 hw => ?_)
    refine lv_istore_n (lv' := [(3, .int z7), (2, .int z4), (0, va_rf a0), (1, .int a1)]) hx hb dJ1_indexOf_4cfef_21 rfl hl (by decide) rfl (fun ls hl => ?_)
    refine lv_iload_n hx hb dJ1_indexOf_4cfef_22 rfl (lv_at hl 1 rfl) ?_
    refine lv_iload_n hx hb dJ1_indexOf_4cfef_23 rfl (lv_at hl 0 rfl) ?_
    refine w_icmp_lt (tgt := 29) hF dJ1_indexOf_4cfef_24 rfl hw (fun hw => ?_) (fun hw => ?_)
    · refine w_aloadq_n hF dJ1_indexOf_4cfef_29 rfl (lv_at hl 2 rfl) ?_
      refine lv_iload_n hx hb dJ1_indexOf_4cfef_30 rfl (lv_at hl 3 rfl) ?_
      refine lv_iload_n hx hb dJ1_indexOf_4cfef_31 rfl (lv_at hl 1 rfl) ?_
      refine lv_iload_n hx hb dJ1_indexOf_4cfef_32 rfl (lv_at hl 0 rfl) ?_
      refine cw_cSi (As := [va_rf a0, .int a1, .int z4, .int z7]) (rest := []) hF hH hA hE ms_J1_95 (fun sz => c_J1_indexOfChar_4cfef l D t G _ a0 a1 z4 z7 _ hw sz) dJ1_indexOf_4cfef_33 ⟨Nat.le_of_ble_eq_true rfl, Nat.le_of_ble_eq_true rfl⟩ rfl hl.1 (Nat.le_of_ble_eq_true rfl) rfl (fun z9 κ8 H locs cells slots hw hH => ?_)
      exact cw_reti hF hH ⟨rfl, rfl⟩ hr rfl hlk dJ1_indexOf_4cfef_36 hw
    · refine lv_iconst (v := (-1)) hx hb dJ1_indexOf_4cfef_27 (by decide) ?_
      exact cw_reti hF hH ⟨rfl, rfl⟩ hr rfl hlk dJ1_indexOf_4cfef_28 hw
  · refine lv_iconst (v := (-1)) hx hb dJ1_indexOf_4cfef_7 (by decide) ?_
    exact cw_reti hF hH ⟨rfl, rfl⟩ hr rfl hlk dJ1_indexOf_4cfef_8 hw
set_option maxRecDepth 100000 in
def F_J0_indexOf_7cf53 (G : GE) (a1 : Int32) (a2 : Int32) (post : Int32 → CS → Prop) (κ : CS) : Prop := F_J0_isLatin1_aae02 G  (fun (z2 : Int32) (κ1 : CS) => jc (fun (K5 : Int32 → CS → Prop) => ((z2.toInt = 0) → F_J0_length_8abf5 G  (fun (z9 : Int32) (κ8 : CS) => False) κ1) ∧ ((¬ z2.toInt = 0) → F_J0_length_8abf5 G  (fun (z12 : Int32) (κ11 : CS) => F_J1_indexOf_4cfef G (some G.2.2.2.2.2.2) a1 a2 z12 (fun (z14 : Int32) (κ13 : CS) => K5 z14 κ13) κ11) κ1)) (fun (x3 : Int32) (κ4 : CS) => post x3 κ4)) κ
theorem dJ0_indexOf_7cf53_0 : decode cJ0_indexOf_7cf53 0 = .ok (.aload_n 0, 1) := by decide +kernel
theorem dJ0_indexOf_7cf53_1 : decode cJ0_indexOf_7cf53 1 = .ok (.invokevirtual 492, 3) := by decide +kernel
theorem dJ0_indexOf_7cf53_4 : decode cJ0_indexOf_7cf53 4 = .ok (.ifCond .eq 19, 3) := by decide +kernel
theorem dJ0_indexOf_7cf53_7 : decode cJ0_indexOf_7cf53 7 = .ok (.aload_n 0, 1) := by decide +kernel
theorem dJ0_indexOf_7cf53_8 : decode cJ0_indexOf_7cf53 8 = .ok (.getfield 9, 3) := by decide +kernel
theorem dJ0_indexOf_7cf53_11 : decode cJ0_indexOf_7cf53 11 = .ok (.iload_n 1, 1) := by decide +kernel
theorem dJ0_indexOf_7cf53_12 : decode cJ0_indexOf_7cf53 12 = .ok (.iload_n 2, 1) := by decide +kernel
theorem dJ0_indexOf_7cf53_13 : decode cJ0_indexOf_7cf53 13 = .ok (.aload_n 0, 1) := by decide +kernel
theorem dJ0_indexOf_7cf53_14 : decode cJ0_indexOf_7cf53 14 = .ok (.invokevirtual 505, 3) := by decide +kernel
theorem dJ0_indexOf_7cf53_17 : decode cJ0_indexOf_7cf53 17 = .ok (.invokestatic 637, 3) := by decide +kernel
theorem dJ0_indexOf_7cf53_20 : decode cJ0_indexOf_7cf53 20 = .ok (.goto 16, 3) := by decide +kernel
theorem dJ0_indexOf_7cf53_23 : decode cJ0_indexOf_7cf53 23 = .ok (.aload_n 0, 1) := by decide +kernel
theorem dJ0_indexOf_7cf53_24 : decode cJ0_indexOf_7cf53 24 = .ok (.getfield 9, 3) := by decide +kernel
theorem dJ0_indexOf_7cf53_27 : decode cJ0_indexOf_7cf53 27 = .ok (.iload_n 1, 1) := by decide +kernel
theorem dJ0_indexOf_7cf53_28 : decode cJ0_indexOf_7cf53 28 = .ok (.iload_n 2, 1) := by decide +kernel
theorem dJ0_indexOf_7cf53_29 : decode cJ0_indexOf_7cf53 29 = .ok (.aload_n 0, 1) := by decide +kernel
theorem dJ0_indexOf_7cf53_30 : decode cJ0_indexOf_7cf53 30 = .ok (.invokevirtual 505, 3) := by decide +kernel
theorem dJ0_indexOf_7cf53_33 : decode cJ0_indexOf_7cf53 33 = .ok (.invokestatic 640, 3) := by decide +kernel
theorem dJ0_indexOf_7cf53_36 : decode cJ0_indexOf_7cf53 36 = .ok (.ireturn, 1) := by decide +kernel
set_option maxRecDepth 100000 in
set_option maxHeartbeats 4000000 in
theorem c_J0_indexOf_7cf53 (l : Launch) (D : va_G) (t : Nat → ClassId) (G : GE) (κ : CS) (a1 : Int32) (a2 : Int32) (post : Int32 → CS → Prop) (hw : F_J0_indexOf_7cf53 G a1 a2 post κ) (sz : Nat) : CMi l D t yJ0_indexOf_7cf53 cJ0_indexOf_7cf53 3 (some .int) 7 180 G κ sz [.ref G.2.2.2.2.2.1, .int a1, .int a2] post := by
  refine c_go (by decide) (Nat.le_of_ble_eq_true rfl) ?_
  intro p e s m below meth c ls A hF hr hlk hin hAe hH hA hE hl
  unfold cB
  rw [hAe]
  clear hAe
  have hF : FX p m c cJ0_indexOf_7cf53 3 s _ RJ0 D t := hF
  have hx := hF.1.1
  have hb := hF.1.2.1
  have hl : lv_has ls 3 [(0, .ref G.2.2.2.2.2.1), (1, .int a1), (2, .int a2)] := hl
  unfold F_J0_indexOf_7cf53 at hw
  refine lv_aload_n hx hb dJ0_indexOf_7cf53_0 rfl (lv_at hl 0 rfl) ?_
  refine cw_cViS (As := []) (rest := []) hF hH hA hE mv_J0_492 (fun sz => c_J0_isLatin1_aae02 l D t G _  _ hw sz) dJ0_indexOf_7cf53_1 ⟨Nat.le_of_ble_eq_true rfl, Nat.le_of_ble_eq_true rfl⟩ rfl hl.1 (Nat.le_of_ble_eq_true rfl) rfl (fun z2 κ1 H locs cells slots hw hH => ?_)
  obtain ⟨K5, hK6, hw⟩ := jc_open hw
  refine cw_join (K := K5) 36 (fun (x3 : Int32) => []) (fun (x3 : Int32) => [.int x3]) hl hH (fun x3 κ4 ls H locs cells slots hl hw hH => ?_) (fun jn7 => ?_)
  · have hw := hK6 x3 κ4 hw
    have hl : lv_has ls 3 [] := hl
    exact cw_reti hF hH ⟨rfl, rfl⟩ hr rfl hlk dJ0_indexOf_7cf53_36 hw
  · skip
    refine w_if_eq (tgt := 23) hF dJ0_indexOf_7cf53_4 rfl hw (fun hw => ?_) (fun hw => ?_)
    · refine lv_aload_n hx hb dJ0_indexOf_7cf53_23 rfl (lv_at hl 0 rfl) ?_
      refine cw_strV hF hH hE (wc_57 24 rfl) dJ0_indexOf_7cf53_24 ?_
      refine lv_iload_n hx hb dJ0_indexOf_7cf53_27 rfl (lv_at hl 1 rfl) ?_
      refine lv_iload_n hx hb dJ0_indexOf_7cf53_28 rfl (lv_at hl 2 rfl) ?_
      refine lv_aload_n hx hb dJ0_indexOf_7cf53_29 rfl (lv_at hl 0 rfl) ?_
      refine cw_cViS (As := []) (rest := [.int a2, .int a1, .ref G.2.2.2.2.2.2]) hF hH hA hE mv_J0_505 (fun sz => c_J0_length_8abf5 l D t G _  _ hw sz) dJ0_indexOf_7cf53_30 ⟨Nat.le_of_ble_eq_true rfl, Nat.le_of_ble_eq_true rfl⟩ rfl hl.1 (Nat.le_of_ble_eq_true rfl) rfl (fun z9 κ8 H locs cells slots hw hH => ?_)
      exact hw.elim
    · refine lv_aload_n hx hb dJ0_indexOf_7cf53_7 rfl (lv_at hl 0 rfl) ?_
      refine cw_strV hF hH hE (wc_57 24 rfl) dJ0_indexOf_7cf53_8 ?_
      refine lv_iload_n hx hb dJ0_indexOf_7cf53_11 rfl (lv_at hl 1 rfl) ?_
      refine lv_iload_n hx hb dJ0_indexOf_7cf53_12 rfl (lv_at hl 2 rfl) ?_
      refine lv_aload_n hx hb dJ0_indexOf_7cf53_13 rfl (lv_at hl 0 rfl) ?_
      refine cw_cViS (As := []) (rest := [.int a2, .int a1, .ref G.2.2.2.2.2.2]) hF hH hA hE mv_J0_505 (fun sz => c_J0_length_8abf5 l D t G _  _ hw sz) dJ0_indexOf_7cf53_14 ⟨Nat.le_of_ble_eq_true rfl, Nat.le_of_ble_eq_true rfl⟩ rfl hl.1 (Nat.le_of_ble_eq_true rfl) rfl (fun z12 κ11 H locs cells slots hw hH => ?_)
      refine cw_cSi (As := [.ref G.2.2.2.2.2.2, .int a1, .int a2, .int z12]) (rest := []) hF hH hA hE ms_J0_637 (fun sz => c_J1_indexOf_4cfef l D t G _ (some G.2.2.2.2.2.2) a1 a2 z12 _ hw sz) dJ0_indexOf_7cf53_17 ⟨Nat.le_of_ble_eq_true rfl, Nat.le_of_ble_eq_true rfl⟩ rfl hl.1 (Nat.le_of_ble_eq_true rfl) rfl (fun z14 κ13 H locs cells slots hw hH => ?_)
      refine lv_goto (tgt := 36) hx hb dJ0_indexOf_7cf53_20 rfl ?_
      have hl : lv_has ls 3 [] := lv_sub hl [] rfl
      exact jn7 z14 κ13 ls _ _ _ _ hl hw hH
set_option maxRecDepth 100000 in
def F_J0_indexOf_0f7a4 (G : GE) (a1 : Int32) (post : Int32 → CS → Prop) (κ : CS) : Prop := F_J0_indexOf_7cf53 G a1 0 (fun (z2 : Int32) (κ1 : CS) => post z2 κ1) κ
theorem dJ0_indexOf_0f7a4_0 : decode cJ0_indexOf_0f7a4 0 = .ok (.aload_n 0, 1) := by decide +kernel
theorem dJ0_indexOf_0f7a4_1 : decode cJ0_indexOf_0f7a4 1 = .ok (.iload_n 1, 1) := by decide +kernel
theorem dJ0_indexOf_0f7a4_2 : decode cJ0_indexOf_0f7a4 2 = .ok (.iconst 0, 1) := by decide +kernel
theorem dJ0_indexOf_0f7a4_3 : decode cJ0_indexOf_0f7a4 3 = .ok (.invokevirtual 633, 3) := by decide +kernel
theorem dJ0_indexOf_0f7a4_6 : decode cJ0_indexOf_0f7a4 6 = .ok (.ireturn, 1) := by decide +kernel
set_option maxRecDepth 100000 in
set_option maxHeartbeats 4000000 in
theorem c_J0_indexOf_0f7a4 (l : Launch) (D : va_G) (t : Nat → ClassId) (G : GE) (κ : CS) (a1 : Int32) (post : Int32 → CS → Prop) (hw : F_J0_indexOf_0f7a4 G a1 post κ) (sz : Nat) : CMi l D t yJ0_indexOf_0f7a4 cJ0_indexOf_0f7a4 2 (some .int) 8 202 G κ sz [.ref G.2.2.2.2.2.1, .int a1] post := by
  refine c_go (by decide) (Nat.le_of_ble_eq_true rfl) ?_
  intro p e s m below meth c ls A hF hr hlk hin hAe hH hA hE hl
  unfold cB
  rw [hAe]
  clear hAe
  have hF : FX p m c cJ0_indexOf_0f7a4 2 s _ RJ0 D t := hF
  have hx := hF.1.1
  have hb := hF.1.2.1
  have hl : lv_has ls 2 [(0, .ref G.2.2.2.2.2.1), (1, .int a1)] := hl
  unfold F_J0_indexOf_0f7a4 at hw
  refine lv_aload_n hx hb dJ0_indexOf_0f7a4_0 rfl (lv_at hl 0 rfl) ?_
  refine lv_iload_n hx hb dJ0_indexOf_0f7a4_1 rfl (lv_at hl 1 rfl) ?_
  refine lv_iconst (v := 0) hx hb dJ0_indexOf_0f7a4_2 (by decide) ?_
  refine cw_cViS (As := [.int a1, .int 0]) (rest := []) hF hH hA hE mv_J0_633 (fun sz => c_J0_indexOf_7cf53 l D t G _ a1 0 _ hw sz) dJ0_indexOf_0f7a4_3 ⟨Nat.le_of_ble_eq_true rfl, Nat.le_of_ble_eq_true rfl⟩ rfl hl.1 (Nat.le_of_ble_eq_true rfl) rfl (fun z2 κ1 H locs cells slots hw hH => ?_)
  exact cw_reti hF hH ⟨rfl, rfl⟩ hr rfl hlk dJ0_indexOf_0f7a4_6 hw
set_option maxRecDepth 100000 in
def F_X10_isName (G : GE) (h : Nat) (a1 : Int32) (a2 : Int32) (post : Int32 → CS → Prop) (κ : CS) : Prop := ∀ z1 : Int32, z1 = a2 - a1 → jc (fun (K4 : Unit → CS → Prop) => ((z1.toInt < (1 : Int32).toInt) → K4 () κ) ∧ (((1 : Int32).toInt ≤ z1.toInt) → ((z1.toInt ≤ (12 : Int32).toInt) → jc (fun (K9 : Int32 → CS → Prop) => (((2 : Int32).toInt < z1.toInt) → K9 0 κ) ∧ ((z1.toInt ≤ (2 : Int32).toInt) → K9 1 κ)) (fun (x7 : Int32) (κ8 : CS) => lc (fun (K14 : (Int32 × Int32) → CS → Prop) (x12 : Int32 × Int32) (κ13 : CS) => ((a2.toInt ≤ x12.1.toInt) → jc (fun (K18 : Int32 → CS → Prop) => ((¬ x12.2.toInt = 0) → K18 0 κ13) ∧ ((x12.2.toInt = 0) → K18 1 κ13)) (fun (x16 : Int32) (κ17 : CS) => (0 ≤ x16.toInt ∧ x16.toInt ≤ 1) ∧ post x16 κ17)) ∧ ((x12.1.toInt < a2.toInt) → (h ∈ sL κ13.1 ∧ sK κ13.1 h = 13) ∧ F_X10_unit G h x12.1 (fun (z22 : Int32) (κ21 : CS) => jc (fun (K25 : Unit → CS → Prop) => ((z22.toInt < (32 : Int32).toInt) → K25 () κ21) ∧ (((32 : Int32).toInt ≤ z22.toInt) → (((126 : Int32).toInt < z22.toInt) → K25 () κ21) ∧ ((z22.toInt ≤ (126 : Int32).toInt) → ∀ z28 : Int32, z28 = ((z22 : Int32).toUInt32 % 65536).toInt32 → F_J0_indexOf_0f7a4 G z28 (fun (z30 : Int32) (κ29 : CS) => ((z30.toInt < 0) → jc (fun (K33 : Int32 → CS → Prop) => jc (fun (K39 : Unit → CS → Prop) => ((x12.2.toInt = 0) → K39 () κ29) ∧ ((¬ x12.2.toInt = 0) → ((¬ z22.toInt = (46 : Int32).toInt) → K39 () κ29) ∧ ((z22.toInt = (46 : Int32).toInt) → K33 1 κ29))) (fun (x37 : Unit) (κ38 : CS) => K33 0 κ38)) (fun (x31 : Int32) (κ32 : CS) => ∀ z36 : Int32, z36 = x12.1 + 1 → K14 (z36, x31) κ32)) ∧ ((0 ≤ z30.toInt) → K25 () κ29)) κ21))) (fun (x23 : Unit) (κ24 : CS) => (0 ≤ (0 : Int32).toInt ∧ (0 : Int32).toInt ≤ 1) ∧ post 0 κ24)) κ13)) (a1, x7) κ8)) ∧ (((12 : Int32).toInt < z1.toInt) → K4 () κ))) (fun (x2 : Unit) (κ3 : CS) => (0 ≤ (0 : Int32).toInt ∧ (0 : Int32).toInt ≤ 1) ∧ post 0 κ3)
theorem dX10_isName_0 : decode cX10_isName 0 = .ok (.iload_n 2, 1) := by decide +kernel
theorem dX10_isName_1 : decode cX10_isName 1 = .ok (.iload_n 1, 1) := by decide +kernel
theorem dX10_isName_2 : decode cX10_isName 2 = .ok (.isub, 1) := by decide +kernel
theorem dX10_isName_3 : decode cX10_isName 3 = .ok (.istore_n 3, 1) := by decide +kernel
theorem dX10_isName_4 : decode cX10_isName 4 = .ok (.iload_n 3, 1) := by decide +kernel
theorem dX10_isName_5 : decode cX10_isName 5 = .ok (.iconst 1, 1) := by decide +kernel
theorem dX10_isName_6 : decode cX10_isName 6 = .ok (.if_icmp .lt 9, 3) := by decide +kernel
theorem dX10_isName_9 : decode cX10_isName 9 = .ok (.iload_n 3, 1) := by decide +kernel
theorem dX10_isName_10 : decode cX10_isName 10 = .ok (.bipush 12, 2) := by decide +kernel
theorem dX10_isName_12 : decode cX10_isName 12 = .ok (.if_icmp .le 5, 3) := by decide +kernel
theorem dX10_isName_15 : decode cX10_isName 15 = .ok (.iconst 0, 1) := by decide +kernel
theorem dX10_isName_16 : decode cX10_isName 16 = .ok (.ireturn, 1) := by decide +kernel
theorem dX10_isName_17 : decode cX10_isName 17 = .ok (.iload_n 3, 1) := by decide +kernel
theorem dX10_isName_18 : decode cX10_isName 18 = .ok (.iconst 2, 1) := by decide +kernel
theorem dX10_isName_19 : decode cX10_isName 19 = .ok (.if_icmp .gt 7, 3) := by decide +kernel
theorem dX10_isName_22 : decode cX10_isName 22 = .ok (.iconst 1, 1) := by decide +kernel
theorem dX10_isName_23 : decode cX10_isName 23 = .ok (.goto 4, 3) := by decide +kernel
theorem dX10_isName_26 : decode cX10_isName 26 = .ok (.iconst 0, 1) := by decide +kernel
theorem dX10_isName_27 : decode cX10_isName 27 = .ok (.istore 4, 2) := by decide +kernel
theorem dX10_isName_29 : decode cX10_isName 29 = .ok (.iload_n 1, 1) := by decide +kernel
theorem dX10_isName_30 : decode cX10_isName 30 = .ok (.istore 5, 2) := by decide +kernel
theorem dX10_isName_32 : decode cX10_isName 32 = .ok (.iload 5, 2) := by decide +kernel
theorem dX10_isName_34 : decode cX10_isName 34 = .ok (.iload_n 2, 1) := by decide +kernel
theorem dX10_isName_35 : decode cX10_isName 35 = .ok (.if_icmp .ge 63, 3) := by decide +kernel
theorem dX10_isName_38 : decode cX10_isName 38 = .ok (.aload_n 0, 1) := by decide +kernel
theorem dX10_isName_39 : decode cX10_isName 39 = .ok (.iload 5, 2) := by decide +kernel
theorem dX10_isName_41 : decode cX10_isName 41 = .ok (.invokevirtual 60, 3) := by decide +kernel
theorem dX10_isName_44 : decode cX10_isName 44 = .ok (.istore 6, 2) := by decide +kernel
theorem dX10_isName_46 : decode cX10_isName 46 = .ok (.iload 6, 2) := by decide +kernel
theorem dX10_isName_48 : decode cX10_isName 48 = .ok (.bipush 32, 2) := by decide +kernel
theorem dX10_isName_50 : decode cX10_isName 50 = .ok (.if_icmp .lt 21, 3) := by decide +kernel
theorem dX10_isName_53 : decode cX10_isName 53 = .ok (.iload 6, 2) := by decide +kernel
theorem dX10_isName_55 : decode cX10_isName 55 = .ok (.bipush 126, 2) := by decide +kernel
theorem dX10_isName_57 : decode cX10_isName 57 = .ok (.if_icmp .gt 14, 3) := by decide +kernel
theorem dX10_isName_60 : decode cX10_isName 60 = .ok (.ldc 64, 2) := by decide +kernel
theorem dX10_isName_62 : decode cX10_isName 62 = .ok (.iload 6, 2) := by decide +kernel
theorem dX10_isName_64 : decode cX10_isName 64 = .ok (.i2c, 1) := by decide +kernel
theorem dX10_isName_65 : decode cX10_isName 65 = .ok (.invokevirtual 66, 3) := by decide +kernel
theorem dX10_isName_68 : decode cX10_isName 68 = .ok (.ifCond .lt 5, 3) := by decide +kernel
theorem dX10_isName_71 : decode cX10_isName 71 = .ok (.iconst 0, 1) := by decide +kernel
theorem dX10_isName_72 : decode cX10_isName 72 = .ok (.ireturn, 1) := by decide +kernel
theorem dX10_isName_73 : decode cX10_isName 73 = .ok (.iload 4, 2) := by decide +kernel
theorem dX10_isName_75 : decode cX10_isName 75 = .ok (.ifCond .eq 14, 3) := by decide +kernel
theorem dX10_isName_78 : decode cX10_isName 78 = .ok (.iload 6, 2) := by decide +kernel
theorem dX10_isName_80 : decode cX10_isName 80 = .ok (.bipush 46, 2) := by decide +kernel
theorem dX10_isName_82 : decode cX10_isName 82 = .ok (.if_icmp .ne 7, 3) := by decide +kernel
theorem dX10_isName_85 : decode cX10_isName 85 = .ok (.iconst 1, 1) := by decide +kernel
theorem dX10_isName_86 : decode cX10_isName 86 = .ok (.goto 4, 3) := by decide +kernel
theorem dX10_isName_89 : decode cX10_isName 89 = .ok (.iconst 0, 1) := by decide +kernel
theorem dX10_isName_90 : decode cX10_isName 90 = .ok (.istore 4, 2) := by decide +kernel
theorem dX10_isName_92 : decode cX10_isName 92 = .ok (.iinc 5 1, 3) := by decide +kernel
theorem dX10_isName_95 : decode cX10_isName 95 = .ok (.goto (-63), 3) := by decide +kernel
theorem dX10_isName_98 : decode cX10_isName 98 = .ok (.iload 4, 2) := by decide +kernel
theorem dX10_isName_100 : decode cX10_isName 100 = .ok (.ifCond .ne 7, 3) := by decide +kernel
theorem dX10_isName_103 : decode cX10_isName 103 = .ok (.iconst 1, 1) := by decide +kernel
theorem dX10_isName_104 : decode cX10_isName 104 = .ok (.goto 4, 3) := by decide +kernel
theorem dX10_isName_107 : decode cX10_isName 107 = .ok (.iconst 0, 1) := by decide +kernel
theorem dX10_isName_108 : decode cX10_isName 108 = .ok (.ireturn, 1) := by decide +kernel
set_option maxRecDepth 100000 in
set_option maxHeartbeats 4000000 in
theorem c_X10_isName (l : Launch) (D : va_G) (t : Nat → ClassId) (G : GE) (κ : CS) (h : Nat) (a1 : Int32) (a2 : Int32) (post : Int32 → CS → Prop) (hw : F_X10_isName G h a1 a2 post κ) (sz : Nat) : CMi l D t yX10_isName cX10_isName 7 (some .boolean) 9 223 G κ sz [.ref h, .int a1, .int a2] post := by
  refine c_go (by decide) (Nat.le_of_ble_eq_true rfl) ?_
  intro p e s m below meth c ls A hF hr hlk hin hAe hH hA hE hl
  unfold cB
  rw [hAe]
  clear hAe
  have hF : FX p m c cX10_isName 7 s _ RX10 D t := hF
  have hx := hF.1.1
  have hb := hF.1.2.1
  have hl : lv_has ls 7 [(0, .ref h), (1, .int a1), (2, .int a2)] := hl
  unfold F_X10_isName at hw
  refine lv_iload_n hx hb dX10_isName_0 rfl (lv_at hl 2 rfl) ?_
  refine lv_iload_n hx hb dX10_isName_1 rfl (lv_at hl 1 rfl) ?_
  refine lv_isub hx hb dX10_isName_2 ?_
  refine w_nmi hw (fun z1 hw => ?_)
  refine lv_istore_n (lv' := [(3, .int z1), (0, .ref h), (1, .int a1), (2, .int a2)]) hx hb dX10_isName_3 rfl hl (by decide) rfl (fun ls hl => ?_)
  refine lv_iload_n hx hb dX10_isName_4 rfl (lv_at hl 0 rfl) ?_
  refine lv_iconst (v := 1) hx hb dX10_isName_5 (by decide) ?_
  obtain ⟨K4, hK5, hw⟩ := jc_open hw
  refine cw_join (K := K4) 15 (fun (x2 : Unit) => []) (fun (x2 : Unit) => []) hl hH (fun x2 κ3 ls H locs cells slots hl hw hH => ?_) (fun jn6 => ?_)
  · have hw := hK5 x2 κ3 hw
    have hl : lv_has ls 7 [] := hl
    refine lv_iconst (v := 0) hx hb dX10_isName_15 (by decide) ?_
    exact cw_retz hF hH ⟨rfl, rfl⟩ hr hlk dX10_isName_16 hw
  · skip
    refine w_icmp_lt (tgt := 15) hF dX10_isName_6 rfl hw (fun hw => ?_) (fun hw => ?_)
    · have hl : lv_has ls 7 [] := lv_sub hl [] rfl
      exact jn6 () κ ls _ _ _ _ hl hw hH
    · refine lv_iload_n hx hb dX10_isName_9 rfl (lv_at hl 0 rfl) ?_
      refine lv_bipush (v := 12) hx hb dX10_isName_10 (by decide) ?_
      refine w_icmp_le (tgt := 17) hF dX10_isName_12 rfl hw (fun hw => ?_) (fun hw => ?_)
      · refine lv_iload_n hx hb dX10_isName_17 rfl (lv_at hl 0 rfl) ?_
        refine lv_iconst (v := 2) hx hb dX10_isName_18 (by decide) ?_
        obtain ⟨K9, hK10, hw⟩ := jc_open hw
        refine cw_join (K := K9) 27 (fun (x7 : Int32) => [(2, .int a2), (1, .int a1), (0, .ref h)]) (fun (x7 : Int32) => [.int x7]) hl hH (fun x7 κ8 ls H locs cells slots hl hw hH => ?_) (fun jn11 => ?_)
        · have hw := hK10 x7 κ8 hw
          have hl : lv_has ls 7 [(2, .int a2), (1, .int a1), (0, .ref h)] := hl
          refine lv_istore (lv' := [(4, .int x7), (2, .int a2), (1, .int a1), (0, .ref h)]) hx hb dX10_isName_27 hl (by decide) rfl (fun ls hl => ?_)
          refine lv_iload_n hx hb dX10_isName_29 rfl (lv_at hl 2 rfl) ?_
          refine lv_istore (lv' := [(5, .int a1), (4, .int x7), (2, .int a2), (1, .int a1), (0, .ref h)]) hx hb dX10_isName_30 hl (by decide) rfl (fun ls hl => ?_)
          have hl : lv_has ls 7 [(5, .int a1), (4, .int x7), (2, .int a2), (0, .ref h)] := lv_sub hl [0, 1, 2, 4] rfl
          refine cw_loop (β := Int32 × Int32) (fun x12 => [(5, .int x12.1), (4, .int x12.2), (2, .int a2), (0, .ref h)]) (a1, x7) hl hw hH (fun K14 x12 κ13 ls H locs cells slots hl hw hH ih15 => ?_)
          have hl : lv_has ls 7 [(5, .int x12.1), (4, .int x12.2), (2, .int a2), (0, .ref h)] := hl
          refine lv_iload hx hb dX10_isName_32 (lv_at hl 0 rfl) ?_
          refine lv_iload_n hx hb dX10_isName_34 rfl (lv_at hl 2 rfl) ?_
          refine w_icmp_ge (tgt := 98) hF dX10_isName_35 rfl hw (fun hw => ?_) (fun hw => ?_)
          · refine lv_iload hx hb dX10_isName_98 (lv_at hl 1 rfl) ?_
            obtain ⟨K18, hK19, hw⟩ := jc_open hw
            refine cw_join (K := K18) 108 (fun (x16 : Int32) => []) (fun (x16 : Int32) => [.int x16]) hl hH (fun x16 κ17 ls H locs cells slots hl hw hH => ?_) (fun jn20 => ?_)
            · have hw := hK19 x16 κ17 hw
              have hl : lv_has ls 7 [] := hl
              exact cw_retz hF hH ⟨rfl, rfl⟩ hr hlk dX10_isName_108 hw
            · skip
              refine w_if_ne (tgt := 107) hF dX10_isName_100 rfl hw (fun hw => ?_) (fun hw => ?_)
              · refine lv_iconst (v := 0) hx hb dX10_isName_107 (by decide) ?_
                have hl : lv_has ls 7 [] := lv_sub hl [] rfl
                exact jn20 0 κ13 ls _ _ _ _ hl hw hH
              · refine lv_iconst (v := 1) hx hb dX10_isName_103 (by decide) ?_
                refine lv_goto (tgt := 108) hx hb dX10_isName_104 rfl ?_
                have hl : lv_has ls 7 [] := lv_sub hl [] rfl
                exact jn20 1 κ13 ls _ _ _ _ hl hw hH
          · refine lv_aload_n hx hb dX10_isName_38 rfl (lv_at hl 3 rfl) ?_
            refine lv_iload hx hb dX10_isName_39 (lv_at hl 0 rfl) ?_
            refine cw_cVi (b := h) (As := [.int x12.1]) (rest := []) hF hH hA hE mv_X10_60 ci_X10 (by decide) (fun sz => c_X10_unit l D t G _ h x12.1 _ hw.2 sz) dX10_isName_41 hw.1 ⟨Nat.le_of_ble_eq_true rfl, Nat.le_of_ble_eq_true rfl⟩ rfl hl.1 (Nat.le_of_ble_eq_true rfl) rfl (fun z22 κ21 H locs cells slots hw hH => ?_)
            refine lv_istore (lv' := [(6, .int z22), (5, .int x12.1), (4, .int x12.2), (2, .int a2), (0, .ref h)]) hx hb dX10_isName_44 hl (by decide) rfl (fun ls hl => ?_)
            refine lv_iload hx hb dX10_isName_46 (lv_at hl 0 rfl) ?_
            refine lv_bipush (v := 32) hx hb dX10_isName_48 (by decide) ?_
            obtain ⟨K25, hK26, hw⟩ := jc_open hw
            refine cw_join (K := K25) 71 (fun (x23 : Unit) => []) (fun (x23 : Unit) => []) hl hH (fun x23 κ24 ls H locs cells slots hl hw hH => ?_) (fun jn27 => ?_)
            · have hw := hK26 x23 κ24 hw
              have hl : lv_has ls 7 [] := hl
              refine lv_iconst (v := 0) hx hb dX10_isName_71 (by decide) ?_
              exact cw_retz hF hH ⟨rfl, rfl⟩ hr hlk dX10_isName_72 hw
            · skip
              refine w_icmp_lt (tgt := 71) hF dX10_isName_50 rfl hw (fun hw => ?_) (fun hw => ?_)
              · have hl : lv_has ls 7 [] := lv_sub hl [] rfl
                exact jn27 () κ21 ls _ _ _ _ hl hw hH
              · refine lv_iload hx hb dX10_isName_53 (lv_at hl 0 rfl) ?_
                refine lv_bipush (v := 126) hx hb dX10_isName_55 (by decide) ?_
                refine w_icmp_gt (tgt := 71) hF dX10_isName_57 rfl hw (fun hw => ?_) (fun hw => ?_)
                · have hl : lv_has ls 7 [] := lv_sub hl [] rfl
                  exact jn27 () κ21 ls _ _ _ _ hl hw hH
                · refine cw_ldcS hF hH hE rfl rfl dX10_isName_60 ?_
                  refine lv_iload hx hb dX10_isName_62 (lv_at hl 0 rfl) ?_
                  refine lv_i2c hx hb dX10_isName_64 rfl ?_
                  refine w_nmi hw (fun z28 hw => ?_)
                  refine cw_cViS (As := [.int z28]) (rest := []) hF hH hA hE mv_X10_66 (fun sz => c_J0_indexOf_0f7a4 l D t G _ z28 _ hw sz) dX10_isName_65 ⟨Nat.le_of_ble_eq_true rfl, Nat.le_of_ble_eq_true rfl⟩ rfl hl.1 (Nat.le_of_ble_eq_true rfl) rfl (fun z30 κ29 H locs cells slots hw hH => ?_)
                  refine w_if_lt (tgt := 73) hF dX10_isName_68 rfl hw (fun hw => ?_) (fun hw => ?_)
                  · refine lv_iload hx hb dX10_isName_73 (lv_at hl 2 rfl) ?_
                    obtain ⟨K33, hK34, hw⟩ := jc_open hw
                    refine cw_join (K := K33) 90 (fun (x31 : Int32) => [(5, .int x12.1), (2, .int a2), (0, .ref h)]) (fun (x31 : Int32) => [.int x31]) hl hH (fun x31 κ32 ls H locs cells slots hl hw hH => ?_) (fun jn35 => ?_)
                    · have hw := hK34 x31 κ32 hw
                      have hl : lv_has ls 7 [(5, .int x12.1), (2, .int a2), (0, .ref h)] := hl
                      refine lv_istore (lv' := [(4, .int x31), (5, .int x12.1), (2, .int a2), (0, .ref h)]) hx hb dX10_isName_90 hl (by decide) rfl (fun ls hl => ?_)
                      obtain ⟨z36, ez36⟩ : ∃ z : Int32, z = x12.1 + 1 := ⟨_, rfl⟩
                      have hw := hw z36 ez36
                      refine lv_iinc (lv' := [(5, .int z36), (4, .int x31), (2, .int a2), (0, .ref h)]) (k := 1) (v := z36) hx hb dX10_isName_92 hl rfl ez36.symm (by decide) rfl (fun ls hl => ?_)
                      refine lv_goto (tgt := 32) hx hb dX10_isName_95 rfl ?_
                      exact ih15 (z36, x31) κ32 ls _ _ _ _ hl hw hH
                    · skip
                      obtain ⟨K39, hK40, hw⟩ := jc_open hw
                      refine cw_join (K := K39) 89 (fun (x37 : Unit) => [(5, .int x12.1), (2, .int a2), (0, .ref h)]) (fun (x37 : Unit) => []) hl hH (fun x37 κ38 ls H locs cells slots hl hw hH => ?_) (fun jn41 => ?_)
                      · have hw := hK40 x37 κ38 hw
                        have hl : lv_has ls 7 [(5, .int x12.1), (2, .int a2), (0, .ref h)] := hl
                        refine lv_iconst (v := 0) hx hb dX10_isName_89 (by decide) ?_
                        exact jn35 0 κ38 ls _ _ _ _ hl hw hH
                      · skip
                        refine w_if_eq (tgt := 89) hF dX10_isName_75 rfl hw (fun hw => ?_) (fun hw => ?_)
                        · have hl : lv_has ls 7 [(5, .int x12.1), (2, .int a2), (0, .ref h)] := lv_sub hl [1, 3, 4] rfl
                          exact jn41 () κ29 ls _ _ _ _ hl hw hH
                        · refine lv_iload hx hb dX10_isName_78 (lv_at hl 0 rfl) ?_
                          refine lv_bipush (v := 46) hx hb dX10_isName_80 (by decide) ?_
                          refine w_icmp_ne (tgt := 89) hF dX10_isName_82 rfl hw (fun hw => ?_) (fun hw => ?_)
                          · have hl : lv_has ls 7 [(5, .int x12.1), (2, .int a2), (0, .ref h)] := lv_sub hl [1, 3, 4] rfl
                            exact jn41 () κ29 ls _ _ _ _ hl hw hH
                          · refine lv_iconst (v := 1) hx hb dX10_isName_85 (by decide) ?_
                            refine lv_goto (tgt := 90) hx hb dX10_isName_86 rfl ?_
                            have hl : lv_has ls 7 [(5, .int x12.1), (2, .int a2), (0, .ref h)] := lv_sub hl [1, 3, 4] rfl
                            exact jn35 1 κ29 ls _ _ _ _ hl hw hH
                  · have hl : lv_has ls 7 [] := lv_sub hl [] rfl
                    exact jn27 () κ29 ls _ _ _ _ hl hw hH
        · skip
          refine w_icmp_gt (tgt := 26) hF dX10_isName_19 rfl hw (fun hw => ?_) (fun hw => ?_)
          · refine lv_iconst (v := 0) hx hb dX10_isName_26 (by decide) ?_
            have hl : lv_has ls 7 [(2, .int a2), (1, .int a1), (0, .ref h)] := lv_sub hl [3, 2, 1] rfl
            exact jn11 0 κ ls _ _ _ _ hl hw hH
          · refine lv_iconst (v := 1) hx hb dX10_isName_22 (by decide) ?_
            refine lv_goto (tgt := 27) hx hb dX10_isName_23 rfl ?_
            have hl : lv_has ls 7 [(2, .int a2), (1, .int a1), (0, .ref h)] := lv_sub hl [3, 2, 1] rfl
            exact jn11 1 κ ls _ _ _ _ hl hw hH
      · have hl : lv_has ls 7 [] := lv_sub hl [] rfl
        exact jn6 () κ ls _ _ _ _ hl hw hH
set_option maxRecDepth 100000 in
def F_X10_takePath (G : GE) (h : Nat) (a1 : Option Nat) (a2 : Int32) (a3 : Int64) (post : Int32 → CS → Prop) (κ : CS) : Prop := ∀ z1 : Int64, z1 = a3 - a3 / 2 * 2 → jc (fun (K4 : Unit → CS → Prop) => ((¬ z1.toInt = (0 : Int64).toInt) → K4 () κ) ∧ ((z1.toInt = (0 : Int64).toInt) → ((a3.toInt < (0 : Int64).toInt) → K4 () κ) ∧ (((0 : Int64).toInt ≤ a3.toInt) → ((a3.toInt ≤ (240 : Int64).toInt) → ∀ z7 : Int32, z7 = (a3 : Int64).toInt32 → ∀ z8 : Int32, z8 = z7 / 2 → (h ∈ sL κ.1 ∧ sK κ.1 h = 13) ∧ ∀ κ9 : CS, κ9 = (h_uI κ.1 h 9 z8, κ.2) → (h ∈ sL κ9.1 ∧ sK κ9.1 h = 13) ∧ ∀ z10 : Int32, z10 = sI κ9.1 h 9 → (0 ≤ z10.toInt ∧ z10.toInt ≤ 1000000) ∧ (z10.toInt.toNat + 12 ≤ κ9.2) ∧ ∀ o11 : Nat, o11 ∉ sL κ9.1 → ∀ κ12 : CS, κ12 = (h_uN κ9.1 o11 21 z10.toInt.toNat, κ9.2 - (z10.toInt.toNat + 12)) → (h ∈ sL κ12.1 ∧ sK κ12.1 h = 13) ∧ ∀ κ13 : CS, κ13 = (h_uP κ12.1 h 8 (some o11), κ12.2) → lc (fun (K16 : (Int32 × Int32 × Int32) → CS → Prop) (x14 : Int32 × Int32 × Int32) (κ15 : CS) => (h ∈ sL κ15.1 ∧ sK κ15.1 h = 13) ∧ ∀ z18 : Int32, z18 = sI κ15.1 h 9 → ((z18.toInt ≤ x14.1.toInt) → jc (fun (K21 : Int32 → CS → Prop) => jc (fun (K26 : Unit → CS → Prop) => ((x14.2.1.toInt = 0) → K26 () κ15) ∧ ((¬ x14.2.1.toInt = 0) → (h ∈ sL κ15.1 ∧ sK κ15.1 h = 13) ∧ ∀ z29 : Int32, z29 = sI κ15.1 h 9 → jc (fun (K32 : Unit → CS → Prop) => ((z29.toInt = 0) → K32 () κ15) ∧ ((¬ z29.toInt = 0) → (h ∈ sL κ15.1 ∧ sK κ15.1 h = 13) ∧ ∀ z35 : Int32, z35 = sI κ15.1 h 9 → (h ∈ sL κ15.1 ∧ sK κ15.1 h = 13) ∧ F_X10_isName G h x14.2.2 z35 (fun (z37 : Int32) (κ36 : CS) => ((z37.toInt = 0) → K26 () κ36) ∧ ((¬ z37.toInt = 0) → K32 () κ36)) κ15)) (fun (x30 : Unit) (κ31 : CS) => K21 1 κ31))) (fun (x24 : Unit) (κ25 : CS) => K21 0 κ25)) (fun (x19 : Int32) (κ20 : CS) => (0 ≤ x19.toInt ∧ x19.toInt ≤ 1) ∧ post x19 κ20)) ∧ ((x14.1.toInt < z18.toInt) → (h ∈ sL κ15.1 ∧ sK κ15.1 h = 13) ∧ ∀ z38 : Option Nat, z38 = sP κ15.1 h 8 → ∀ z39 : Int32, z39 = 2 * x14.1 → ∀ z40 : Int32, z40 = a2 + z39 → ∃ b : Nat, a1 = some b ∧ (b ∈ sL κ15.1 ∧ sK κ15.1 b = 8) ∧ F_X0_number G b z40 2 (fun (z42 : Int64) (κ41 : CS) => ∀ z43 : Int32, z43 = (z42 : Int64).toInt32 → ∃ b : Nat, z38 = some b ∧ (b ∈ sL κ41.1 ∧ sK κ41.1 b = 21) ∧ (0 ≤ x14.1.toInt ∧ x14.1.toInt < (sN κ41.1 b : Int)) ∧ ∀ κ44 : CS, κ44 = (h_uI κ41.1 b x14.1.toInt.toNat z43, κ41.2) → (h ∈ sL κ44.1 ∧ sK κ44.1 h = 13) ∧ ∀ z45 : Option Nat, z45 = sP κ44.1 h 8 → ∃ b : Nat, z45 = some b ∧ (b ∈ sL κ44.1 ∧ sK κ44.1 b = 21) ∧ (0 ≤ x14.1.toInt ∧ x14.1.toInt < (sN κ44.1 b : Int)) ∧ ∀ z46 : Int32, z46 = sI κ44.1 b x14.1.toInt.toNat → jc (fun (K49 : (Int32 × Int32) → CS → Prop) => ((¬ z46.toInt = (92 : Int32).toInt) → K49 (x14.2.1, x14.2.2) κ44) ∧ ((z46.toInt = (92 : Int32).toInt) → jc (fun (K55 : Int32 → CS → Prop) => jc (fun (K61 : Unit → CS → Prop) => ((x14.2.1.toInt = 0) → K61 () κ44) ∧ ((¬ x14.2.1.toInt = 0) → (h ∈ sL κ44.1 ∧ sK κ44.1 h = 13) ∧ F_X10_isName G h x14.2.2 x14.1 (fun (z65 : Int32) (κ64 : CS) => ((z65.toInt = 0) → K61 () κ64) ∧ ((¬ z65.toInt = 0) → K55 1 κ64)) κ44)) (fun (x59 : Unit) (κ60 : CS) => K55 0 κ60)) (fun (x53 : Int32) (κ54 : CS) => ∀ z58 : Int32, z58 = x14.1 + 1 → K49 (x53, z58) κ54))) (fun (x47 : Int32 × Int32) (κ48 : CS) => ∀ z52 : Int32, z52 = x14.1 + 1 → K16 (z52, x47.1, x47.2) κ48)) κ15)) (0, 1, 0) κ13) ∧ (((240 : Int64).toInt < a3.toInt) → K4 () κ)))) (fun (x2 : Unit) (κ3 : CS) => (0 ≤ (0 : Int32).toInt ∧ (0 : Int32).toInt ≤ 1) ∧ post 0 κ3)
theorem dX10_takePath_0 : decode cX10_takePath 0 = .ok (.lload_n 3, 1) := by decide +kernel
theorem dX10_takePath_1 : decode cX10_takePath 1 = .ok (.ldc2_w 46, 3) := by decide +kernel
theorem dX10_takePath_4 : decode cX10_takePath 4 = .ok (.lrem, 1) := by decide +kernel
theorem dX10_takePath_5 : decode cX10_takePath 5 = .ok (.lconst 0, 1) := by decide +kernel
theorem dX10_takePath_6 : decode cX10_takePath 6 = .ok (.lcmp, 1) := by decide +kernel
theorem dX10_takePath_7 : decode cX10_takePath 7 = .ok (.ifCond .ne 17, 3) := by decide +kernel
theorem dX10_takePath_10 : decode cX10_takePath 10 = .ok (.lload_n 3, 1) := by decide +kernel
theorem dX10_takePath_11 : decode cX10_takePath 11 = .ok (.lconst 0, 1) := by decide +kernel
theorem dX10_takePath_12 : decode cX10_takePath 12 = .ok (.lcmp, 1) := by decide +kernel
theorem dX10_takePath_13 : decode cX10_takePath 13 = .ok (.ifCond .lt 11, 3) := by decide +kernel
theorem dX10_takePath_16 : decode cX10_takePath 16 = .ok (.lload_n 3, 1) := by decide +kernel
theorem dX10_takePath_17 : decode cX10_takePath 17 = .ok (.ldc2_w 48, 3) := by decide +kernel
theorem dX10_takePath_20 : decode cX10_takePath 20 = .ok (.lcmp, 1) := by decide +kernel
theorem dX10_takePath_21 : decode cX10_takePath 21 = .ok (.ifCond .le 5, 3) := by decide +kernel
theorem dX10_takePath_24 : decode cX10_takePath 24 = .ok (.iconst 0, 1) := by decide +kernel
theorem dX10_takePath_25 : decode cX10_takePath 25 = .ok (.ireturn, 1) := by decide +kernel
theorem dX10_takePath_26 : decode cX10_takePath 26 = .ok (.aload_n 0, 1) := by decide +kernel
theorem dX10_takePath_27 : decode cX10_takePath 27 = .ok (.lload_n 3, 1) := by decide +kernel
theorem dX10_takePath_28 : decode cX10_takePath 28 = .ok (.l2i, 1) := by decide +kernel
theorem dX10_takePath_29 : decode cX10_takePath 29 = .ok (.iconst 2, 1) := by decide +kernel
theorem dX10_takePath_30 : decode cX10_takePath 30 = .ok (.idiv, 1) := by decide +kernel
theorem dX10_takePath_31 : decode cX10_takePath 31 = .ok (.putfield 43, 3) := by decide +kernel
theorem dX10_takePath_34 : decode cX10_takePath 34 = .ok (.aload_n 0, 1) := by decide +kernel
theorem dX10_takePath_35 : decode cX10_takePath 35 = .ok (.aload_n 0, 1) := by decide +kernel
theorem dX10_takePath_36 : decode cX10_takePath 36 = .ok (.getfield 43, 3) := by decide +kernel
theorem dX10_takePath_39 : decode cX10_takePath 39 = .ok (.newarray .int, 2) := by decide +kernel
theorem dX10_takePath_41 : decode cX10_takePath 41 = .ok (.putfield 9, 3) := by decide +kernel
theorem dX10_takePath_44 : decode cX10_takePath 44 = .ok (.iconst 0, 1) := by decide +kernel
theorem dX10_takePath_45 : decode cX10_takePath 45 = .ok (.istore 5, 2) := by decide +kernel
theorem dX10_takePath_47 : decode cX10_takePath 47 = .ok (.iconst 1, 1) := by decide +kernel
theorem dX10_takePath_48 : decode cX10_takePath 48 = .ok (.istore 6, 2) := by decide +kernel
theorem dX10_takePath_50 : decode cX10_takePath 50 = .ok (.iconst 0, 1) := by decide +kernel
theorem dX10_takePath_51 : decode cX10_takePath 51 = .ok (.istore 7, 2) := by decide +kernel
theorem dX10_takePath_53 : decode cX10_takePath 53 = .ok (.iload 7, 2) := by decide +kernel
theorem dX10_takePath_55 : decode cX10_takePath 55 = .ok (.aload_n 0, 1) := by decide +kernel
theorem dX10_takePath_56 : decode cX10_takePath 56 = .ok (.getfield 43, 3) := by decide +kernel
theorem dX10_takePath_59 : decode cX10_takePath 59 = .ok (.if_icmp .ge 69, 3) := by decide +kernel
theorem dX10_takePath_62 : decode cX10_takePath 62 = .ok (.aload_n 0, 1) := by decide +kernel
theorem dX10_takePath_63 : decode cX10_takePath 63 = .ok (.getfield 9, 3) := by decide +kernel
theorem dX10_takePath_66 : decode cX10_takePath 66 = .ok (.iload 7, 2) := by decide +kernel
theorem dX10_takePath_68 : decode cX10_takePath 68 = .ok (.aload_n 1, 1) := by decide +kernel
theorem dX10_takePath_69 : decode cX10_takePath 69 = .ok (.iload_n 2, 1) := by decide +kernel
theorem dX10_takePath_70 : decode cX10_takePath 70 = .ok (.iconst 2, 1) := by decide +kernel
theorem dX10_takePath_71 : decode cX10_takePath 71 = .ok (.iload 7, 2) := by decide +kernel
theorem dX10_takePath_73 : decode cX10_takePath 73 = .ok (.imul, 1) := by decide +kernel
theorem dX10_takePath_74 : decode cX10_takePath 74 = .ok (.iadd, 1) := by decide +kernel
theorem dX10_takePath_75 : decode cX10_takePath 75 = .ok (.iconst 2, 1) := by decide +kernel
theorem dX10_takePath_76 : decode cX10_takePath 76 = .ok (.invokevirtual 50, 3) := by decide +kernel
theorem dX10_takePath_79 : decode cX10_takePath 79 = .ok (.l2i, 1) := by decide +kernel
theorem dX10_takePath_80 : decode cX10_takePath 80 = .ok (.iastore, 1) := by decide +kernel
theorem dX10_takePath_81 : decode cX10_takePath 81 = .ok (.aload_n 0, 1) := by decide +kernel
theorem dX10_takePath_82 : decode cX10_takePath 82 = .ok (.getfield 9, 3) := by decide +kernel
theorem dX10_takePath_85 : decode cX10_takePath 85 = .ok (.iload 7, 2) := by decide +kernel
theorem dX10_takePath_87 : decode cX10_takePath 87 = .ok (.iaload, 1) := by decide +kernel
theorem dX10_takePath_88 : decode cX10_takePath 88 = .ok (.bipush 92, 2) := by decide +kernel
theorem dX10_takePath_90 : decode cX10_takePath 90 = .ok (.if_icmp .ne 32, 3) := by decide +kernel
theorem dX10_takePath_93 : decode cX10_takePath 93 = .ok (.iload 6, 2) := by decide +kernel
theorem dX10_takePath_95 : decode cX10_takePath 95 = .ok (.ifCond .eq 18, 3) := by decide +kernel
theorem dX10_takePath_98 : decode cX10_takePath 98 = .ok (.aload_n 0, 1) := by decide +kernel
theorem dX10_takePath_99 : decode cX10_takePath 99 = .ok (.iload 5, 2) := by decide +kernel
theorem dX10_takePath_101 : decode cX10_takePath 101 = .ok (.iload 7, 2) := by decide +kernel
theorem dX10_takePath_103 : decode cX10_takePath 103 = .ok (.invokevirtual 56, 3) := by decide +kernel
theorem dX10_takePath_106 : decode cX10_takePath 106 = .ok (.ifCond .eq 7, 3) := by decide +kernel
theorem dX10_takePath_109 : decode cX10_takePath 109 = .ok (.iconst 1, 1) := by decide +kernel
theorem dX10_takePath_110 : decode cX10_takePath 110 = .ok (.goto 4, 3) := by decide +kernel
theorem dX10_takePath_113 : decode cX10_takePath 113 = .ok (.iconst 0, 1) := by decide +kernel
theorem dX10_takePath_114 : decode cX10_takePath 114 = .ok (.istore 6, 2) := by decide +kernel
theorem dX10_takePath_116 : decode cX10_takePath 116 = .ok (.iload 7, 2) := by decide +kernel
theorem dX10_takePath_118 : decode cX10_takePath 118 = .ok (.iconst 1, 1) := by decide +kernel
theorem dX10_takePath_119 : decode cX10_takePath 119 = .ok (.iadd, 1) := by decide +kernel
theorem dX10_takePath_120 : decode cX10_takePath 120 = .ok (.istore 5, 2) := by decide +kernel
theorem dX10_takePath_122 : decode cX10_takePath 122 = .ok (.iinc 7 1, 3) := by decide +kernel
theorem dX10_takePath_125 : decode cX10_takePath 125 = .ok (.goto (-72), 3) := by decide +kernel
theorem dX10_takePath_128 : decode cX10_takePath 128 = .ok (.iload 6, 2) := by decide +kernel
theorem dX10_takePath_130 : decode cX10_takePath 130 = .ok (.ifCond .eq 27, 3) := by decide +kernel
theorem dX10_takePath_133 : decode cX10_takePath 133 = .ok (.aload_n 0, 1) := by decide +kernel
theorem dX10_takePath_134 : decode cX10_takePath 134 = .ok (.getfield 43, 3) := by decide +kernel
theorem dX10_takePath_137 : decode cX10_takePath 137 = .ok (.ifCond .eq 16, 3) := by decide +kernel
theorem dX10_takePath_140 : decode cX10_takePath 140 = .ok (.aload_n 0, 1) := by decide +kernel
theorem dX10_takePath_141 : decode cX10_takePath 141 = .ok (.iload 5, 2) := by decide +kernel
theorem dX10_takePath_143 : decode cX10_takePath 143 = .ok (.aload_n 0, 1) := by decide +kernel
theorem dX10_takePath_144 : decode cX10_takePath 144 = .ok (.getfield 43, 3) := by decide +kernel
theorem dX10_takePath_147 : decode cX10_takePath 147 = .ok (.invokevirtual 56, 3) := by decide +kernel
theorem dX10_takePath_150 : decode cX10_takePath 150 = .ok (.ifCond .eq 7, 3) := by decide +kernel
theorem dX10_takePath_153 : decode cX10_takePath 153 = .ok (.iconst 1, 1) := by decide +kernel
theorem dX10_takePath_154 : decode cX10_takePath 154 = .ok (.goto 4, 3) := by decide +kernel
theorem dX10_takePath_157 : decode cX10_takePath 157 = .ok (.iconst 0, 1) := by decide +kernel
theorem dX10_takePath_158 : decode cX10_takePath 158 = .ok (.ireturn, 1) := by decide +kernel
set_option maxRecDepth 100000 in
set_option maxHeartbeats 4000000 in
theorem c_X10_takePath (l : Launch) (D : va_G) (t : Nat → ClassId) (G : GE) (κ : CS) (h : Nat) (a1 : Option Nat) (a2 : Int32) (a3 : Int64) (post : Int32 → CS → Prop) (hw : F_X10_takePath G h a1 a2 a3 post κ) (sz : Nat) : CMi l D t yX10_takePath cX10_takePath 8 (some .boolean) 10 249 G κ sz [.ref h, va_rf a1, .int a2, .long a3] post := by
  refine c_go (by decide) (by cases a1 <;> exact Nat.le_of_ble_eq_true rfl) ?_
  intro p e s m below meth c ls A hF hr hlk hin hAe hH hA hE hl
  unfold cB
  rw [hAe]
  clear hAe
  have hF : FX p m c cX10_takePath 8 s _ RX10 D t := hF
  have hx := hF.1.1
  have hb := hF.1.2.1
  have hl : lv_has ls 8 [(0, .ref h), (1, va_rf a1), (2, .int a2), (3, .long a3)] := (by have h2 := hl; clear hw; revert h2; cases a1 <;> exact id)
  unfold F_X10_takePath at hw
  refine lv_lload_n hx hb dX10_takePath_0 rfl (lv_at hl 3 rfl) ?_
  refine lv_ldc2 (v := 2) hx hb hF.1.2.2.2.1 (hF.1.2.2.2.2 _ (wc_25 30 rfl)) dX10_takePath_1 ?_
  refine lv_lrem hx hb dX10_takePath_4 (by decide) ?_
  refine w_nml hw (fun z1 hw => ?_)
  refine lv_lconst (v := 0) hx hb dX10_takePath_5 (by decide) ?_
  obtain ⟨K4, hK5, hw⟩ := jc_open hw
  refine cw_join (K := K4) 24 (fun (x2 : Unit) => []) (fun (x2 : Unit) => []) hl hH (fun x2 κ3 ls H locs cells slots hl hw hH => ?_) (fun jn6 => ?_)
  · have hw := hK5 x2 κ3 hw
    have hl : lv_has ls 8 [] := hl
    refine lv_iconst (v := 0) hx hb dX10_takePath_24 (by decide) ?_
    exact cw_retz hF hH ⟨rfl, rfl⟩ hr hlk dX10_takePath_25 hw
  · skip
    refine w_lif_ne (tgt := 24) hF dX10_takePath_6 dX10_takePath_7 rfl hw (fun hw => ?_) (fun hw => ?_)
    · have hl : lv_has ls 8 [] := lv_sub hl [] rfl
      exact jn6 () κ ls _ _ _ _ hl hw hH
    · refine lv_lload_n hx hb dX10_takePath_10 rfl (lv_at hl 3 rfl) ?_
      refine lv_lconst (v := 0) hx hb dX10_takePath_11 (by decide) ?_
      refine w_lif_lt (tgt := 24) hF dX10_takePath_12 dX10_takePath_13 rfl hw (fun hw => ?_) (fun hw => ?_)
      · have hl : lv_has ls 8 [] := lv_sub hl [] rfl
        exact jn6 () κ ls _ _ _ _ hl hw hH
      · refine lv_lload_n hx hb dX10_takePath_16 rfl (lv_at hl 3 rfl) ?_
        refine lv_ldc2 (v := 240) hx hb hF.1.2.2.2.1 (hF.1.2.2.2.2 _ (wc_25 31 rfl)) dX10_takePath_17 ?_
        refine w_lif_le (tgt := 26) hF dX10_takePath_20 dX10_takePath_21 rfl hw (fun hw => ?_) (fun hw => ?_)
        · refine lv_aload_n hx hb dX10_takePath_26 rfl (lv_at hl 0 rfl) ?_
          refine lv_lload_n hx hb dX10_takePath_27 rfl (lv_at hl 3 rfl) ?_
          refine lv_l2i hx hb dX10_takePath_28 rfl ?_
          refine w_nmi hw (fun z7 hw => ?_)
          refine lv_iconst (v := 2) hx hb dX10_takePath_29 (by decide) ?_
          refine lv_idiv hx hb dX10_takePath_30 (by decide) ?_
          refine w_nmi hw (fun z8 hw => ?_)
          refine cw_putIr (a := h) (v := z8) hF hH fk_X10_43 dX10_takePath_31 rfl rfl rfl hw (fun κ9 H locs cells slots hw hH => ?_)
          refine lv_aload_n hx hb dX10_takePath_34 rfl (lv_at hl 0 rfl) ?_
          refine lv_aload_n hx hb dX10_takePath_35 rfl (lv_at hl 0 rfl) ?_
          refine cw_getIr (a := h) hF hH fk_X10_43 dX10_takePath_36 hw (fun z10 hw => ?_)
          refine cw_newarr_int hF hH hA (wc_6 20 rfl) dX10_takePath_39 hw (fun o11 κ12 H locs cells slots hw hH => ?_)
          refine cw_putPr (a := h) (v := (some o11)) hF hH fk_X10_9 dX10_takePath_41 rfl rfl hw (fun κ13 H locs cells slots hw hH => ?_)
          refine lv_iconst (v := 0) hx hb dX10_takePath_44 (by decide) ?_
          refine lv_istore (lv' := [(5, .int 0), (0, .ref h), (1, va_rf a1), (2, .int a2), (3, .long a3)]) hx hb dX10_takePath_45 hl (by decide) rfl (fun ls hl => ?_)
          refine lv_iconst (v := 1) hx hb dX10_takePath_47 (by decide) ?_
          refine lv_istore (lv' := [(6, .int 1), (5, .int 0), (0, .ref h), (1, va_rf a1), (2, .int a2), (3, .long a3)]) hx hb dX10_takePath_48 hl (by decide) rfl (fun ls hl => ?_)
          refine lv_iconst (v := 0) hx hb dX10_takePath_50 (by decide) ?_
          refine lv_istore (lv' := [(7, .int 0), (6, .int 1), (5, .int 0), (0, .ref h), (1, va_rf a1), (2, .int a2), (3, .long a3)]) hx hb dX10_takePath_51 hl (by decide) rfl (fun ls hl => ?_)
          have hl : lv_has ls 8 [(7, .int 0), (6, .int 1), (5, .int 0), (2, .int a2), (1, va_rf a1), (0, .ref h)] := lv_sub hl [0, 1, 2, 5, 4, 3] rfl
          refine cw_loop (β := Int32 × Int32 × Int32) (fun x14 => [(7, .int x14.1), (6, .int x14.2.1), (5, .int x14.2.2), (2, .int a2), (1, va_rf a1), (0, .ref h)]) (0, 1, 0) hl hw hH (fun K16 x14 κ15 ls H locs cells slots hl hw hH ih17 => ?_)
          have hl : lv_has ls 8 [(7, .int x14.1), (6, .int x14.2.1), (5, .int x14.2.2), (2, .int a2), (1, va_rf a1), (0, .ref h)] := hl
          refine lv_iload hx hb dX10_takePath_53 (lv_at hl 0 rfl) ?_
          refine lv_aload_n hx hb dX10_takePath_55 rfl (lv_at hl 5 rfl) ?_
          refine cw_getIr (a := h) hF hH fk_X10_43 dX10_takePath_56 hw (fun z18 hw => ?_)
          refine w_icmp_ge (tgt := 128) hF dX10_takePath_59 rfl hw (fun hw => ?_) (fun hw => ?_)
          · refine lv_iload hx hb dX10_takePath_128 (lv_at hl 1 rfl) ?_
            obtain ⟨K21, hK22, hw⟩ := jc_open hw
            refine cw_join (K := K21) 158 (fun (x19 : Int32) => []) (fun (x19 : Int32) => [.int x19]) hl hH (fun x19 κ20 ls H locs cells slots hl hw hH => ?_) (fun jn23 => ?_)
            · have hw := hK22 x19 κ20 hw
              have hl : lv_has ls 8 [] := hl
              exact cw_retz hF hH ⟨rfl, rfl⟩ hr hlk dX10_takePath_158 hw
            · skip
              obtain ⟨K26, hK27, hw⟩ := jc_open hw
              refine cw_join (K := K26) 157 (fun (x24 : Unit) => []) (fun (x24 : Unit) => []) hl hH (fun x24 κ25 ls H locs cells slots hl hw hH => ?_) (fun jn28 => ?_)
              · have hw := hK27 x24 κ25 hw
                have hl : lv_has ls 8 [] := hl
                refine lv_iconst (v := 0) hx hb dX10_takePath_157 (by decide) ?_
                exact jn23 0 κ25 ls _ _ _ _ hl hw hH
              · skip
                refine w_if_eq (tgt := 157) hF dX10_takePath_130 rfl hw (fun hw => ?_) (fun hw => ?_)
                · have hl : lv_has ls 8 [] := lv_sub hl [] rfl
                  exact jn28 () κ15 ls _ _ _ _ hl hw hH
                · refine lv_aload_n hx hb dX10_takePath_133 rfl (lv_at hl 5 rfl) ?_
                  refine cw_getIr (a := h) hF hH fk_X10_43 dX10_takePath_134 hw (fun z29 hw => ?_)
                  obtain ⟨K32, hK33, hw⟩ := jc_open hw
                  refine cw_join (K := K32) 153 (fun (x30 : Unit) => []) (fun (x30 : Unit) => []) hl hH (fun x30 κ31 ls H locs cells slots hl hw hH => ?_) (fun jn34 => ?_)
                  · have hw := hK33 x30 κ31 hw
                    have hl : lv_has ls 8 [] := hl
                    refine lv_iconst (v := 1) hx hb dX10_takePath_153 (by decide) ?_
                    refine lv_goto (tgt := 158) hx hb dX10_takePath_154 rfl ?_
                    exact jn23 1 κ31 ls _ _ _ _ hl hw hH
                  · skip
                    refine w_if_eq (tgt := 153) hF dX10_takePath_137 rfl hw (fun hw => ?_) (fun hw => ?_)
                    · have hl : lv_has ls 8 [] := lv_sub hl [] rfl
                      exact jn34 () κ15 ls _ _ _ _ hl hw hH
                    · refine lv_aload_n hx hb dX10_takePath_140 rfl (lv_at hl 5 rfl) ?_
                      refine lv_iload hx hb dX10_takePath_141 (lv_at hl 2 rfl) ?_
                      refine lv_aload_n hx hb dX10_takePath_143 rfl (lv_at hl 5 rfl) ?_
                      refine cw_getIr (a := h) hF hH fk_X10_43 dX10_takePath_144 hw (fun z35 hw => ?_)
                      refine cw_cVi (b := h) (As := [.int x14.2.2, .int z35]) (rest := []) hF hH hA hE mv_X10_56 ci_X10 (by decide) (fun sz => c_X10_isName l D t G _ h x14.2.2 z35 _ hw.2 sz) dX10_takePath_147 hw.1 ⟨Nat.le_of_ble_eq_true rfl, Nat.le_of_ble_eq_true rfl⟩ rfl hl.1 (Nat.le_of_ble_eq_true rfl) rfl (fun z37 κ36 H locs cells slots hw hH => ?_)
                      refine w_if_eq (tgt := 157) hF dX10_takePath_150 rfl hw (fun hw => ?_) (fun hw => ?_)
                      · have hl : lv_has ls 8 [] := lv_sub hl [] rfl
                        exact jn28 () κ36 ls _ _ _ _ hl hw hH
                      · have hl : lv_has ls 8 [] := lv_sub hl [] rfl
                        exact jn34 () κ36 ls _ _ _ _ hl hw hH
          · refine lv_aload_n hx hb dX10_takePath_62 rfl (lv_at hl 5 rfl) ?_
            refine cw_getPr (a := h) hF hH fk_X10_9 dX10_takePath_63 hw (fun z38 hw => ?_)
            refine lv_iload hx hb dX10_takePath_66 (lv_at hl 0 rfl) ?_
            refine w_aloadq_n hF dX10_takePath_68 rfl (lv_at hl 4 rfl) ?_
            refine lv_iload_n hx hb dX10_takePath_69 rfl (lv_at hl 3 rfl) ?_
            refine lv_iconst (v := 2) hx hb dX10_takePath_70 (by decide) ?_
            refine lv_iload hx hb dX10_takePath_71 (lv_at hl 0 rfl) ?_
            refine lv_imul hx hb dX10_takePath_73 ?_
            refine w_nmi hw (fun z39 hw => ?_)
            refine lv_iadd hx hb dX10_takePath_74 ?_
            refine w_nmi hw (fun z40 hw => ?_)
            refine lv_iconst (v := 2) hx hb dX10_takePath_75 (by decide) ?_
            refine cw_cVlq (q := a1) (As := [.int z40, .int 2]) (rest := [.int x14.1, va_rf z38]) hF hH hA hE mv_X10_50 ci_X0 (by decide) hw (fun b hw sz => c_X0_number l D t G _ b z40 2 _ hw sz) dX10_takePath_76 ⟨Nat.le_of_ble_eq_true rfl, Nat.le_of_ble_eq_true rfl⟩ rfl hl.1 (by simp only [List.map_cons, List.map_nil, cat_rf]; exact Nat.le_of_ble_eq_true rfl) rfl (fun z42 κ41 H locs cells slots hw hH => ?_)
            refine lv_l2i hx hb dX10_takePath_79 rfl ?_
            refine w_nmi hw (fun z43 hw => ?_)
            refine cw_iast (q := z38) hF hH dX10_takePath_80 hw (fun κ44 H locs cells slots hw hH => ?_)
            refine lv_aload_n hx hb dX10_takePath_81 rfl (lv_at hl 5 rfl) ?_
            refine cw_getPr (a := h) hF hH fk_X10_9 dX10_takePath_82 hw (fun z45 hw => ?_)
            refine lv_iload hx hb dX10_takePath_85 (lv_at hl 0 rfl) ?_
            refine cw_iald (q := z45) hF hH dX10_takePath_87 hw (fun z46 hw => ?_)
            refine lv_bipush (v := 92) hx hb dX10_takePath_88 (by decide) ?_
            obtain ⟨K49, hK50, hw⟩ := jc_open hw
            refine cw_join (K := K49) 122 (fun (x47 : Int32 × Int32) => [(7, .int x14.1), (6, .int x47.1), (5, .int x47.2), (2, .int a2), (1, va_rf a1), (0, .ref h)]) (fun (x47 : Int32 × Int32) => []) hl hH (fun x47 κ48 ls H locs cells slots hl hw hH => ?_) (fun jn51 => ?_)
            · have hw := hK50 x47 κ48 hw
              have hl : lv_has ls 8 [(7, .int x14.1), (6, .int x47.1), (5, .int x47.2), (2, .int a2), (1, va_rf a1), (0, .ref h)] := hl
              obtain ⟨z52, ez52⟩ : ∃ z : Int32, z = x14.1 + 1 := ⟨_, rfl⟩
              have hw := hw z52 ez52
              refine lv_iinc (lv' := [(7, .int z52), (6, .int x47.1), (5, .int x47.2), (2, .int a2), (1, va_rf a1), (0, .ref h)]) (k := 0) (v := z52) hx hb dX10_takePath_122 hl rfl ez52.symm (by decide) rfl (fun ls hl => ?_)
              refine lv_goto (tgt := 53) hx hb dX10_takePath_125 rfl ?_
              exact ih17 (z52, x47.1, x47.2) κ48 ls _ _ _ _ hl hw hH
            · skip
              refine w_icmp_ne (tgt := 122) hF dX10_takePath_90 rfl hw (fun hw => ?_) (fun hw => ?_)
              · exact jn51 (x14.2.1, x14.2.2) κ44 ls _ _ _ _ hl hw hH
              · refine lv_iload hx hb dX10_takePath_93 (lv_at hl 1 rfl) ?_
                obtain ⟨K55, hK56, hw⟩ := jc_open hw
                refine cw_join (K := K55) 114 (fun (x53 : Int32) => [(7, .int x14.1), (2, .int a2), (1, va_rf a1), (0, .ref h)]) (fun (x53 : Int32) => [.int x53]) hl hH (fun x53 κ54 ls H locs cells slots hl hw hH => ?_) (fun jn57 => ?_)
                · have hw := hK56 x53 κ54 hw
                  have hl : lv_has ls 8 [(7, .int x14.1), (2, .int a2), (1, va_rf a1), (0, .ref h)] := hl
                  refine lv_istore (lv' := [(6, .int x53), (7, .int x14.1), (2, .int a2), (1, va_rf a1), (0, .ref h)]) hx hb dX10_takePath_114 hl (by decide) rfl (fun ls hl => ?_)
                  refine lv_iload hx hb dX10_takePath_116 (lv_at hl 1 rfl) ?_
                  refine lv_iconst (v := 1) hx hb dX10_takePath_118 (by decide) ?_
                  refine lv_iadd hx hb dX10_takePath_119 ?_
                  refine w_nmi hw (fun z58 hw => ?_)
                  refine lv_istore (lv' := [(5, .int z58), (6, .int x53), (7, .int x14.1), (2, .int a2), (1, va_rf a1), (0, .ref h)]) hx hb dX10_takePath_120 hl (by decide) rfl (fun ls hl => ?_)
                  have hl : lv_has ls 8 [(7, .int x14.1), (6, .int x53), (5, .int z58), (2, .int a2), (1, va_rf a1), (0, .ref h)] := lv_sub hl [2, 1, 0, 3, 4, 5] rfl
                  exact jn51 (x53, z58) κ54 ls _ _ _ _ hl hw hH
                · skip
                  obtain ⟨K61, hK62, hw⟩ := jc_open hw
                  refine cw_join (K := K61) 113 (fun (x59 : Unit) => [(7, .int x14.1), (2, .int a2), (1, va_rf a1), (0, .ref h)]) (fun (x59 : Unit) => []) hl hH (fun x59 κ60 ls H locs cells slots hl hw hH => ?_) (fun jn63 => ?_)
                  · have hw := hK62 x59 κ60 hw
                    have hl : lv_has ls 8 [(7, .int x14.1), (2, .int a2), (1, va_rf a1), (0, .ref h)] := hl
                    refine lv_iconst (v := 0) hx hb dX10_takePath_113 (by decide) ?_
                    exact jn57 0 κ60 ls _ _ _ _ hl hw hH
                  · skip
                    refine w_if_eq (tgt := 113) hF dX10_takePath_95 rfl hw (fun hw => ?_) (fun hw => ?_)
                    · have hl : lv_has ls 8 [(7, .int x14.1), (2, .int a2), (1, va_rf a1), (0, .ref h)] := lv_sub hl [0, 3, 4, 5] rfl
                      exact jn63 () κ44 ls _ _ _ _ hl hw hH
                    · refine lv_aload_n hx hb dX10_takePath_98 rfl (lv_at hl 5 rfl) ?_
                      refine lv_iload hx hb dX10_takePath_99 (lv_at hl 2 rfl) ?_
                      refine lv_iload hx hb dX10_takePath_101 (lv_at hl 0 rfl) ?_
                      refine cw_cVi (b := h) (As := [.int x14.2.2, .int x14.1]) (rest := []) hF hH hA hE mv_X10_56 ci_X10 (by decide) (fun sz => c_X10_isName l D t G _ h x14.2.2 x14.1 _ hw.2 sz) dX10_takePath_103 hw.1 ⟨Nat.le_of_ble_eq_true rfl, Nat.le_of_ble_eq_true rfl⟩ rfl hl.1 (Nat.le_of_ble_eq_true rfl) rfl (fun z65 κ64 H locs cells slots hw hH => ?_)
                      refine w_if_eq (tgt := 113) hF dX10_takePath_106 rfl hw (fun hw => ?_) (fun hw => ?_)
                      · have hl : lv_has ls 8 [(7, .int x14.1), (2, .int a2), (1, va_rf a1), (0, .ref h)] := lv_sub hl [0, 3, 4, 5] rfl
                        exact jn63 () κ64 ls _ _ _ _ hl hw hH
                      · refine lv_iconst (v := 1) hx hb dX10_takePath_109 (by decide) ?_
                        refine lv_goto (tgt := 114) hx hb dX10_takePath_110 rfl ?_
                        have hl : lv_has ls 8 [(7, .int x14.1), (2, .int a2), (1, va_rf a1), (0, .ref h)] := lv_sub hl [0, 3, 4, 5] rfl
                        exact jn57 1 κ64 ls _ _ _ _ hl hw hH
        · have hl : lv_has ls 8 [] := lv_sub hl [] rfl
          exact jn6 () κ ls _ _ _ _ hl hw hH
set_option maxRecDepth 100000 in
def F_X10_nameTo (G : GE) (h : Nat) (a1 : Option Nat) (post : CS → Prop) (κ : CS) : Prop := (h ∈ sL κ.1 ∧ sK κ.1 h = 13) ∧ ∀ z1 : Int32, z1 = sI κ.1 h 9 → (h ∈ sL κ.1 ∧ sK κ.1 h = 13) ∧ ∀ z2 : Int32, z2 = sI κ.1 h 12 → ∀ z3 : Int32, z3 = z1 - z2 → ∃ b : Nat, a1 = some b ∧ (b ∈ sL κ.1 ∧ sK κ.1 b = 4) ∧ ∀ z4 : Option Nat, z4 = sP κ.1 b 4 → ∃ n : Nat, AL G κ z4 n ∧ ∀ z5 : Int32, z5 = nI n → ∀ z7 : Int32, z7.toInt = min z3.toInt z5.toInt → ∀ z9 : Int32, z9.toInt = max ((0 : Int32).toInt) z7.toInt → ∃ b : Nat, a1 = some b ∧ (b ∈ sL κ.1 ∧ sK κ.1 b = 4) ∧ ∀ κ10 : CS, κ10 = (h_uI κ.1 b 5 z9, κ.2) → lc (fun (K13 : Int32 → CS → Prop) (x11 : Int32) (κ12 : CS) => ∃ b : Nat, a1 = some b ∧ (b ∈ sL κ12.1 ∧ sK κ12.1 b = 4) ∧ ∀ z15 : Int32, z15 = sI κ12.1 b 5 → ((z15.toInt ≤ x11.toInt) → post κ12) ∧ ((x11.toInt < z15.toInt) → ∃ b : Nat, a1 = some b ∧ (b ∈ sL κ12.1 ∧ sK κ12.1 b = 4) ∧ ∀ z16 : Option Nat, z16 = sP κ12.1 b 4 → (h ∈ sL κ12.1 ∧ sK κ12.1 h = 13) ∧ ∀ z17 : Int32, z17 = sI κ12.1 h 12 → ∀ z18 : Int32, z18 = z17 + x11 → (h ∈ sL κ12.1 ∧ sK κ12.1 h = 13) ∧ F_X10_unit G h z18 (fun (z20 : Int32) (κ19 : CS) => ∀ z21 : Int32, z21 = (z20 : Int32).toInt8.toInt32 → ∃ b : Nat, z16 = some b ∧ (b ∈ sL κ19.1 ∧ sK κ19.1 b = 20) ∧ (0 ≤ x11.toInt ∧ x11.toInt < (sN κ19.1 b : Int)) ∧ ∀ κ22 : CS, κ22 = (h_uI κ19.1 b x11.toInt.toNat (vp_nar .byte z21), κ19.2) → ∀ z23 : Int32, z23 = x11 + 1 → K13 z23 κ22) κ12)) 0 κ10
theorem dX10_nameTo_0 : decode cX10_nameTo 0 = .ok (.aload_n 1, 1) := by decide +kernel
theorem dX10_nameTo_1 : decode cX10_nameTo 1 = .ok (.iconst 0, 1) := by decide +kernel
theorem dX10_nameTo_2 : decode cX10_nameTo 2 = .ok (.aload_n 0, 1) := by decide +kernel
theorem dX10_nameTo_3 : decode cX10_nameTo 3 = .ok (.getfield 43, 3) := by decide +kernel
theorem dX10_nameTo_6 : decode cX10_nameTo 6 = .ok (.aload_n 0, 1) := by decide +kernel
theorem dX10_nameTo_7 : decode cX10_nameTo 7 = .ok (.getfield 71, 3) := by decide +kernel
theorem dX10_nameTo_10 : decode cX10_nameTo 10 = .ok (.isub, 1) := by decide +kernel
theorem dX10_nameTo_11 : decode cX10_nameTo 11 = .ok (.aload_n 1, 1) := by decide +kernel
theorem dX10_nameTo_12 : decode cX10_nameTo 12 = .ok (.getfield 74, 3) := by decide +kernel
theorem dX10_nameTo_15 : decode cX10_nameTo 15 = .ok (.arraylength, 1) := by decide +kernel
theorem dX10_nameTo_16 : decode cX10_nameTo 16 = .ok (.invokestatic 80, 3) := by decide +kernel
theorem dX10_nameTo_19 : decode cX10_nameTo 19 = .ok (.invokestatic 86, 3) := by decide +kernel
theorem dX10_nameTo_22 : decode cX10_nameTo 22 = .ok (.putfield 89, 3) := by decide +kernel
theorem dX10_nameTo_25 : decode cX10_nameTo 25 = .ok (.iconst 0, 1) := by decide +kernel
theorem dX10_nameTo_26 : decode cX10_nameTo 26 = .ok (.istore_n 2, 1) := by decide +kernel
theorem dX10_nameTo_27 : decode cX10_nameTo 27 = .ok (.iload_n 2, 1) := by decide +kernel
theorem dX10_nameTo_28 : decode cX10_nameTo 28 = .ok (.aload_n 1, 1) := by decide +kernel
theorem dX10_nameTo_29 : decode cX10_nameTo 29 = .ok (.getfield 89, 3) := by decide +kernel
theorem dX10_nameTo_32 : decode cX10_nameTo 32 = .ok (.if_icmp .ge 26, 3) := by decide +kernel
theorem dX10_nameTo_35 : decode cX10_nameTo 35 = .ok (.aload_n 1, 1) := by decide +kernel
theorem dX10_nameTo_36 : decode cX10_nameTo 36 = .ok (.getfield 74, 3) := by decide +kernel
theorem dX10_nameTo_39 : decode cX10_nameTo 39 = .ok (.iload_n 2, 1) := by decide +kernel
theorem dX10_nameTo_40 : decode cX10_nameTo 40 = .ok (.aload_n 0, 1) := by decide +kernel
theorem dX10_nameTo_41 : decode cX10_nameTo 41 = .ok (.aload_n 0, 1) := by decide +kernel
theorem dX10_nameTo_42 : decode cX10_nameTo 42 = .ok (.getfield 71, 3) := by decide +kernel
theorem dX10_nameTo_45 : decode cX10_nameTo 45 = .ok (.iload_n 2, 1) := by decide +kernel
theorem dX10_nameTo_46 : decode cX10_nameTo 46 = .ok (.iadd, 1) := by decide +kernel
theorem dX10_nameTo_47 : decode cX10_nameTo 47 = .ok (.invokevirtual 60, 3) := by decide +kernel
theorem dX10_nameTo_50 : decode cX10_nameTo 50 = .ok (.i2b, 1) := by decide +kernel
theorem dX10_nameTo_51 : decode cX10_nameTo 51 = .ok (.bastore, 1) := by decide +kernel
theorem dX10_nameTo_52 : decode cX10_nameTo 52 = .ok (.iinc 2 1, 3) := by decide +kernel
theorem dX10_nameTo_55 : decode cX10_nameTo 55 = .ok (.goto (-28), 3) := by decide +kernel
theorem dX10_nameTo_58 : decode cX10_nameTo 58 = .ok (.return_, 1) := by decide +kernel
set_option maxRecDepth 100000 in
set_option maxHeartbeats 4000000 in
theorem c_X10_nameTo (l : Launch) (D : va_G) (t : Nat → ClassId) (G : GE) (κ : CS) (h : Nat) (a1 : Option Nat) (post : CS → Prop) (hw : F_X10_nameTo G h a1 post κ) (sz : Nat) : CMv l D t yX10_nameTo cX10_nameTo 3 1 40 G κ sz [.ref h, va_rf a1] post := by
  refine c_go (by decide) (by cases a1 <;> exact Nat.le_of_ble_eq_true rfl) ?_
  intro p e s m below meth c ls A hF hr hlk hin hAe hH hA hE hl
  unfold cB
  rw [hAe]
  clear hAe
  have hF : FX p m c cX10_nameTo 3 s _ RX10 D t := hF
  have hx := hF.1.1
  have hb := hF.1.2.1
  have hl : lv_has ls 3 [(0, .ref h), (1, va_rf a1)] := (by have h2 := hl; clear hw; revert h2; cases a1 <;> exact id)
  unfold F_X10_nameTo at hw
  refine w_aloadq_n hF dX10_nameTo_0 rfl (lv_at hl 1 rfl) ?_
  refine lv_iconst (v := 0) hx hb dX10_nameTo_1 (by decide) ?_
  refine lv_aload_n hx hb dX10_nameTo_2 rfl (lv_at hl 0 rfl) ?_
  refine cw_getIr (a := h) hF hH fk_X10_43 dX10_nameTo_3 hw (fun z1 hw => ?_)
  refine lv_aload_n hx hb dX10_nameTo_6 rfl (lv_at hl 0 rfl) ?_
  refine cw_getIr (a := h) hF hH fk_X10_71 dX10_nameTo_7 hw (fun z2 hw => ?_)
  refine lv_isub hx hb dX10_nameTo_10 ?_
  refine w_nmi hw (fun z3 hw => ?_)
  refine w_aloadq_n hF dX10_nameTo_11 rfl (lv_at hl 1 rfl) ?_
  refine cw_getP (q := a1) hF hH fk_X10_74 dX10_nameTo_12 hw (fun z4 hw => ?_)
  refine cw_alen (q := z4) hF hH hE dX10_nameTo_15 hw (fun z5 hw => ?_)
  refine cw_mmin hF hH hl.1 (wc_15 18 rfl) (wc_10 25 rfl) (wc_5 5 rfl) (wc_10 24 rfl) (Nat.le_of_ble_eq_true rfl) (by simp only [List.map_cons, List.map_nil, cat_rf]; exact Nat.le_of_ble_eq_true rfl) dX10_nameTo_16 hw (fun z7 hw => ?_)
  refine cw_mmax hF hH hl.1 (wc_15 19 rfl) (wc_10 1 rfl) (wc_5 5 rfl) (wc_10 0 rfl) (Nat.le_of_ble_eq_true rfl) (by simp only [List.map_cons, List.map_nil, cat_rf]; exact Nat.le_of_ble_eq_true rfl) dX10_nameTo_19 hw (fun z9 hw => ?_)
  refine cw_putI (q := a1) (v := z9) hF hH fk_X10_89 dX10_nameTo_22 rfl rfl rfl hw (fun κ10 H locs cells slots hw hH => ?_)
  refine lv_iconst (v := 0) hx hb dX10_nameTo_25 (by decide) ?_
  refine lv_istore_n (lv' := [(2, .int 0), (0, .ref h), (1, va_rf a1)]) hx hb dX10_nameTo_26 rfl hl (by decide) (by generalize a1 = y; cases y <;> rfl) (fun ls hl => ?_)
  have hl : lv_has ls 3 [(2, .int 0), (1, va_rf a1), (0, .ref h)] := lv_sub hl [0, 2, 1] rfl
  refine cw_loop (β := Int32) (fun x11 => [(2, .int x11), (1, va_rf a1), (0, .ref h)]) 0 hl hw hH (fun K13 x11 κ12 ls H locs cells slots hl hw hH ih14 => ?_)
  have hl : lv_has ls 3 [(2, .int x11), (1, va_rf a1), (0, .ref h)] := hl
  refine lv_iload_n hx hb dX10_nameTo_27 rfl (lv_at hl 0 rfl) ?_
  refine w_aloadq_n hF dX10_nameTo_28 rfl (lv_at hl 1 rfl) ?_
  refine cw_getI (q := a1) hF hH fk_X10_89 dX10_nameTo_29 hw (fun z15 hw => ?_)
  refine w_icmp_ge (tgt := 58) hF dX10_nameTo_32 rfl hw (fun hw => ?_) (fun hw => ?_)
  · exact cw_retv hF hH ⟨rfl, rfl⟩ hr hlk dX10_nameTo_58 hw
  · refine w_aloadq_n hF dX10_nameTo_35 rfl (lv_at hl 1 rfl) ?_
    refine cw_getP (q := a1) hF hH fk_X10_74 dX10_nameTo_36 hw (fun z16 hw => ?_)
    refine lv_iload_n hx hb dX10_nameTo_39 rfl (lv_at hl 0 rfl) ?_
    refine lv_aload_n hx hb dX10_nameTo_40 rfl (lv_at hl 2 rfl) ?_
    refine lv_aload_n hx hb dX10_nameTo_41 rfl (lv_at hl 2 rfl) ?_
    refine cw_getIr (a := h) hF hH fk_X10_71 dX10_nameTo_42 hw (fun z17 hw => ?_)
    refine lv_iload_n hx hb dX10_nameTo_45 rfl (lv_at hl 0 rfl) ?_
    refine lv_iadd hx hb dX10_nameTo_46 ?_
    refine w_nmi hw (fun z18 hw => ?_)
    refine cw_cVi (b := h) (As := [.int z18]) (rest := [.int x11, va_rf z16]) hF hH hA hE mv_X10_60 ci_X10 (by decide) (fun sz => c_X10_unit l D t G _ h z18 _ hw.2 sz) dX10_nameTo_47 hw.1 ⟨Nat.le_of_ble_eq_true rfl, Nat.le_of_ble_eq_true rfl⟩ rfl hl.1 (by simp only [List.map_cons, List.map_nil, cat_rf]; exact Nat.le_of_ble_eq_true rfl) rfl (fun z20 κ19 H locs cells slots hw hH => ?_)
    refine lv_i2b hx hb dX10_nameTo_50 rfl ?_
    refine w_nmi hw (fun z21 hw => ?_)
    refine cw_bast (q := z16) hF hH dX10_nameTo_51 hw (fun κ22 H locs cells slots hw hH => ?_)
    obtain ⟨z23, ez23⟩ : ∃ z : Int32, z = x11 + 1 := ⟨_, rfl⟩
    have hw := hw z23 ez23
    refine lv_iinc (lv' := [(2, .int z23), (1, va_rf a1), (0, .ref h)]) (k := 0) (v := z23) hx hb dX10_nameTo_52 hl rfl ez23.symm (by decide) (by generalize a1 = y; cases y <;> rfl) (fun ls hl => ?_)
    refine lv_goto (tgt := 27) hx hb dX10_nameTo_55 rfl ?_
    exact ih14 z23 κ22 ls _ _ _ _ hl hw hH
set_option maxRecDepth 100000 in
def F_Jxa1e45_init_da8c8 (G : GE) (h : Nat) (post : CS → Prop) (κ : CS) : Prop := post κ
theorem dJxa1e45_init_da8c8_0 : decode cJxa1e45_init_da8c8 0 = .ok (.aload_n 0, 1) := by decide +kernel
theorem dJxa1e45_init_da8c8_1 : decode cJxa1e45_init_da8c8 1 = .ok (.invokespecial 1, 3) := by decide +kernel
theorem dJxa1e45_init_da8c8_4 : decode cJxa1e45_init_da8c8 4 = .ok (.return_, 1) := by decide +kernel
set_option maxRecDepth 100000 in
set_option maxHeartbeats 4000000 in
theorem c_Jxa1e45_init_da8c8 (l : Launch) (D : va_G) (t : Nat → ClassId) (G : GE) (κ : CS) (h : Nat) (post : CS → Prop) (hw : F_Jxa1e45_init_da8c8 G h post κ) (sz : Nat) : CMv l D t yJxa1e45_init_da8c8 cJxa1e45_init_da8c8 1 1 30 G κ sz [.ref h] post := by
  refine c_go (by decide) (Nat.le_of_ble_eq_true rfl) ?_
  intro p e s m below meth c ls A hF hr hlk hin hAe hH hA hE hl
  unfold cB
  rw [hAe]
  clear hAe
  have hF : FX p m c cJxa1e45_init_da8c8 1 s _ RJxa1e45 D t := hF
  have hx := hF.1.1
  have hb := hF.1.2.1
  have hl : lv_has ls 1 [(0, .ref h)] := hl
  unfold F_Jxa1e45_init_da8c8 at hw
  refine lv_aload_n hx hb dJxa1e45_init_da8c8_0 rfl (lv_at hl 0 rfl) ?_
  refine W.objInit hx hb hF.1.2.2.2.1 (hF.1.2.2.2.2 _ (wc_8 21 rfl)) (hF.1.2.2.2.2 _ (wc_5 1 rfl)) (hF.1.2.2.2.2 _ (wc_5 0 rfl)) rfl (hl.1.trans hF.1.2.2.1.symm) rfl dJxa1e45_init_da8c8_1 (Nat.le_of_ble_eq_true rfl) (Nat.le_of_ble_eq_true rfl) ?_
  exact cw_retv hF hH ⟨rfl, rfl⟩ hr hlk dJxa1e45_init_da8c8_4 hw
set_option maxRecDepth 100000 in
def F_Jxc12de_init_da8c8 (G : GE) (h : Nat) (post : CS → Prop) (κ : CS) : Prop := F_Jxa1e45_init_da8c8 G h  (fun (κ1 : CS) => (h ∈ sL κ1.1 ∧ sK κ1.1 h = 7) ∧ ∀ κ3 : CS, κ3 = (h_uI κ1.1 h 0 0, κ1.2) → post κ3) κ
theorem dJxc12de_init_da8c8_0 : decode cJxc12de_init_da8c8 0 = .ok (.aload_n 0, 1) := by decide +kernel
theorem dJxc12de_init_da8c8_1 : decode cJxc12de_init_da8c8 1 = .ok (.invokespecial 1, 3) := by decide +kernel
theorem dJxc12de_init_da8c8_4 : decode cJxc12de_init_da8c8 4 = .ok (.aload_n 0, 1) := by decide +kernel
theorem dJxc12de_init_da8c8_5 : decode cJxc12de_init_da8c8 5 = .ok (.iconst 0, 1) := by decide +kernel
theorem dJxc12de_init_da8c8_6 : decode cJxc12de_init_da8c8 6 = .ok (.putfield 7, 3) := by decide +kernel
theorem dJxc12de_init_da8c8_9 : decode cJxc12de_init_da8c8 9 = .ok (.return_, 1) := by decide +kernel
set_option maxRecDepth 100000 in
set_option maxHeartbeats 4000000 in
theorem c_Jxc12de_init_da8c8 (l : Launch) (D : va_G) (t : Nat → ClassId) (G : GE) (κ : CS) (h : Nat) (post : CS → Prop) (hw : F_Jxc12de_init_da8c8 G h post κ) (sz : Nat) : CMv l D t yJxc12de_init_da8c8 cJxc12de_init_da8c8 1 2 50 G κ sz [.ref h] post := by
  refine c_go (by decide) (Nat.le_of_ble_eq_true rfl) ?_
  intro p e s m below meth c ls A hF hr hlk hin hAe hH hA hE hl
  unfold cB
  rw [hAe]
  clear hAe
  have hF : FX p m c cJxc12de_init_da8c8 1 s _ RJxc12de D t := hF
  have hx := hF.1.1
  have hb := hF.1.2.1
  have hl : lv_has ls 1 [(0, .ref h)] := hl
  unfold F_Jxc12de_init_da8c8 at hw
  refine lv_aload_n hx hb dJxc12de_init_da8c8_0 rfl (lv_at hl 0 rfl) ?_
  refine cw_cI (b := h) (As := []) (rest := []) hF hH hA hE mi_Jxc12de_1 (fun sz => c_Jxa1e45_init_da8c8 l D t G _ h  _ hw sz) dJxc12de_init_da8c8_1 ⟨Nat.le_of_ble_eq_true rfl, Nat.le_of_ble_eq_true rfl⟩ rfl hl.1 (Nat.le_of_ble_eq_true rfl) rfl (fun κ1 H locs cells slots hw hH => ?_)
  refine lv_aload_n hx hb dJxc12de_init_da8c8_4 rfl (lv_at hl 0 rfl) ?_
  refine lv_iconst (v := 0) hx hb dJxc12de_init_da8c8_5 (by decide) ?_
  refine cw_putIr (a := h) (v := 0) hF hH fk_Jxc12de_7 dJxc12de_init_da8c8_6 rfl rfl rfl hw (fun κ3 H locs cells slots hw hH => ?_)
  exact cw_retv hF hH ⟨rfl, rfl⟩ hr hlk dJxc12de_init_da8c8_9 hw
set_option maxRecDepth 100000 in
def F_Jx4a65c_init_da8c8 (G : GE) (h : Nat) (post : CS → Prop) (κ : CS) : Prop := F_Jxc12de_init_da8c8 G h  (fun (κ1 : CS) => (h ∈ sL κ1.1 ∧ sK κ1.1 h = 7) ∧ ∀ κ3 : CS, κ3 = (h_uP κ1.1 h 1 (some G.1), κ1.2) → post κ3) κ
theorem dJx4a65c_init_da8c8_0 : decode cJx4a65c_init_da8c8 0 = .ok (.aload_n 0, 1) := by decide +kernel
theorem dJx4a65c_init_da8c8_1 : decode cJx4a65c_init_da8c8 1 = .ok (.invokespecial 1, 3) := by decide +kernel
theorem dJx4a65c_init_da8c8_4 : decode cJx4a65c_init_da8c8 4 = .ok (.aload_n 0, 1) := by decide +kernel
theorem dJx4a65c_init_da8c8_5 : decode cJx4a65c_init_da8c8 5 = .ok (.getstatic 39, 3) := by decide +kernel
theorem dJx4a65c_init_da8c8_8 : decode cJx4a65c_init_da8c8 8 = .ok (.putfield 9, 3) := by decide +kernel
theorem dJx4a65c_init_da8c8_11 : decode cJx4a65c_init_da8c8 11 = .ok (.return_, 1) := by decide +kernel
set_option maxRecDepth 100000 in
set_option maxHeartbeats 4000000 in
theorem c_Jx4a65c_init_da8c8 (l : Launch) (D : va_G) (t : Nat → ClassId) (G : GE) (κ : CS) (h : Nat) (post : CS → Prop) (hw : F_Jx4a65c_init_da8c8 G h post κ) (sz : Nat) : CMv l D t yJx4a65c_init_da8c8 cJx4a65c_init_da8c8 1 3 70 G κ sz [.ref h] post := by
  refine c_go (by decide) (Nat.le_of_ble_eq_true rfl) ?_
  intro p e s m below meth c ls A hF hr hlk hin hAe hH hA hE hl
  unfold cB
  rw [hAe]
  clear hAe
  have hF : FX p m c cJx4a65c_init_da8c8 1 s _ RJx4a65c D t := hF
  have hx := hF.1.1
  have hb := hF.1.2.1
  have hl : lv_has ls 1 [(0, .ref h)] := hl
  unfold F_Jx4a65c_init_da8c8 at hw
  refine lv_aload_n hx hb dJx4a65c_init_da8c8_0 rfl (lv_at hl 0 rfl) ?_
  refine cw_cI (b := h) (As := []) (rest := []) hF hH hA hE mi_Jx4a65c_1 (fun sz => c_Jxc12de_init_da8c8 l D t G _ h  _ hw sz) dJx4a65c_init_da8c8_1 ⟨Nat.le_of_ble_eq_true rfl, Nat.le_of_ble_eq_true rfl⟩ rfl hl.1 (Nat.le_of_ble_eq_true rfl) rfl (fun κ1 H locs cells slots hw hH => ?_)
  refine lv_aload_n hx hb dJx4a65c_init_da8c8_4 rfl (lv_at hl 0 rfl) ?_
  refine cw_getsE hF hH hE (wc_8 31 rfl) dJx4a65c_init_da8c8_5 ?_
  refine cw_putPr (a := h) (v := (some G.1)) hF hH fk_Jx4a65c_9 dJx4a65c_init_da8c8_8 rfl rfl hw (fun κ3 H locs cells slots hw hH => ?_)
  exact cw_retv hF hH ⟨rfl, rfl⟩ hr hlk dJx4a65c_init_da8c8_11 hw
set_option maxRecDepth 100000 in
def F_J7_fill_53178 (G : GE) (a0 : Option Nat) (a1 : Int32) (post : CS → Prop) (κ : CS) : Prop := ∃ n : Nat, AL G κ a0 n ∧ ∀ z1 : Int32, z1 = nI n → lc (fun (K4 : Int32 → CS → Prop) (x2 : Int32) (κ3 : CS) => ((z1.toInt ≤ x2.toInt) → post κ3) ∧ ((x2.toInt < z1.toInt) → ∃ b : Nat, a0 = some b ∧ (b ∈ sL κ3.1 ∧ sK κ3.1 b = 21) ∧ (0 ≤ x2.toInt ∧ x2.toInt < (sN κ3.1 b : Int)) ∧ ∀ κ6 : CS, κ6 = (h_uI κ3.1 b x2.toInt.toNat a1, κ3.2) → ∀ z7 : Int32, z7 = x2 + 1 → K4 z7 κ6)) 0 κ
theorem dJ7_fill_53178_0 : decode cJ7_fill_53178 0 = .ok (.iconst 0, 1) := by decide +kernel
theorem dJ7_fill_53178_1 : decode cJ7_fill_53178 1 = .ok (.istore_n 2, 1) := by decide +kernel
theorem dJ7_fill_53178_2 : decode cJ7_fill_53178 2 = .ok (.aload_n 0, 1) := by decide +kernel
theorem dJ7_fill_53178_3 : decode cJ7_fill_53178 3 = .ok (.arraylength, 1) := by decide +kernel
theorem dJ7_fill_53178_4 : decode cJ7_fill_53178 4 = .ok (.istore_n 3, 1) := by decide +kernel
theorem dJ7_fill_53178_5 : decode cJ7_fill_53178 5 = .ok (.iload_n 2, 1) := by decide +kernel
theorem dJ7_fill_53178_6 : decode cJ7_fill_53178 6 = .ok (.iload_n 3, 1) := by decide +kernel
theorem dJ7_fill_53178_7 : decode cJ7_fill_53178 7 = .ok (.if_icmp .ge 13, 3) := by decide +kernel
theorem dJ7_fill_53178_10 : decode cJ7_fill_53178 10 = .ok (.aload_n 0, 1) := by decide +kernel
theorem dJ7_fill_53178_11 : decode cJ7_fill_53178 11 = .ok (.iload_n 2, 1) := by decide +kernel
theorem dJ7_fill_53178_12 : decode cJ7_fill_53178 12 = .ok (.iload_n 1, 1) := by decide +kernel
theorem dJ7_fill_53178_13 : decode cJ7_fill_53178 13 = .ok (.iastore, 1) := by decide +kernel
theorem dJ7_fill_53178_14 : decode cJ7_fill_53178 14 = .ok (.iinc 2 1, 3) := by decide +kernel
theorem dJ7_fill_53178_17 : decode cJ7_fill_53178 17 = .ok (.goto (-12), 3) := by decide +kernel
theorem dJ7_fill_53178_20 : decode cJ7_fill_53178 20 = .ok (.return_, 1) := by decide +kernel
set_option maxRecDepth 100000 in
set_option maxHeartbeats 4000000 in
theorem c_J7_fill_53178 (l : Launch) (D : va_G) (t : Nat → ClassId) (G : GE) (κ : CS) (a0 : Option Nat) (a1 : Int32) (post : CS → Prop) (hw : F_J7_fill_53178 G a0 a1 post κ) (sz : Nat) : CMv l D t yJ7_fill_53178 cJ7_fill_53178 4 0 14 G κ sz [va_rf a0, .int a1] post := by
  refine c_go (by decide) (by cases a0 <;> exact Nat.le_of_ble_eq_true rfl) ?_
  intro p e s m below meth c ls A hF hr hlk hin hAe hH hA hE hl
  unfold cB
  rw [hAe]
  clear hAe
  have hF : FX p m c cJ7_fill_53178 4 s _ RJ7 D t := hF
  have hx := hF.1.1
  have hb := hF.1.2.1
  have hl : lv_has ls 4 [(0, va_rf a0), (1, .int a1)] := (by have h2 := hl; clear hw; revert h2; cases a0 <;> exact id)
  unfold F_J7_fill_53178 at hw
  refine lv_iconst (v := 0) hx hb dJ7_fill_53178_0 (by decide) ?_
  refine lv_istore_n (lv' := [(2, .int 0), (0, va_rf a0), (1, .int a1)]) hx hb dJ7_fill_53178_1 rfl hl (by decide) rfl (fun ls hl => ?_)
  refine w_aloadq_n hF dJ7_fill_53178_2 rfl (lv_at hl 1 rfl) ?_
  refine cw_alen (q := a0) hF hH hE dJ7_fill_53178_3 hw (fun z1 hw => ?_)
  refine lv_istore_n (lv' := [(3, .int z1), (2, .int 0), (0, va_rf a0), (1, .int a1)]) hx hb dJ7_fill_53178_4 rfl hl (by decide) rfl (fun ls hl => ?_)
  have hl : lv_has ls 4 [(3, .int z1), (2, .int 0), (1, .int a1), (0, va_rf a0)] := lv_sub hl [0, 1, 3, 2] rfl
  refine cw_loop (β := Int32) (fun x2 => [(3, .int z1), (2, .int x2), (1, .int a1), (0, va_rf a0)]) 0 hl hw hH (fun K4 x2 κ3 ls H locs cells slots hl hw hH ih5 => ?_)
  have hl : lv_has ls 4 [(3, .int z1), (2, .int x2), (1, .int a1), (0, va_rf a0)] := hl
  refine lv_iload_n hx hb dJ7_fill_53178_5 rfl (lv_at hl 1 rfl) ?_
  refine lv_iload_n hx hb dJ7_fill_53178_6 rfl (lv_at hl 0 rfl) ?_
  refine w_icmp_ge (tgt := 20) hF dJ7_fill_53178_7 rfl hw (fun hw => ?_) (fun hw => ?_)
  · exact cw_retv hF hH ⟨rfl, rfl⟩ hr hlk dJ7_fill_53178_20 hw
  · refine w_aloadq_n hF dJ7_fill_53178_10 rfl (lv_at hl 3 rfl) ?_
    refine lv_iload_n hx hb dJ7_fill_53178_11 rfl (lv_at hl 1 rfl) ?_
    refine lv_iload_n hx hb dJ7_fill_53178_12 rfl (lv_at hl 2 rfl) ?_
    refine cw_iast (q := a0) hF hH dJ7_fill_53178_13 hw (fun κ6 H locs cells slots hw hH => ?_)
    obtain ⟨z7, ez7⟩ : ∃ z : Int32, z = x2 + 1 := ⟨_, rfl⟩
    have hw := hw z7 ez7
    refine lv_iinc (lv' := [(2, .int z7), (3, .int z1), (1, .int a1), (0, va_rf a0)]) (k := 1) (v := z7) hx hb dJ7_fill_53178_14 hl rfl ez7.symm (by decide) rfl (fun ls hl => ?_)
    refine lv_goto (tgt := 5) hx hb dJ7_fill_53178_17 rfl ?_
    have hl : lv_has ls 4 [(3, .int z1), (2, .int z7), (1, .int a1), (0, va_rf a0)] := lv_sub hl [1, 0, 2, 3] rfl
    exact ih5 z7 κ6 ls _ _ _ _ hl hw hH
set_option maxRecDepth 100000 in
def F_X11_init (G : GE) (h : Nat) (post : CS → Prop) (κ : CS) : Prop := (2 + 12 ≤ κ.2) ∧ ∀ o2 : Nat, o2 ∉ sL κ.1 → ∀ κ3 : CS, κ3 = (h_uN κ.1 o2 2 0, κ.2 - (2 + 12)) → F_X6_init G o2  (fun (κ4 : CS) => (h ∈ sL κ4.1 ∧ sK κ4.1 h = 1) ∧ ∀ κ6 : CS, κ6 = (h_uP κ4.1 h 0 (some o2), κ4.2) → (0 ≤ (6 : Int32).toInt ∧ (6 : Int32).toInt ≤ 1000000) ∧ ((6 : Int32).toInt.toNat + 12 ≤ κ6.2) ∧ ∀ o7 : Nat, o7 ∉ sL κ6.1 → ∀ κ8 : CS, κ8 = (h_uN κ6.1 o7 25 (6 : Int32).toInt.toNat, κ6.2 - ((6 : Int32).toInt.toNat + 12)) → (h ∈ sL κ8.1 ∧ sK κ8.1 h = 1) ∧ ∀ κ9 : CS, κ9 = (h_uP κ8.1 h 1 (some o7), κ8.2) → (0 ≤ (4 : Int32).toInt ∧ (4 : Int32).toInt ≤ 1000000) ∧ ((4 : Int32).toInt.toNat + 12 ≤ κ9.2) ∧ ∀ o10 : Nat, o10 ∉ sL κ9.1 → ∀ κ11 : CS, κ11 = (h_uN κ9.1 o10 21 (4 : Int32).toInt.toNat, κ9.2 - ((4 : Int32).toInt.toNat + 12)) → (h ∈ sL κ11.1 ∧ sK κ11.1 h = 1) ∧ ∀ κ12 : CS, κ12 = (h_uP κ11.1 h 2 (some o10), κ11.2) → (2 + 12 ≤ κ12.2) ∧ ∀ o13 : Nat, o13 ∉ sL κ12.1 → ∀ κ14 : CS, κ14 = (h_uN κ12.1 o13 6 0, κ12.2 - (2 + 12)) → F_X9_init G o13  (fun (κ15 : CS) => (h ∈ sL κ15.1 ∧ sK κ15.1 h = 1) ∧ ∀ κ17 : CS, κ17 = (h_uP κ15.1 h 3 (some o13), κ15.2) → (2 + 12 ≤ κ17.2) ∧ ∀ o18 : Nat, o18 ∉ sL κ17.1 → ∀ κ19 : CS, κ19 = (h_uN κ17.1 o18 6 0, κ17.2 - (2 + 12)) → F_X9_init G o18  (fun (κ20 : CS) => (h ∈ sL κ20.1 ∧ sK κ20.1 h = 1) ∧ ∀ κ22 : CS, κ22 = (h_uP κ20.1 h 4 (some o18), κ20.2) → (0 ≤ (8 : Int32).toInt ∧ (8 : Int32).toInt ≤ 1000000) ∧ ((8 : Int32).toInt.toNat + 12 ≤ κ22.2) ∧ ∀ o23 : Nat, o23 ∉ sL κ22.1 → ∀ κ24 : CS, κ24 = (h_uN κ22.1 o23 24 (8 : Int32).toInt.toNat, κ22.2 - ((8 : Int32).toInt.toNat + 12)) → (h ∈ sL κ24.1 ∧ sK κ24.1 h = 1) ∧ ∀ κ25 : CS, κ25 = (h_uP κ24.1 h 5 (some o23), κ24.2) → (3 + 12 ≤ κ25.2) ∧ ∀ o26 : Nat, o26 ∉ sL κ25.1 → ∀ κ27 : CS, κ27 = (h_uN κ25.1 o26 7 0, κ25.2 - (3 + 12)) → F_Jx4a65c_init_da8c8 G o26  (fun (κ28 : CS) => (h ∈ sL κ28.1 ∧ sK κ28.1 h = 1) ∧ ∀ κ30 : CS, κ30 = (h_uP κ28.1 h 8 (some o26), κ28.2) → (3 + 12 ≤ κ30.2) ∧ ∀ o31 : Nat, o31 ∉ sL κ30.1 → ∀ κ32 : CS, κ32 = (h_uN κ30.1 o31 7 0, κ30.2 - (3 + 12)) → F_Jx4a65c_init_da8c8 G o31  (fun (κ33 : CS) => (h ∈ sL κ33.1 ∧ sK κ33.1 h = 1) ∧ ∀ κ35 : CS, κ35 = (h_uP κ33.1 h 9 (some o31), κ33.2) → (3 + 12 ≤ κ35.2) ∧ ∀ o36 : Nat, o36 ∉ sL κ35.1 → ∀ κ37 : CS, κ37 = (h_uN κ35.1 o36 7 0, κ35.2 - (3 + 12)) → F_Jx4a65c_init_da8c8 G o36  (fun (κ38 : CS) => (h ∈ sL κ38.1 ∧ sK κ38.1 h = 1) ∧ ∀ κ40 : CS, κ40 = (h_uP κ38.1 h 10 (some o36), κ38.2) → (3 + 12 ≤ κ40.2) ∧ ∀ o41 : Nat, o41 ∉ sL κ40.1 → ∀ κ42 : CS, κ42 = (h_uN κ40.1 o41 7 0, κ40.2 - (3 + 12)) → F_Jx4a65c_init_da8c8 G o41  (fun (κ43 : CS) => (h ∈ sL κ43.1 ∧ sK κ43.1 h = 1) ∧ ∀ κ45 : CS, κ45 = (h_uP κ43.1 h 11 (some o41), κ43.2) → (3 + 12 ≤ κ45.2) ∧ ∀ o46 : Nat, o46 ∉ sL κ45.1 → ∀ κ47 : CS, κ47 = (h_uN κ45.1 o46 7 0, κ45.2 - (3 + 12)) → F_Jx4a65c_init_da8c8 G o46  (fun (κ48 : CS) => (h ∈ sL κ48.1 ∧ sK κ48.1 h = 1) ∧ ∀ κ50 : CS, κ50 = (h_uP κ48.1 h 12 (some o46), κ48.2) → (0 ≤ (4 : Int32).toInt ∧ (4 : Int32).toInt ≤ 1000000) ∧ ((4 : Int32).toInt.toNat + 12 ≤ κ50.2) ∧ ∀ o51 : Nat, o51 ∉ sL κ50.1 → ∀ κ52 : CS, κ52 = (h_uN κ50.1 o51 22 (4 : Int32).toInt.toNat, κ50.2 - ((4 : Int32).toInt.toNat + 12)) → (h ∈ sL κ52.1 ∧ sK κ52.1 h = 1) ∧ ∀ κ53 : CS, κ53 = (h_uP κ52.1 h 13 (some o51), κ52.2) → (2 + 12 ≤ κ53.2) ∧ ∀ o54 : Nat, o54 ∉ sL κ53.1 → ∀ κ55 : CS, κ55 = (h_uN κ53.1 o54 2 0, κ53.2 - (2 + 12)) → F_X6_init G o54  (fun (κ56 : CS) => (h ∈ sL κ56.1 ∧ sK κ56.1 h = 1) ∧ ∀ κ58 : CS, κ58 = (h_uP κ56.1 h 14 (some o54), κ56.2) → (2 + 12 ≤ κ58.2) ∧ ∀ o59 : Nat, o59 ∉ sL κ58.1 → ∀ κ60 : CS, κ60 = (h_uN κ58.1 o59 2 0, κ58.2 - (2 + 12)) → F_X6_init G o59  (fun (κ61 : CS) => (h ∈ sL κ61.1 ∧ sK κ61.1 h = 1) ∧ ∀ κ63 : CS, κ63 = (h_uP κ61.1 h 15 (some o59), κ61.2) → (2 + 12 ≤ κ63.2) ∧ ∀ o64 : Nat, o64 ∉ sL κ63.1 → ∀ κ65 : CS, κ65 = (h_uN κ63.1 o64 2 0, κ63.2 - (2 + 12)) → F_X6_init G o64  (fun (κ66 : CS) => (h ∈ sL κ66.1 ∧ sK κ66.1 h = 1) ∧ ∀ κ68 : CS, κ68 = (h_uP κ66.1 h 16 (some o64), κ66.2) → (2 + 12 ≤ κ68.2) ∧ ∀ o69 : Nat, o69 ∉ sL κ68.1 → ∀ κ70 : CS, κ70 = (h_uN κ68.1 o69 2 0, κ68.2 - (2 + 12)) → F_X6_init G o69  (fun (κ71 : CS) => (h ∈ sL κ71.1 ∧ sK κ71.1 h = 1) ∧ ∀ κ73 : CS, κ73 = (h_uP κ71.1 h 17 (some o69), κ71.2) → lc (fun (K76 : Int32 → CS → Prop) (x74 : Int32) (κ75 : CS) => (h ∈ sL κ75.1 ∧ sK κ75.1 h = 1) ∧ ∀ z78 : Option Nat, z78 = sP κ75.1 h 1 → ∃ n : Nat, AL G κ75 z78 n ∧ ∀ z79 : Int32, z79 = nI n → ((z79.toInt ≤ x74.toInt) → lc (fun (K82 : Int32 → CS → Prop) (x80 : Int32) (κ81 : CS) => (h ∈ sL κ81.1 ∧ sK κ81.1 h = 1) ∧ ∀ z84 : Option Nat, z84 = sP κ81.1 h 5 → ∃ n : Nat, AL G κ81 z84 n ∧ ∀ z85 : Int32, z85 = nI n → ((z85.toInt ≤ x80.toInt) → (h ∈ sL κ81.1 ∧ sK κ81.1 h = 1) ∧ ∀ z86 : Option Nat, z86 = sP κ81.1 h 2 → F_J7_fill_53178 G z86 (-1) (fun (κ87 : CS) => post κ87) κ81) ∧ ((x80.toInt < z85.toInt) → (h ∈ sL κ81.1 ∧ sK κ81.1 h = 1) ∧ ∀ z89 : Option Nat, z89 = sP κ81.1 h 5 → (15 + 12 ≤ κ81.2) ∧ ∀ o90 : Nat, o90 ∉ sL κ81.1 → ∀ κ91 : CS, κ91 = (h_uN κ81.1 o90 4 0, κ81.2 - (15 + 12)) → F_X1_init G o90  (fun (κ92 : CS) => ∃ b : Nat, z89 = some b ∧ (b ∈ sL κ92.1 ∧ 24 ≤ sK κ92.1 b ∧ sK κ92.1 b < 28) ∧ (0 ≤ x80.toInt ∧ x80.toInt < (sN κ92.1 b : Int)) ∧ ((some o90) = none ∨ ∃ e : Nat, (some o90) = some e ∧ e ∈ sL κ92.1 ∧ stOk (sK κ92.1 b) (sK κ92.1 e) = true) ∧ ∀ κ94 : CS, κ94 = (h_uP κ92.1 b x80.toInt.toNat (some o90), κ92.2) → ∀ z95 : Int32, z95 = x80 + 1 → K82 z95 κ94) κ91)) 0 κ75) ∧ ((x74.toInt < z79.toInt) → (h ∈ sL κ75.1 ∧ sK κ75.1 h = 1) ∧ ∀ z96 : Option Nat, z96 = sP κ75.1 h 1 → (15 + 12 ≤ κ75.2) ∧ ∀ o97 : Nat, o97 ∉ sL κ75.1 → ∀ κ98 : CS, κ98 = (h_uN κ75.1 o97 3 0, κ75.2 - (15 + 12)) → F_X2_init G o97  (fun (κ99 : CS) => ∃ b : Nat, z96 = some b ∧ (b ∈ sL κ99.1 ∧ 24 ≤ sK κ99.1 b ∧ sK κ99.1 b < 28) ∧ (0 ≤ x74.toInt ∧ x74.toInt < (sN κ99.1 b : Int)) ∧ ((some o97) = none ∨ ∃ e : Nat, (some o97) = some e ∧ e ∈ sL κ99.1 ∧ stOk (sK κ99.1 b) (sK κ99.1 e) = true) ∧ ∀ κ101 : CS, κ101 = (h_uP κ99.1 b x74.toInt.toNat (some o97), κ99.2) → ∀ z102 : Int32, z102 = x74 + 1 → K76 z102 κ101) κ98)) 0 κ73) κ70) κ65) κ60) κ55) κ47) κ42) κ37) κ32) κ27) κ19) κ14) κ3
theorem dX11_init_0 : decode cX11_init 0 = .ok (.aload_n 0, 1) := by decide +kernel
theorem dX11_init_1 : decode cX11_init 1 = .ok (.invokespecial 1, 3) := by decide +kernel
theorem dX11_init_4 : decode cX11_init 4 = .ok (.aload_n 0, 1) := by decide +kernel
theorem dX11_init_5 : decode cX11_init 5 = .ok (.new 7, 3) := by decide +kernel
theorem dX11_init_8 : decode cX11_init 8 = .ok (.dup, 1) := by decide +kernel
theorem dX11_init_9 : decode cX11_init 9 = .ok (.invokespecial 9, 3) := by decide +kernel
theorem dX11_init_12 : decode cX11_init 12 = .ok (.putfield 10, 3) := by decide +kernel
theorem dX11_init_15 : decode cX11_init 15 = .ok (.aload_n 0, 1) := by decide +kernel
theorem dX11_init_16 : decode cX11_init 16 = .ok (.bipush 6, 2) := by decide +kernel
theorem dX11_init_18 : decode cX11_init 18 = .ok (.anewarray 16, 3) := by decide +kernel
theorem dX11_init_21 : decode cX11_init 21 = .ok (.putfield 18, 3) := by decide +kernel
theorem dX11_init_24 : decode cX11_init 24 = .ok (.aload_n 0, 1) := by decide +kernel
theorem dX11_init_25 : decode cX11_init 25 = .ok (.iconst 4, 1) := by decide +kernel
theorem dX11_init_26 : decode cX11_init 26 = .ok (.newarray .int, 2) := by decide +kernel
theorem dX11_init_28 : decode cX11_init 28 = .ok (.putfield 22, 3) := by decide +kernel
theorem dX11_init_31 : decode cX11_init 31 = .ok (.aload_n 0, 1) := by decide +kernel
theorem dX11_init_32 : decode cX11_init 32 = .ok (.new 26, 3) := by decide +kernel
theorem dX11_init_35 : decode cX11_init 35 = .ok (.dup, 1) := by decide +kernel
theorem dX11_init_36 : decode cX11_init 36 = .ok (.invokespecial 28, 3) := by decide +kernel
theorem dX11_init_39 : decode cX11_init 39 = .ok (.putfield 29, 3) := by decide +kernel
theorem dX11_init_42 : decode cX11_init 42 = .ok (.aload_n 0, 1) := by decide +kernel
theorem dX11_init_43 : decode cX11_init 43 = .ok (.new 26, 3) := by decide +kernel
theorem dX11_init_46 : decode cX11_init 46 = .ok (.dup, 1) := by decide +kernel
theorem dX11_init_47 : decode cX11_init 47 = .ok (.invokespecial 28, 3) := by decide +kernel
theorem dX11_init_50 : decode cX11_init 50 = .ok (.putfield 33, 3) := by decide +kernel
theorem dX11_init_53 : decode cX11_init 53 = .ok (.aload_n 0, 1) := by decide +kernel
theorem dX11_init_54 : decode cX11_init 54 = .ok (.bipush 8, 2) := by decide +kernel
theorem dX11_init_56 : decode cX11_init 56 = .ok (.anewarray 36, 3) := by decide +kernel
theorem dX11_init_59 : decode cX11_init 59 = .ok (.putfield 38, 3) := by decide +kernel
theorem dX11_init_62 : decode cX11_init 62 = .ok (.aload_n 0, 1) := by decide +kernel
theorem dX11_init_63 : decode cX11_init 63 = .ok (.new 42, 3) := by decide +kernel
theorem dX11_init_66 : decode cX11_init 66 = .ok (.dup, 1) := by decide +kernel
theorem dX11_init_67 : decode cX11_init 67 = .ok (.invokespecial 44, 3) := by decide +kernel
theorem dX11_init_70 : decode cX11_init 70 = .ok (.putfield 45, 3) := by decide +kernel
theorem dX11_init_73 : decode cX11_init 73 = .ok (.aload_n 0, 1) := by decide +kernel
theorem dX11_init_74 : decode cX11_init 74 = .ok (.new 42, 3) := by decide +kernel
theorem dX11_init_77 : decode cX11_init 77 = .ok (.dup, 1) := by decide +kernel
theorem dX11_init_78 : decode cX11_init 78 = .ok (.invokespecial 44, 3) := by decide +kernel
theorem dX11_init_81 : decode cX11_init 81 = .ok (.putfield 49, 3) := by decide +kernel
theorem dX11_init_84 : decode cX11_init 84 = .ok (.aload_n 0, 1) := by decide +kernel
theorem dX11_init_85 : decode cX11_init 85 = .ok (.new 42, 3) := by decide +kernel
theorem dX11_init_88 : decode cX11_init 88 = .ok (.dup, 1) := by decide +kernel
theorem dX11_init_89 : decode cX11_init 89 = .ok (.invokespecial 44, 3) := by decide +kernel
theorem dX11_init_92 : decode cX11_init 92 = .ok (.putfield 52, 3) := by decide +kernel
theorem dX11_init_95 : decode cX11_init 95 = .ok (.aload_n 0, 1) := by decide +kernel
theorem dX11_init_96 : decode cX11_init 96 = .ok (.new 42, 3) := by decide +kernel
theorem dX11_init_99 : decode cX11_init 99 = .ok (.dup, 1) := by decide +kernel
theorem dX11_init_100 : decode cX11_init 100 = .ok (.invokespecial 44, 3) := by decide +kernel
theorem dX11_init_103 : decode cX11_init 103 = .ok (.putfield 55, 3) := by decide +kernel
theorem dX11_init_106 : decode cX11_init 106 = .ok (.aload_n 0, 1) := by decide +kernel
theorem dX11_init_107 : decode cX11_init 107 = .ok (.new 42, 3) := by decide +kernel
theorem dX11_init_110 : decode cX11_init 110 = .ok (.dup, 1) := by decide +kernel
theorem dX11_init_111 : decode cX11_init 111 = .ok (.invokespecial 44, 3) := by decide +kernel
theorem dX11_init_114 : decode cX11_init 114 = .ok (.putfield 58, 3) := by decide +kernel
theorem dX11_init_117 : decode cX11_init 117 = .ok (.aload_n 0, 1) := by decide +kernel
theorem dX11_init_118 : decode cX11_init 118 = .ok (.iconst 4, 1) := by decide +kernel
theorem dX11_init_119 : decode cX11_init 119 = .ok (.newarray .long, 2) := by decide +kernel
theorem dX11_init_121 : decode cX11_init 121 = .ok (.putfield 61, 3) := by decide +kernel
theorem dX11_init_124 : decode cX11_init 124 = .ok (.aload_n 0, 1) := by decide +kernel
theorem dX11_init_125 : decode cX11_init 125 = .ok (.new 7, 3) := by decide +kernel
theorem dX11_init_128 : decode cX11_init 128 = .ok (.dup, 1) := by decide +kernel
theorem dX11_init_129 : decode cX11_init 129 = .ok (.invokespecial 9, 3) := by decide +kernel
theorem dX11_init_132 : decode cX11_init 132 = .ok (.putfield 65, 3) := by decide +kernel
theorem dX11_init_135 : decode cX11_init 135 = .ok (.aload_n 0, 1) := by decide +kernel
theorem dX11_init_136 : decode cX11_init 136 = .ok (.new 7, 3) := by decide +kernel
theorem dX11_init_139 : decode cX11_init 139 = .ok (.dup, 1) := by decide +kernel
theorem dX11_init_140 : decode cX11_init 140 = .ok (.invokespecial 9, 3) := by decide +kernel
theorem dX11_init_143 : decode cX11_init 143 = .ok (.putfield 68, 3) := by decide +kernel
theorem dX11_init_146 : decode cX11_init 146 = .ok (.aload_n 0, 1) := by decide +kernel
theorem dX11_init_147 : decode cX11_init 147 = .ok (.new 7, 3) := by decide +kernel
theorem dX11_init_150 : decode cX11_init 150 = .ok (.dup, 1) := by decide +kernel
theorem dX11_init_151 : decode cX11_init 151 = .ok (.invokespecial 9, 3) := by decide +kernel
theorem dX11_init_154 : decode cX11_init 154 = .ok (.putfield 71, 3) := by decide +kernel
theorem dX11_init_157 : decode cX11_init 157 = .ok (.aload_n 0, 1) := by decide +kernel
theorem dX11_init_158 : decode cX11_init 158 = .ok (.new 7, 3) := by decide +kernel
theorem dX11_init_161 : decode cX11_init 161 = .ok (.dup, 1) := by decide +kernel
theorem dX11_init_162 : decode cX11_init 162 = .ok (.invokespecial 9, 3) := by decide +kernel
theorem dX11_init_165 : decode cX11_init 165 = .ok (.putfield 74, 3) := by decide +kernel
theorem dX11_init_168 : decode cX11_init 168 = .ok (.iconst 0, 1) := by decide +kernel
theorem dX11_init_169 : decode cX11_init 169 = .ok (.istore_n 1, 1) := by decide +kernel
theorem dX11_init_170 : decode cX11_init 170 = .ok (.iload_n 1, 1) := by decide +kernel
theorem dX11_init_171 : decode cX11_init 171 = .ok (.aload_n 0, 1) := by decide +kernel
theorem dX11_init_172 : decode cX11_init 172 = .ok (.getfield 18, 3) := by decide +kernel
theorem dX11_init_175 : decode cX11_init 175 = .ok (.arraylength, 1) := by decide +kernel
theorem dX11_init_176 : decode cX11_init 176 = .ok (.if_icmp .ge 22, 3) := by decide +kernel
theorem dX11_init_179 : decode cX11_init 179 = .ok (.aload_n 0, 1) := by decide +kernel
theorem dX11_init_180 : decode cX11_init 180 = .ok (.getfield 18, 3) := by decide +kernel
theorem dX11_init_183 : decode cX11_init 183 = .ok (.iload_n 1, 1) := by decide +kernel
theorem dX11_init_184 : decode cX11_init 184 = .ok (.new 16, 3) := by decide +kernel
theorem dX11_init_187 : decode cX11_init 187 = .ok (.dup, 1) := by decide +kernel
theorem dX11_init_188 : decode cX11_init 188 = .ok (.invokespecial 77, 3) := by decide +kernel
theorem dX11_init_191 : decode cX11_init 191 = .ok (.aastore, 1) := by decide +kernel
theorem dX11_init_192 : decode cX11_init 192 = .ok (.iinc 1 1, 3) := by decide +kernel
theorem dX11_init_195 : decode cX11_init 195 = .ok (.goto (-25), 3) := by decide +kernel
theorem dX11_init_198 : decode cX11_init 198 = .ok (.iconst 0, 1) := by decide +kernel
theorem dX11_init_199 : decode cX11_init 199 = .ok (.istore_n 1, 1) := by decide +kernel
theorem dX11_init_200 : decode cX11_init 200 = .ok (.iload_n 1, 1) := by decide +kernel
theorem dX11_init_201 : decode cX11_init 201 = .ok (.aload_n 0, 1) := by decide +kernel
theorem dX11_init_202 : decode cX11_init 202 = .ok (.getfield 38, 3) := by decide +kernel
theorem dX11_init_205 : decode cX11_init 205 = .ok (.arraylength, 1) := by decide +kernel
theorem dX11_init_206 : decode cX11_init 206 = .ok (.if_icmp .ge 22, 3) := by decide +kernel
theorem dX11_init_209 : decode cX11_init 209 = .ok (.aload_n 0, 1) := by decide +kernel
theorem dX11_init_210 : decode cX11_init 210 = .ok (.getfield 38, 3) := by decide +kernel
theorem dX11_init_213 : decode cX11_init 213 = .ok (.iload_n 1, 1) := by decide +kernel
theorem dX11_init_214 : decode cX11_init 214 = .ok (.new 36, 3) := by decide +kernel
theorem dX11_init_217 : decode cX11_init 217 = .ok (.dup, 1) := by decide +kernel
theorem dX11_init_218 : decode cX11_init 218 = .ok (.invokespecial 78, 3) := by decide +kernel
theorem dX11_init_221 : decode cX11_init 221 = .ok (.aastore, 1) := by decide +kernel
theorem dX11_init_222 : decode cX11_init 222 = .ok (.iinc 1 1, 3) := by decide +kernel
theorem dX11_init_225 : decode cX11_init 225 = .ok (.goto (-25), 3) := by decide +kernel
theorem dX11_init_228 : decode cX11_init 228 = .ok (.aload_n 0, 1) := by decide +kernel
theorem dX11_init_229 : decode cX11_init 229 = .ok (.getfield 22, 3) := by decide +kernel
theorem dX11_init_232 : decode cX11_init 232 = .ok (.iconst (-1), 1) := by decide +kernel
theorem dX11_init_233 : decode cX11_init 233 = .ok (.invokestatic 79, 3) := by decide +kernel
theorem dX11_init_236 : decode cX11_init 236 = .ok (.return_, 1) := by decide +kernel
set_option maxRecDepth 100000 in
set_option maxHeartbeats 4000000 in
theorem c_X11_init (l : Launch) (D : va_G) (t : Nat → ClassId) (G : GE) (κ : CS) (h : Nat) (post : CS → Prop) (hw : F_X11_init G h post κ) (sz : Nat) : CMv l D t yX11_init cX11_init 2 4 90 G κ sz [.ref h] post := by
  refine c_go (by decide) (Nat.le_of_ble_eq_true rfl) ?_
  intro p e s m below meth c ls A hF hr hlk hin hAe hH hA hE hl
  unfold cB
  rw [hAe]
  clear hAe
  have hF : FX p m c cX11_init 2 s _ RX11 D t := hF
  have hx := hF.1.1
  have hb := hF.1.2.1
  have hl : lv_has ls 2 [(0, .ref h)] := hl
  unfold F_X11_init at hw
  refine lv_aload_n hx hb dX11_init_0 rfl (lv_at hl 0 rfl) ?_
  refine W.objInit hx hb hF.1.2.2.2.1 (hF.1.2.2.2.2 _ (wc_7 10 rfl)) (hF.1.2.2.2.2 _ (wc_5 1 rfl)) (hF.1.2.2.2.2 _ (wc_5 0 rfl)) rfl (hl.1.trans hF.1.2.2.1.symm) rfl dX11_init_1 (Nat.le_of_ble_eq_true rfl) (Nat.le_of_ble_eq_true rfl) ?_
  refine lv_aload_n hx hb dX11_init_4 rfl (lv_at hl 0 rfl) ?_
  refine cw_new hF hH hA ci_X6 (by decide) rfl df_X6 dX11_init_5 (wc_7 11 rfl) (wc_5 26 rfl) (wc_5 6 rfl) hw (fun o2 κ3 H locs cells slots hw hH => ?_)
  refine lv_dup hx hb dX11_init_8 rfl ?_
  refine cw_cIN (b := o2) (As := []) (rest := [.ref o2, .ref h]) hF hH hA hE min_X11_9 (fun sz => c_X6_init l D t G _ o2  _ hw sz) dX11_init_9 ⟨Nat.le_of_ble_eq_true rfl, Nat.le_of_ble_eq_true rfl⟩ rfl hl.1 (Nat.le_of_ble_eq_true rfl) rfl (fun κ4 H locs cells slots hw hH => ?_)
  refine cw_putFP (a := h) (v := (some o2)) hF hH fk_X11_10 dX11_init_12 hin rfl rfl rfl hw (fun κ6 H locs cells slots hw hH => ?_)
  refine lv_aload_n hx hb dX11_init_15 rfl (lv_at hl 0 rfl) ?_
  refine lv_bipush (v := 6) hx hb dX11_init_16 (by decide) ?_
  refine cw_anew 25 (by decide) hF hH hA (wc_7 12 rfl) (by decide) rfl dX11_init_18 hw (fun o7 κ8 H locs cells slots hw hH => ?_)
  refine cw_putFP (a := h) (v := (some o7)) hF hH fk_X11_18 dX11_init_21 hin rfl rfl rfl hw (fun κ9 H locs cells slots hw hH => ?_)
  refine lv_aload_n hx hb dX11_init_24 rfl (lv_at hl 0 rfl) ?_
  refine lv_iconst (v := 4) hx hb dX11_init_25 (by decide) ?_
  refine cw_newarr_int hF hH hA (wc_6 20 rfl) dX11_init_26 hw (fun o10 κ11 H locs cells slots hw hH => ?_)
  refine cw_putFP (a := h) (v := (some o10)) hF hH fk_X11_22 dX11_init_28 hin rfl rfl rfl hw (fun κ12 H locs cells slots hw hH => ?_)
  refine lv_aload_n hx hb dX11_init_31 rfl (lv_at hl 0 rfl) ?_
  refine cw_new hF hH hA ci_X9 (by decide) rfl df_X9 dX11_init_32 (wc_7 13 rfl) (wc_7 14 rfl) (wc_6 38 rfl) hw (fun o13 κ14 H locs cells slots hw hH => ?_)
  refine lv_dup hx hb dX11_init_35 rfl ?_
  refine cw_cI (b := o13) (As := []) (rest := [.ref o13, .ref h]) hF hH hA hE mi_X11_28 (fun sz => c_X9_init l D t G _ o13  _ hw sz) dX11_init_36 ⟨Nat.le_of_ble_eq_true rfl, Nat.le_of_ble_eq_true rfl⟩ rfl hl.1 (Nat.le_of_ble_eq_true rfl) rfl (fun κ15 H locs cells slots hw hH => ?_)
  refine cw_putFP (a := h) (v := (some o13)) hF hH fk_X11_29 dX11_init_39 hin rfl rfl rfl hw (fun κ17 H locs cells slots hw hH => ?_)
  refine lv_aload_n hx hb dX11_init_42 rfl (lv_at hl 0 rfl) ?_
  refine cw_new hF hH hA ci_X9 (by decide) rfl df_X9 dX11_init_43 (wc_7 13 rfl) (wc_7 14 rfl) (wc_6 38 rfl) hw (fun o18 κ19 H locs cells slots hw hH => ?_)
  refine lv_dup hx hb dX11_init_46 rfl ?_
  refine cw_cI (b := o18) (As := []) (rest := [.ref o18, .ref h]) hF hH hA hE mi_X11_28 (fun sz => c_X9_init l D t G _ o18  _ hw sz) dX11_init_47 ⟨Nat.le_of_ble_eq_true rfl, Nat.le_of_ble_eq_true rfl⟩ rfl hl.1 (Nat.le_of_ble_eq_true rfl) rfl (fun κ20 H locs cells slots hw hH => ?_)
  refine cw_putFP (a := h) (v := (some o18)) hF hH fk_X11_33 dX11_init_50 hin rfl rfl rfl hw (fun κ22 H locs cells slots hw hH => ?_)
  refine lv_aload_n hx hb dX11_init_53 rfl (lv_at hl 0 rfl) ?_
  refine lv_bipush (v := 8) hx hb dX11_init_54 (by decide) ?_
  refine cw_anew 24 (by decide) hF hH hA (wc_7 18 rfl) (by decide) rfl dX11_init_56 hw (fun o23 κ24 H locs cells slots hw hH => ?_)
  refine cw_putFP (a := h) (v := (some o23)) hF hH fk_X11_38 dX11_init_59 hin rfl rfl rfl hw (fun κ25 H locs cells slots hw hH => ?_)
  refine lv_aload_n hx hb dX11_init_62 rfl (lv_at hl 0 rfl) ?_
  refine cw_new hF hH hA ci_Jx4a65c (by decide) rfl df_Jx4a65c dX11_init_63 (wc_7 19 rfl) (wc_7 21 rfl) (wc_7 20 rfl) hw (fun o26 κ27 H locs cells slots hw hH => ?_)
  refine lv_dup hx hb dX11_init_66 rfl ?_
  refine cw_cI (b := o26) (As := []) (rest := [.ref o26, .ref h]) hF hH hA hE mi_X11_44 (fun sz => c_Jx4a65c_init_da8c8 l D t G _ o26  _ hw sz) dX11_init_67 ⟨Nat.le_of_ble_eq_true rfl, Nat.le_of_ble_eq_true rfl⟩ rfl hl.1 (Nat.le_of_ble_eq_true rfl) rfl (fun κ28 H locs cells slots hw hH => ?_)
  refine cw_putFP (a := h) (v := (some o26)) hF hH fk_X11_45 dX11_init_70 hin rfl rfl rfl hw (fun κ30 H locs cells slots hw hH => ?_)
  refine lv_aload_n hx hb dX11_init_73 rfl (lv_at hl 0 rfl) ?_
  refine cw_new hF hH hA ci_Jx4a65c (by decide) rfl df_Jx4a65c dX11_init_74 (wc_7 19 rfl) (wc_7 21 rfl) (wc_7 20 rfl) hw (fun o31 κ32 H locs cells slots hw hH => ?_)
  refine lv_dup hx hb dX11_init_77 rfl ?_
  refine cw_cI (b := o31) (As := []) (rest := [.ref o31, .ref h]) hF hH hA hE mi_X11_44 (fun sz => c_Jx4a65c_init_da8c8 l D t G _ o31  _ hw sz) dX11_init_78 ⟨Nat.le_of_ble_eq_true rfl, Nat.le_of_ble_eq_true rfl⟩ rfl hl.1 (Nat.le_of_ble_eq_true rfl) rfl (fun κ33 H locs cells slots hw hH => ?_)
  refine cw_putFP (a := h) (v := (some o31)) hF hH fk_X11_49 dX11_init_81 hin rfl rfl rfl hw (fun κ35 H locs cells slots hw hH => ?_)
  refine lv_aload_n hx hb dX11_init_84 rfl (lv_at hl 0 rfl) ?_
  refine cw_new hF hH hA ci_Jx4a65c (by decide) rfl df_Jx4a65c dX11_init_85 (wc_7 19 rfl) (wc_7 21 rfl) (wc_7 20 rfl) hw (fun o36 κ37 H locs cells slots hw hH => ?_)
  refine lv_dup hx hb dX11_init_88 rfl ?_
  refine cw_cI (b := o36) (As := []) (rest := [.ref o36, .ref h]) hF hH hA hE mi_X11_44 (fun sz => c_Jx4a65c_init_da8c8 l D t G _ o36  _ hw sz) dX11_init_89 ⟨Nat.le_of_ble_eq_true rfl, Nat.le_of_ble_eq_true rfl⟩ rfl hl.1 (Nat.le_of_ble_eq_true rfl) rfl (fun κ38 H locs cells slots hw hH => ?_)
  refine cw_putFP (a := h) (v := (some o36)) hF hH fk_X11_52 dX11_init_92 hin rfl rfl rfl hw (fun κ40 H locs cells slots hw hH => ?_)
  refine lv_aload_n hx hb dX11_init_95 rfl (lv_at hl 0 rfl) ?_
  refine cw_new hF hH hA ci_Jx4a65c (by decide) rfl df_Jx4a65c dX11_init_96 (wc_7 19 rfl) (wc_7 21 rfl) (wc_7 20 rfl) hw (fun o41 κ42 H locs cells slots hw hH => ?_)
  refine lv_dup hx hb dX11_init_99 rfl ?_
  refine cw_cI (b := o41) (As := []) (rest := [.ref o41, .ref h]) hF hH hA hE mi_X11_44 (fun sz => c_Jx4a65c_init_da8c8 l D t G _ o41  _ hw sz) dX11_init_100 ⟨Nat.le_of_ble_eq_true rfl, Nat.le_of_ble_eq_true rfl⟩ rfl hl.1 (Nat.le_of_ble_eq_true rfl) rfl (fun κ43 H locs cells slots hw hH => ?_)
  refine cw_putFP (a := h) (v := (some o41)) hF hH fk_X11_55 dX11_init_103 hin rfl rfl rfl hw (fun κ45 H locs cells slots hw hH => ?_)
  refine lv_aload_n hx hb dX11_init_106 rfl (lv_at hl 0 rfl) ?_
  refine cw_new hF hH hA ci_Jx4a65c (by decide) rfl df_Jx4a65c dX11_init_107 (wc_7 19 rfl) (wc_7 21 rfl) (wc_7 20 rfl) hw (fun o46 κ47 H locs cells slots hw hH => ?_)
  refine lv_dup hx hb dX11_init_110 rfl ?_
  refine cw_cI (b := o46) (As := []) (rest := [.ref o46, .ref h]) hF hH hA hE mi_X11_44 (fun sz => c_Jx4a65c_init_da8c8 l D t G _ o46  _ hw sz) dX11_init_111 ⟨Nat.le_of_ble_eq_true rfl, Nat.le_of_ble_eq_true rfl⟩ rfl hl.1 (Nat.le_of_ble_eq_true rfl) rfl (fun κ48 H locs cells slots hw hH => ?_)
  refine cw_putFP (a := h) (v := (some o46)) hF hH fk_X11_58 dX11_init_114 hin rfl rfl rfl hw (fun κ50 H locs cells slots hw hH => ?_)
  refine lv_aload_n hx hb dX11_init_117 rfl (lv_at hl 0 rfl) ?_
  refine lv_iconst (v := 4) hx hb dX11_init_118 (by decide) ?_
  refine cw_newarr_long hF hH hA (wc_10 26 rfl) dX11_init_119 hw (fun o51 κ52 H locs cells slots hw hH => ?_)
  refine cw_putFP (a := h) (v := (some o51)) hF hH fk_X11_61 dX11_init_121 hin rfl rfl rfl hw (fun κ53 H locs cells slots hw hH => ?_)
  refine lv_aload_n hx hb dX11_init_124 rfl (lv_at hl 0 rfl) ?_
  refine cw_new hF hH hA ci_X6 (by decide) rfl df_X6 dX11_init_125 (wc_7 11 rfl) (wc_5 26 rfl) (wc_5 6 rfl) hw (fun o54 κ55 H locs cells slots hw hH => ?_)
  refine lv_dup hx hb dX11_init_128 rfl ?_
  refine cw_cIN (b := o54) (As := []) (rest := [.ref o54, .ref h]) hF hH hA hE min_X11_9 (fun sz => c_X6_init l D t G _ o54  _ hw sz) dX11_init_129 ⟨Nat.le_of_ble_eq_true rfl, Nat.le_of_ble_eq_true rfl⟩ rfl hl.1 (Nat.le_of_ble_eq_true rfl) rfl (fun κ56 H locs cells slots hw hH => ?_)
  refine cw_putFP (a := h) (v := (some o54)) hF hH fk_X11_65 dX11_init_132 hin rfl rfl rfl hw (fun κ58 H locs cells slots hw hH => ?_)
  refine lv_aload_n hx hb dX11_init_135 rfl (lv_at hl 0 rfl) ?_
  refine cw_new hF hH hA ci_X6 (by decide) rfl df_X6 dX11_init_136 (wc_7 11 rfl) (wc_5 26 rfl) (wc_5 6 rfl) hw (fun o59 κ60 H locs cells slots hw hH => ?_)
  refine lv_dup hx hb dX11_init_139 rfl ?_
  refine cw_cIN (b := o59) (As := []) (rest := [.ref o59, .ref h]) hF hH hA hE min_X11_9 (fun sz => c_X6_init l D t G _ o59  _ hw sz) dX11_init_140 ⟨Nat.le_of_ble_eq_true rfl, Nat.le_of_ble_eq_true rfl⟩ rfl hl.1 (Nat.le_of_ble_eq_true rfl) rfl (fun κ61 H locs cells slots hw hH => ?_)
  refine cw_putFP (a := h) (v := (some o59)) hF hH fk_X11_68 dX11_init_143 hin rfl rfl rfl hw (fun κ63 H locs cells slots hw hH => ?_)
  refine lv_aload_n hx hb dX11_init_146 rfl (lv_at hl 0 rfl) ?_
  refine cw_new hF hH hA ci_X6 (by decide) rfl df_X6 dX11_init_147 (wc_7 11 rfl) (wc_5 26 rfl) (wc_5 6 rfl) hw (fun o64 κ65 H locs cells slots hw hH => ?_)
  refine lv_dup hx hb dX11_init_150 rfl ?_
  refine cw_cIN (b := o64) (As := []) (rest := [.ref o64, .ref h]) hF hH hA hE min_X11_9 (fun sz => c_X6_init l D t G _ o64  _ hw sz) dX11_init_151 ⟨Nat.le_of_ble_eq_true rfl, Nat.le_of_ble_eq_true rfl⟩ rfl hl.1 (Nat.le_of_ble_eq_true rfl) rfl (fun κ66 H locs cells slots hw hH => ?_)
  refine cw_putFP (a := h) (v := (some o64)) hF hH fk_X11_71 dX11_init_154 hin rfl rfl rfl hw (fun κ68 H locs cells slots hw hH => ?_)
  refine lv_aload_n hx hb dX11_init_157 rfl (lv_at hl 0 rfl) ?_
  refine cw_new hF hH hA ci_X6 (by decide) rfl df_X6 dX11_init_158 (wc_7 11 rfl) (wc_5 26 rfl) (wc_5 6 rfl) hw (fun o69 κ70 H locs cells slots hw hH => ?_)
  refine lv_dup hx hb dX11_init_161 rfl ?_
  refine cw_cIN (b := o69) (As := []) (rest := [.ref o69, .ref h]) hF hH hA hE min_X11_9 (fun sz => c_X6_init l D t G _ o69  _ hw sz) dX11_init_162 ⟨Nat.le_of_ble_eq_true rfl, Nat.le_of_ble_eq_true rfl⟩ rfl hl.1 (Nat.le_of_ble_eq_true rfl) rfl (fun κ71 H locs cells slots hw hH => ?_)
  refine cw_putFP (a := h) (v := (some o69)) hF hH fk_X11_74 dX11_init_165 hin rfl rfl rfl hw (fun κ73 H locs cells slots hw hH => ?_)
  refine lv_iconst (v := 0) hx hb dX11_init_168 (by decide) ?_
  refine lv_istore_n (lv' := [(1, .int 0), (0, .ref h)]) hx hb dX11_init_169 rfl hl (by decide) rfl (fun ls hl => ?_)
  refine cw_loop (β := Int32) (fun x74 => [(1, .int x74), (0, .ref h)]) 0 hl hw hH (fun K76 x74 κ75 ls H locs cells slots hl hw hH ih77 => ?_)
  have hl : lv_has ls 2 [(1, .int x74), (0, .ref h)] := hl
  refine lv_iload_n hx hb dX11_init_170 rfl (lv_at hl 0 rfl) ?_
  refine lv_aload_n hx hb dX11_init_171 rfl (lv_at hl 1 rfl) ?_
  refine cw_getPr (a := h) hF hH fk_X11_18 dX11_init_172 hw (fun z78 hw => ?_)
  refine cw_alen (q := z78) hF hH hE dX11_init_175 hw (fun z79 hw => ?_)
  refine w_icmp_ge (tgt := 198) hF dX11_init_176 rfl hw (fun hw => ?_) (fun hw => ?_)
  · refine lv_iconst (v := 0) hx hb dX11_init_198 (by decide) ?_
    refine lv_istore_n (lv' := [(1, .int 0), (0, .ref h)]) hx hb dX11_init_199 rfl hl (by decide) rfl (fun ls hl => ?_)
    refine cw_loop (β := Int32) (fun x80 => [(1, .int x80), (0, .ref h)]) 0 hl hw hH (fun K82 x80 κ81 ls H locs cells slots hl hw hH ih83 => ?_)
    have hl : lv_has ls 2 [(1, .int x80), (0, .ref h)] := hl
    refine lv_iload_n hx hb dX11_init_200 rfl (lv_at hl 0 rfl) ?_
    refine lv_aload_n hx hb dX11_init_201 rfl (lv_at hl 1 rfl) ?_
    refine cw_getPr (a := h) hF hH fk_X11_38 dX11_init_202 hw (fun z84 hw => ?_)
    refine cw_alen (q := z84) hF hH hE dX11_init_205 hw (fun z85 hw => ?_)
    refine w_icmp_ge (tgt := 228) hF dX11_init_206 rfl hw (fun hw => ?_) (fun hw => ?_)
    · refine lv_aload_n hx hb dX11_init_228 rfl (lv_at hl 1 rfl) ?_
      refine cw_getPr (a := h) hF hH fk_X11_22 dX11_init_229 hw (fun z86 hw => ?_)
      refine lv_iconst (v := (-1)) hx hb dX11_init_232 (by decide) ?_
      refine cw_cSv (As := [va_rf z86, .int (-1)]) (rest := []) hF hH hA hE ms_X11_79 (fun sz => c_J7_fill_53178 l D t G _ z86 (-1) _ hw sz) dX11_init_233 ⟨Nat.le_of_ble_eq_true rfl, Nat.le_of_ble_eq_true rfl⟩ rfl hl.1 (Nat.le_of_ble_eq_true rfl) rfl (fun κ87 H locs cells slots hw hH => ?_)
      exact cw_retv hF hH ⟨rfl, rfl⟩ hr hlk dX11_init_236 hw
    · refine lv_aload_n hx hb dX11_init_209 rfl (lv_at hl 1 rfl) ?_
      refine cw_getPr (a := h) hF hH fk_X11_38 dX11_init_210 hw (fun z89 hw => ?_)
      refine lv_iload_n hx hb dX11_init_213 rfl (lv_at hl 0 rfl) ?_
      refine cw_new hF hH hA ci_X1 (by decide) rfl df_X1 dX11_init_214 (wc_7 18 rfl) (wc_11 39 rfl) (wc_7 29 rfl) hw (fun o90 κ91 H locs cells slots hw hH => ?_)
      refine lv_dup hx hb dX11_init_217 rfl ?_
      refine cw_cIN (b := o90) (As := []) (rest := [.ref o90, .int x80, va_rf z89]) hF hH hA hE min_X11_78 (fun sz => c_X1_init l D t G _ o90  _ hw sz) dX11_init_218 ⟨Nat.le_of_ble_eq_true rfl, Nat.le_of_ble_eq_true rfl⟩ rfl hl.1 (by simp only [List.map_cons, List.map_nil, cat_rf]; exact Nat.le_of_ble_eq_true rfl) rfl (fun κ92 H locs cells slots hw hH => ?_)
      refine cw_aast (q := z89) (v := (some o90)) hF hH dX11_init_221 hw (fun κ94 H locs cells slots hw hH => ?_)
      obtain ⟨z95, ez95⟩ : ∃ z : Int32, z = x80 + 1 := ⟨_, rfl⟩
      have hw := hw z95 ez95
      refine lv_iinc (lv' := [(1, .int z95), (0, .ref h)]) (k := 0) (v := z95) hx hb dX11_init_222 hl rfl ez95.symm (by decide) rfl (fun ls hl => ?_)
      refine lv_goto (tgt := 200) hx hb dX11_init_225 rfl ?_
      exact ih83 z95 κ94 ls _ _ _ _ hl hw hH
  · refine lv_aload_n hx hb dX11_init_179 rfl (lv_at hl 1 rfl) ?_
    refine cw_getPr (a := h) hF hH fk_X11_18 dX11_init_180 hw (fun z96 hw => ?_)
    refine lv_iload_n hx hb dX11_init_183 rfl (lv_at hl 0 rfl) ?_
    refine cw_new hF hH hA ci_X2 (by decide) rfl df_X2 dX11_init_184 (wc_7 12 rfl) (wc_7 26 rfl) (wc_7 25 rfl) hw (fun o97 κ98 H locs cells slots hw hH => ?_)
    refine lv_dup hx hb dX11_init_187 rfl ?_
    refine cw_cIN (b := o97) (As := []) (rest := [.ref o97, .int x74, va_rf z96]) hF hH hA hE min_X11_77 (fun sz => c_X2_init l D t G _ o97  _ hw sz) dX11_init_188 ⟨Nat.le_of_ble_eq_true rfl, Nat.le_of_ble_eq_true rfl⟩ rfl hl.1 (by simp only [List.map_cons, List.map_nil, cat_rf]; exact Nat.le_of_ble_eq_true rfl) rfl (fun κ99 H locs cells slots hw hH => ?_)
    refine cw_aast (q := z96) (v := (some o97)) hF hH dX11_init_191 hw (fun κ101 H locs cells slots hw hH => ?_)
    obtain ⟨z102, ez102⟩ : ∃ z : Int32, z = x74 + 1 := ⟨_, rfl⟩
    have hw := hw z102 ez102
    refine lv_iinc (lv' := [(1, .int z102), (0, .ref h)]) (k := 0) (v := z102) hx hb dX11_init_192 hl rfl ez102.symm (by decide) rfl (fun ls hl => ?_)
    refine lv_goto (tgt := 170) hx hb dX11_init_195 rfl ?_
    exact ih77 z102 κ101 ls _ _ _ _ hl hw hH

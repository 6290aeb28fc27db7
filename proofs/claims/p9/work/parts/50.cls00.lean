/-! the class, lifted: 0 -/
set_option maxRecDepth 100000 in
def F_X6_number (G : GE) (h : Nat) (a1 : Int32) (a2 : Int32) (post : Int64 → CS → Prop) (κ : CS) : Prop := ∀ z1 : Int32, z1 = a2 - 1 → lc (fun (K4 : (Int32 × Int64) → CS → Prop) (x2 : Int32 × Int64) (κ3 : CS) => ((x2.1.toInt < 0) → post x2.2 κ3) ∧ ((0 ≤ x2.1.toInt) → ∀ z6 : Int32, z6 = a1 + x2.1 → ∀ z7 : Int64, z7 = x2.2 <<< ((8 : Int32).toInt64 &&& 63) → jc (fun (K10 : Int64 → CS → Prop) => ((z6.toInt < 0) → K10 z7 κ3) ∧ ((0 ≤ z6.toInt) → (h ∈ sL κ3.1 ∧ sK κ3.1 h = 2) ∧ ∀ z14 : Int32, z14 = sI κ3.1 h 1 → ((z14.toInt ≤ z6.toInt) → K10 z7 κ3) ∧ ((z6.toInt < z14.toInt) → (h ∈ sL κ3.1 ∧ sK κ3.1 h = 2) ∧ ∀ z15 : Option Nat, z15 = sP κ3.1 h 0 → ∃ n : Nat, AL G κ3 z15 n ∧ ∀ z16 : Int32, z16 = nI n → ((z16.toInt ≤ z6.toInt) → K10 z7 κ3) ∧ ((z6.toInt < z16.toInt) → (h ∈ sL κ3.1 ∧ sK κ3.1 h = 2) ∧ ∀ z17 : Option Nat, z17 = sP κ3.1 h 0 → ∃ (f : Nat → Int32) (n : Nat), BA G κ3 z17 f n ∧ (0 ≤ z6.toInt ∧ z6.toInt < (n : Int)) ∧ ∀ z18 : Int32, z18 = f z6.toInt.toNat → ∀ z19 : Int32, z19 = z18 &&& 255 → ∀ z20 : Int64, z20 = (z19 : Int32).toInt64 → ∀ z21 : Int64, z21 = z7 ||| z20 → K10 z21 κ3)))) (fun (x8 : Int64) (κ9 : CS) => ∀ z13 : Int32, z13 = x2.1 + (-1) → K4 (z13, x8) κ9))) (z1, 0) κ
theorem dX6_number_0 : decode cX6_number 0 = .ok (.lconst 0, 1) := by decide +kernel
theorem dX6_number_1 : decode cX6_number 1 = .ok (.lstore_n 3, 1) := by decide +kernel
theorem dX6_number_2 : decode cX6_number 2 = .ok (.iload_n 2, 1) := by decide +kernel
theorem dX6_number_3 : decode cX6_number 3 = .ok (.iconst 1, 1) := by decide +kernel
theorem dX6_number_4 : decode cX6_number 4 = .ok (.isub, 1) := by decide +kernel
theorem dX6_number_5 : decode cX6_number 5 = .ok (.istore 5, 2) := by decide +kernel
theorem dX6_number_7 : decode cX6_number 7 = .ok (.iload 5, 2) := by decide +kernel
theorem dX6_number_9 : decode cX6_number 9 = .ok (.ifCond .lt 59, 3) := by decide +kernel
theorem dX6_number_12 : decode cX6_number 12 = .ok (.iload_n 1, 1) := by decide +kernel
theorem dX6_number_13 : decode cX6_number 13 = .ok (.iload 5, 2) := by decide +kernel
theorem dX6_number_15 : decode cX6_number 15 = .ok (.iadd, 1) := by decide +kernel
theorem dX6_number_16 : decode cX6_number 16 = .ok (.istore 6, 2) := by decide +kernel
theorem dX6_number_18 : decode cX6_number 18 = .ok (.lload_n 3, 1) := by decide +kernel
theorem dX6_number_19 : decode cX6_number 19 = .ok (.bipush 8, 2) := by decide +kernel
theorem dX6_number_21 : decode cX6_number 21 = .ok (.lshl, 1) := by decide +kernel
theorem dX6_number_22 : decode cX6_number 22 = .ok (.lstore_n 3, 1) := by decide +kernel
theorem dX6_number_23 : decode cX6_number 23 = .ok (.iload 6, 2) := by decide +kernel
theorem dX6_number_25 : decode cX6_number 25 = .ok (.ifCond .lt 37, 3) := by decide +kernel
theorem dX6_number_28 : decode cX6_number 28 = .ok (.iload 6, 2) := by decide +kernel
theorem dX6_number_30 : decode cX6_number 30 = .ok (.aload_n 0, 1) := by decide +kernel
theorem dX6_number_31 : decode cX6_number 31 = .ok (.getfield 25, 3) := by decide +kernel
theorem dX6_number_34 : decode cX6_number 34 = .ok (.if_icmp .ge 28, 3) := by decide +kernel
theorem dX6_number_37 : decode cX6_number 37 = .ok (.iload 6, 2) := by decide +kernel
theorem dX6_number_39 : decode cX6_number 39 = .ok (.aload_n 0, 1) := by decide +kernel
theorem dX6_number_40 : decode cX6_number 40 = .ok (.getfield 7, 3) := by decide +kernel
theorem dX6_number_43 : decode cX6_number 43 = .ok (.arraylength, 1) := by decide +kernel
theorem dX6_number_44 : decode cX6_number 44 = .ok (.if_icmp .ge 18, 3) := by decide +kernel
theorem dX6_number_47 : decode cX6_number 47 = .ok (.lload_n 3, 1) := by decide +kernel
theorem dX6_number_48 : decode cX6_number 48 = .ok (.aload_n 0, 1) := by decide +kernel
theorem dX6_number_49 : decode cX6_number 49 = .ok (.getfield 7, 3) := by decide +kernel
theorem dX6_number_52 : decode cX6_number 52 = .ok (.iload 6, 2) := by decide +kernel
theorem dX6_number_54 : decode cX6_number 54 = .ok (.baload, 1) := by decide +kernel
theorem dX6_number_55 : decode cX6_number 55 = .ok (.sipush 255, 3) := by decide +kernel
theorem dX6_number_58 : decode cX6_number 58 = .ok (.iand, 1) := by decide +kernel
theorem dX6_number_59 : decode cX6_number 59 = .ok (.i2l, 1) := by decide +kernel
theorem dX6_number_60 : decode cX6_number 60 = .ok (.lor, 1) := by decide +kernel
theorem dX6_number_61 : decode cX6_number 61 = .ok (.lstore_n 3, 1) := by decide +kernel
theorem dX6_number_62 : decode cX6_number 62 = .ok (.iinc 5 (-1), 3) := by decide +kernel
theorem dX6_number_65 : decode cX6_number 65 = .ok (.goto (-58), 3) := by decide +kernel
theorem dX6_number_68 : decode cX6_number 68 = .ok (.lload_n 3, 1) := by decide +kernel
theorem dX6_number_69 : decode cX6_number 69 = .ok (.lreturn, 1) := by decide +kernel
set_option maxRecDepth 100000 in
set_option maxHeartbeats 4000000 in
theorem c_X6_number (l : Launch) (D : va_G) (t : Nat → ClassId) (G : GE) (κ : CS) (h : Nat) (a1 : Int32) (a2 : Int32) (post : Int64 → CS → Prop) (hw : F_X6_number G h a1 a2 post κ) (sz : Nat) : CMl l D t yX6_number cX6_number 7 (some .long) 0 14 G κ sz [.ref h, .int a1, .int a2] post := by
  refine c_go (by decide) (Nat.le_of_ble_eq_true rfl) ?_
  intro p e s m below meth c ls A hF hr hlk hin hAe hH hA hE hl
  unfold cB
  rw [hAe]
  clear hAe
  have hF : FX p m c cX6_number 7 s _ RX6 D t := hF
  have hx := hF.1.1
  have hb := hF.1.2.1
  have hl : lv_has ls 7 [(0, .ref h), (1, .int a1), (2, .int a2)] := hl
  unfold F_X6_number at hw
  refine lv_lconst (v := 0) hx hb dX6_number_0 (by decide) ?_
  refine lv_lstore_n (lv' := [(3, .long 0), (0, .ref h), (1, .int a1), (2, .int a2)]) hx hb dX6_number_1 rfl hl (by decide) rfl (fun ls hl => ?_)
  refine lv_iload_n hx hb dX6_number_2 rfl (lv_at hl 3 rfl) ?_
  refine lv_iconst (v := 1) hx hb dX6_number_3 (by decide) ?_
  refine lv_isub hx hb dX6_number_4 ?_
  refine w_nmi hw (fun z1 hw => ?_)
  refine lv_istore (lv' := [(5, .int z1), (3, .long 0), (0, .ref h), (1, .int a1), (2, .int a2)]) hx hb dX6_number_5 hl (by decide) rfl (fun ls hl => ?_)
  have hl : lv_has ls 7 [(5, .int z1), (3, .long 0), (1, .int a1), (0, .ref h)] := lv_sub hl [0, 1, 3, 2] rfl
  refine cw_loop (β := Int32 × Int64) (fun x2 => [(5, .int x2.1), (3, .long x2.2), (1, .int a1), (0, .ref h)]) (z1, 0) hl hw hH (fun K4 x2 κ3 ls H locs cells slots hl hw hH ih5 => ?_)
  have hl : lv_has ls 7 [(5, .int x2.1), (3, .long x2.2), (1, .int a1), (0, .ref h)] := hl
  refine lv_iload hx hb dX6_number_7 (lv_at hl 0 rfl) ?_
  refine w_if_lt (tgt := 68) hF dX6_number_9 rfl hw (fun hw => ?_) (fun hw => ?_)
  · refine lv_lload_n hx hb dX6_number_68 rfl (lv_at hl 1 rfl) ?_
    exact cw_retl hF hH ⟨rfl, rfl⟩ hr hlk dX6_number_69 hw
  · refine lv_iload_n hx hb dX6_number_12 rfl (lv_at hl 2 rfl) ?_
    refine lv_iload hx hb dX6_number_13 (lv_at hl 0 rfl) ?_
    refine lv_iadd hx hb dX6_number_15 ?_
    refine w_nmi hw (fun z6 hw => ?_)
    refine lv_istore (lv' := [(6, .int z6), (5, .int x2.1), (3, .long x2.2), (1, .int a1), (0, .ref h)]) hx hb dX6_number_16 hl (by decide) rfl (fun ls hl => ?_)
    refine lv_lload_n hx hb dX6_number_18 rfl (lv_at hl 2 rfl) ?_
    refine lv_bipush (v := 8) hx hb dX6_number_19 (by decide) ?_
    refine lv_lshl hx hb dX6_number_21 rfl ?_
    refine w_nml hw (fun z7 hw => ?_)
    refine lv_lstore_n (lv' := [(3, .long z7), (6, .int z6), (5, .int x2.1), (1, .int a1), (0, .ref h)]) hx hb dX6_number_22 rfl hl (by decide) rfl (fun ls hl => ?_)
    refine lv_iload hx hb dX6_number_23 (lv_at hl 1 rfl) ?_
    obtain ⟨K10, hK11, hw⟩ := jc_open hw
    refine cw_join (K := K10) 62 (fun (x8 : Int64) => [(5, .int x2.1), (3, .long x8), (1, .int a1), (0, .ref h)]) (fun (x8 : Int64) => []) hl hH (fun x8 κ9 ls H locs cells slots hl hw hH => ?_) (fun jn12 => ?_)
    · have hw := hK11 x8 κ9 hw
      have hl : lv_has ls 7 [(5, .int x2.1), (3, .long x8), (1, .int a1), (0, .ref h)] := hl
      obtain ⟨z13, ez13⟩ : ∃ z : Int32, z = x2.1 + (-1) := ⟨_, rfl⟩
      have hw := hw z13 ez13
      refine lv_iinc (lv' := [(5, .int z13), (3, .long x8), (1, .int a1), (0, .ref h)]) (k := 0) (v := z13) hx hb dX6_number_62 hl rfl ez13.symm (by decide) rfl (fun ls hl => ?_)
      refine lv_goto (tgt := 7) hx hb dX6_number_65 rfl ?_
      exact ih5 (z13, x8) κ9 ls _ _ _ _ hl hw hH
    · skip
      refine w_if_lt (tgt := 62) hF dX6_number_25 rfl hw (fun hw => ?_) (fun hw => ?_)
      · have hl : lv_has ls 7 [(5, .int x2.1), (3, .long z7), (1, .int a1), (0, .ref h)] := lv_sub hl [2, 0, 3, 4] rfl
        exact jn12 z7 κ3 ls _ _ _ _ hl hw hH
      · refine lv_iload hx hb dX6_number_28 (lv_at hl 1 rfl) ?_
        refine lv_aload_n hx hb dX6_number_30 rfl (lv_at hl 4 rfl) ?_
        refine cw_getIr (a := h) hF hH fk_X6_25 dX6_number_31 hw (fun z14 hw => ?_)
        refine w_icmp_ge (tgt := 62) hF dX6_number_34 rfl hw (fun hw => ?_) (fun hw => ?_)
        · have hl : lv_has ls 7 [(5, .int x2.1), (3, .long z7), (1, .int a1), (0, .ref h)] := lv_sub hl [2, 0, 3, 4] rfl
          exact jn12 z7 κ3 ls _ _ _ _ hl hw hH
        · refine lv_iload hx hb dX6_number_37 (lv_at hl 1 rfl) ?_
          refine lv_aload_n hx hb dX6_number_39 rfl (lv_at hl 4 rfl) ?_
          refine cw_getPr (a := h) hF hH fk_X6_7 dX6_number_40 hw (fun z15 hw => ?_)
          refine cw_alen (q := z15) hF hH hE dX6_number_43 hw (fun z16 hw => ?_)
          refine w_icmp_ge (tgt := 62) hF dX6_number_44 rfl hw (fun hw => ?_) (fun hw => ?_)
          · have hl : lv_has ls 7 [(5, .int x2.1), (3, .long z7), (1, .int a1), (0, .ref h)] := lv_sub hl [2, 0, 3, 4] rfl
            exact jn12 z7 κ3 ls _ _ _ _ hl hw hH
          · refine lv_lload_n hx hb dX6_number_47 rfl (lv_at hl 0 rfl) ?_
            refine lv_aload_n hx hb dX6_number_48 rfl (lv_at hl 4 rfl) ?_
            refine cw_getPr (a := h) hF hH fk_X6_7 dX6_number_49 hw (fun z17 hw => ?_)
            refine lv_iload hx hb dX6_number_52 (lv_at hl 1 rfl) ?_
            refine cw_bald (q := z17) hF hH hE dX6_number_54 hw (fun z18 hw => ?_)
            refine lv_sipush (v := 255) hx hb dX6_number_55 (by decide) ?_
            refine lv_iand hx hb dX6_number_58 ?_
            refine w_nmi hw (fun z19 hw => ?_)
            refine lv_i2l hx hb dX6_number_59 rfl ?_
            refine w_nml hw (fun z20 hw => ?_)
            refine lv_lor hx hb dX6_number_60 ?_
            refine w_nml hw (fun z21 hw => ?_)
            refine lv_lstore_n (lv' := [(3, .long z21), (6, .int z6), (5, .int x2.1), (1, .int a1), (0, .ref h)]) hx hb dX6_number_61 rfl hl (by decide) rfl (fun ls hl => ?_)
            have hl : lv_has ls 7 [(5, .int x2.1), (3, .long z21), (1, .int a1), (0, .ref h)] := lv_sub hl [2, 0, 3, 4] rfl
            exact jn12 z21 κ3 ls _ _ _ _ hl hw hH
set_option maxRecDepth 100000 in
def F_X0_init (G : GE) (h : Nat) (a1 : Option Nat) (post : CS → Prop) (κ : CS) : Prop := (h ∈ sL κ.1 ∧ sK κ.1 h = 8) ∧ ∀ κ2 : CS, κ2 = (h_uP κ.1 h 0 a1, κ.2) → ∃ b : Nat, a1 = some b ∧ (b ∈ sL κ2.1 ∧ sK κ2.1 b = 3) ∧ ∀ z3 : Int32, z3 = sI κ2.1 b 8 → (h ∈ sL κ2.1 ∧ sK κ2.1 h = 8) ∧ ∀ κ4 : CS, κ4 = (h_uI κ2.1 h 1 z3, κ2.2) → ∃ b : Nat, a1 = some b ∧ (b ∈ sL κ4.1 ∧ sK κ4.1 b = 3) ∧ ∀ z5 : Option Nat, z5 = sP κ4.1 b 2 → ∃ b : Nat, z5 = some b ∧ (b ∈ sL κ4.1 ∧ sK κ4.1 b = 2) ∧ ∀ z6 : Int32, z6 = sI κ4.1 b 1 → (h ∈ sL κ4.1 ∧ sK κ4.1 h = 8) ∧ ∀ z7 : Int32, z7 = sI κ4.1 h 1 → ∀ z8 : Int32, z8 = z6 - z7 → ∀ z10 : Int32, z10.toInt = max ((0 : Int32).toInt) z8.toInt → ∃ b : Nat, a1 = some b ∧ (b ∈ sL κ4.1 ∧ sK κ4.1 b = 3) ∧ ∀ z11 : Option Nat, z11 = sP κ4.1 b 2 → (h ∈ sL κ4.1 ∧ sK κ4.1 h = 8) ∧ ∀ z12 : Int32, z12 = sI κ4.1 h 1 → ∀ z13 : Int32, z13 = z12 + 20 → ∃ b : Nat, z11 = some b ∧ (b ∈ sL κ4.1 ∧ sK κ4.1 b = 2) ∧ F_X6_number G b z13 4 (fun (z15 : Int64) (κ14 : CS) => (h ∈ sL κ14.1 ∧ sK κ14.1 h = 8) ∧ ∀ κ16 : CS, κ16 = (h_uJ κ14.1 h 3 z15, κ14.2) → (h ∈ sL κ16.1 ∧ sK κ16.1 h = 8) ∧ ∀ z17 : Int64, z17 = sJ κ16.1 h 3 → jc (fun (K20 : Int32 → CS → Prop) => ((¬ z17.toInt = (0 : Int64).toInt) → (h ∈ sL κ16.1 ∧ sK κ16.1 h = 8) ∧ ∀ z106 : Int64, z106 = sJ κ16.1 h 3 → ∀ z107 : Int64, z107 = (z10 : Int32).toInt64 → ∀ z109 : Int64, z109.toInt = min z106.toInt z107.toInt → ∀ z110 : Int32, z110 = (z109 : Int64).toInt32 → K20 z110 κ16) ∧ ((z17.toInt = (0 : Int64).toInt) → K20 z10 κ16)) (fun (x18 : Int32) (κ19 : CS) => (h ∈ sL κ19.1 ∧ sK κ19.1 h = 8) ∧ ∀ κ23 : CS, κ23 = (h_uI κ19.1 h 2 x18, κ19.2) → ∃ b : Nat, a1 = some b ∧ (b ∈ sL κ23.1 ∧ sK κ23.1 b = 3) ∧ ∀ z24 : Option Nat, z24 = sP κ23.1 b 2 → (h ∈ sL κ23.1 ∧ sK κ23.1 h = 8) ∧ ∀ z25 : Int32, z25 = sI κ23.1 h 1 → ∀ z26 : Int32, z26 = z25 + 6 → ∃ b : Nat, z24 = some b ∧ (b ∈ sL κ23.1 ∧ sK κ23.1 b = 2) ∧ F_X6_number G b z26 2 (fun (z28 : Int64) (κ27 : CS) => ∀ z29 : Int32, z29 = (z28 : Int64).toInt32 → (h ∈ sL κ27.1 ∧ sK κ27.1 h = 8) ∧ ∀ κ30 : CS, κ30 = (h_uI κ27.1 h 4 z29, κ27.2) → ∃ b : Nat, a1 = some b ∧ (b ∈ sL κ30.1 ∧ sK κ30.1 b = 3) ∧ ∀ z31 : Option Nat, z31 = sP κ30.1 b 2 → (h ∈ sL κ30.1 ∧ sK κ30.1 h = 8) ∧ ∀ z32 : Int32, z32 = sI κ30.1 h 1 → ∀ z33 : Int32, z33 = z32 + 12 → ∃ b : Nat, z31 = some b ∧ (b ∈ sL κ30.1 ∧ sK κ30.1 b = 2) ∧ F_X6_number G b z33 2 (fun (z35 : Int64) (κ34 : CS) => ∀ z36 : Int32, z36 = (z35 : Int64).toInt32 → (h ∈ sL κ34.1 ∧ sK κ34.1 h = 8) ∧ ∀ κ37 : CS, κ37 = (h_uI κ34.1 h 5 z36, κ34.2) → ∃ b : Nat, a1 = some b ∧ (b ∈ sL κ37.1 ∧ sK κ37.1 b = 3) ∧ ∀ z38 : Option Nat, z38 = sP κ37.1 b 2 → (h ∈ sL κ37.1 ∧ sK κ37.1 h = 8) ∧ ∀ z39 : Int32, z39 = sI κ37.1 h 1 → ∀ z40 : Int32, z40 = z39 + 14 → ∃ b : Nat, z38 = some b ∧ (b ∈ sL κ37.1 ∧ sK κ37.1 b = 2) ∧ F_X6_number G b z40 2 (fun (z42 : Int64) (κ41 : CS) => ∀ z43 : Int32, z43 = (z42 : Int64).toInt32 → (h ∈ sL κ41.1 ∧ sK κ41.1 h = 8) ∧ ∀ κ44 : CS, κ44 = (h_uI κ41.1 h 6 z43, κ41.2) → ∃ b : Nat, a1 = some b ∧ (b ∈ sL κ44.1 ∧ sK κ44.1 b = 3) ∧ ∀ z45 : Option Nat, z45 = sP κ44.1 b 2 → (h ∈ sL κ44.1 ∧ sK κ44.1 h = 8) ∧ ∀ z46 : Int32, z46 = sI κ44.1 h 1 → ∀ z47 : Int32, z47 = z46 + 16 → ∃ b : Nat, z45 = some b ∧ (b ∈ sL κ44.1 ∧ sK κ44.1 b = 2) ∧ F_X6_number G b z47 4 (fun (z49 : Int64) (κ48 : CS) => (h ∈ sL κ48.1 ∧ sK κ48.1 h = 8) ∧ ∀ κ50 : CS, κ50 = (h_uJ κ48.1 h 7 z49, κ48.2) → ∃ b : Nat, a1 = some b ∧ (b ∈ sL κ50.1 ∧ sK κ50.1 b = 3) ∧ ∀ z51 : Option Nat, z51 = sP κ50.1 b 2 → (h ∈ sL κ50.1 ∧ sK κ50.1 h = 8) ∧ ∀ z52 : Int32, z52 = sI κ50.1 h 1 → ∀ z53 : Int32, z53 = z52 + 24 → ∃ b : Nat, z51 = some b ∧ (b ∈ sL κ50.1 ∧ sK κ50.1 b = 2) ∧ F_X6_number G b z53 8 (fun (z55 : Int64) (κ54 : CS) => (h ∈ sL κ54.1 ∧ sK κ54.1 h = 8) ∧ ∀ κ56 : CS, κ56 = (h_uJ κ54.1 h 8 z55, κ54.2) → ∃ b : Nat, a1 = some b ∧ (b ∈ sL κ56.1 ∧ sK κ56.1 b = 3) ∧ ∀ z57 : Option Nat, z57 = sP κ56.1 b 2 → (h ∈ sL κ56.1 ∧ sK κ56.1 h = 8) ∧ ∀ z58 : Int32, z58 = sI κ56.1 h 1 → ∀ z59 : Int32, z59 = z58 + 32 → ∃ b : Nat, z57 = some b ∧ (b ∈ sL κ56.1 ∧ sK κ56.1 b = 2) ∧ F_X6_number G b z59 4 (fun (z61 : Int64) (κ60 : CS) => (h ∈ sL κ60.1 ∧ sK κ60.1 h = 8) ∧ ∀ κ62 : CS, κ62 = (h_uJ κ60.1 h 9 z61, κ60.2) → (h ∈ sL κ62.1 ∧ sK κ62.1 h = 8) ∧ ∀ z63 : Int64, z63 = sJ κ62.1 h 7 → ∀ z64 : Int64, z64 = z63 &&& 4 → jc (fun (K67 : Int32 → CS → Prop) => ((z64.toInt = (0 : Int64).toInt) → K67 0 κ62) ∧ ((¬ z64.toInt = (0 : Int64).toInt) → K67 1 κ62)) (fun (x65 : Int32) (κ66 : CS) => jc (fun (K72 : Int64 → CS → Prop) => ((x65.toInt = 0) → ∃ b : Nat, a1 = some b ∧ (b ∈ sL κ66.1 ∧ sK κ66.1 b = 3) ∧ ∀ z100 : Option Nat, z100 = sP κ66.1 b 2 → (h ∈ sL κ66.1 ∧ sK κ66.1 h = 8) ∧ ∀ z101 : Int32, z101 = sI κ66.1 h 1 → ∀ z102 : Int32, z102 = z101 + 36 → ∃ b : Nat, z100 = some b ∧ (b ∈ sL κ66.1 ∧ sK κ66.1 b = 2) ∧ F_X6_number G b z102 4 (fun (z104 : Int64) (κ103 : CS) => K72 z104 κ103) κ66) ∧ ((¬ x65.toInt = 0) → ∃ b : Nat, a1 = some b ∧ (b ∈ sL κ66.1 ∧ sK κ66.1 b = 3) ∧ ∀ z105 : Int64, z105 = sJ κ66.1 b 11 → K72 z105 κ66)) (fun (x70 : Int64) (κ71 : CS) => (h ∈ sL κ71.1 ∧ sK κ71.1 h = 8) ∧ ∀ κ75 : CS, κ75 = (h_uJ κ71.1 h 10 x70, κ71.2) → jc (fun (K78 : Int64 → CS → Prop) => ((x65.toInt = 0) → ∃ b : Nat, a1 = some b ∧ (b ∈ sL κ75.1 ∧ sK κ75.1 b = 3) ∧ ∀ z94 : Option Nat, z94 = sP κ75.1 b 2 → (h ∈ sL κ75.1 ∧ sK κ75.1 h = 8) ∧ ∀ z95 : Int32, z95 = sI κ75.1 h 1 → ∀ z96 : Int32, z96 = z95 + 40 → ∃ b : Nat, z94 = some b ∧ (b ∈ sL κ75.1 ∧ sK κ75.1 b = 2) ∧ F_X6_number G b z96 8 (fun (z98 : Int64) (κ97 : CS) => K78 z98 κ97) κ75) ∧ ((¬ x65.toInt = 0) → ∃ b : Nat, a1 = some b ∧ (b ∈ sL κ75.1 ∧ sK κ75.1 b = 3) ∧ ∀ z99 : Int64, z99 = sJ κ75.1 b 10 → K78 z99 κ75)) (fun (x76 : Int64) (κ77 : CS) => (h ∈ sL κ77.1 ∧ sK κ77.1 h = 8) ∧ ∀ κ81 : CS, κ81 = (h_uJ κ77.1 h 11 x76, κ77.2) → jc (fun (K84 : Int32 → CS → Prop) => jc (fun (K90 : Unit → CS → Prop) => ((x65.toInt = 0) → K90 () κ81) ∧ ((¬ x65.toInt = 0) → ∃ b : Nat, a1 = some b ∧ (b ∈ sL κ81.1 ∧ sK κ81.1 b = 3) ∧ ∀ z93 : Int32, z93 = sI κ81.1 b 12 → ((z93.toInt = 0) → K90 () κ81) ∧ ((¬ z93.toInt = 0) → K84 1 κ81))) (fun (x88 : Unit) (κ89 : CS) => K84 0 κ89)) (fun (x82 : Int32) (κ83 : CS) => (0 ≤ x82.toInt ∧ x82.toInt ≤ 1) ∧ (h ∈ sL κ83.1 ∧ sK κ83.1 h = 8) ∧ ∀ κ87 : CS, κ87 = (h_uI κ83.1 h 12 x82, κ83.2) → post κ87))))) κ56) κ50) κ44) κ37) κ30) κ23)) κ4
theorem dX0_init_0 : decode cX0_init 0 = .ok (.aload_n 0, 1) := by decide +kernel
theorem dX0_init_1 : decode cX0_init 1 = .ok (.invokespecial 3, 3) := by decide +kernel
theorem dX0_init_4 : decode cX0_init 4 = .ok (.aload_n 0, 1) := by decide +kernel
theorem dX0_init_5 : decode cX0_init 5 = .ok (.aload_n 1, 1) := by decide +kernel
theorem dX0_init_6 : decode cX0_init 6 = .ok (.putfield 9, 3) := by decide +kernel
theorem dX0_init_9 : decode cX0_init 9 = .ok (.aload_n 0, 1) := by decide +kernel
theorem dX0_init_10 : decode cX0_init 10 = .ok (.aload_n 1, 1) := by decide +kernel
theorem dX0_init_11 : decode cX0_init 11 = .ok (.getfield 15, 3) := by decide +kernel
theorem dX0_init_14 : decode cX0_init 14 = .ok (.putfield 21, 3) := by decide +kernel
theorem dX0_init_17 : decode cX0_init 17 = .ok (.iconst 0, 1) := by decide +kernel
theorem dX0_init_18 : decode cX0_init 18 = .ok (.aload_n 1, 1) := by decide +kernel
theorem dX0_init_19 : decode cX0_init 19 = .ok (.getfield 24, 3) := by decide +kernel
theorem dX0_init_22 : decode cX0_init 22 = .ok (.getfield 28, 3) := by decide +kernel
theorem dX0_init_25 : decode cX0_init 25 = .ok (.aload_n 0, 1) := by decide +kernel
theorem dX0_init_26 : decode cX0_init 26 = .ok (.getfield 21, 3) := by decide +kernel
theorem dX0_init_29 : decode cX0_init 29 = .ok (.isub, 1) := by decide +kernel
theorem dX0_init_30 : decode cX0_init 30 = .ok (.invokestatic 33, 3) := by decide +kernel
theorem dX0_init_33 : decode cX0_init 33 = .ok (.istore_n 2, 1) := by decide +kernel
theorem dX0_init_34 : decode cX0_init 34 = .ok (.aload_n 0, 1) := by decide +kernel
theorem dX0_init_35 : decode cX0_init 35 = .ok (.aload_n 1, 1) := by decide +kernel
theorem dX0_init_36 : decode cX0_init 36 = .ok (.getfield 24, 3) := by decide +kernel
theorem dX0_init_39 : decode cX0_init 39 = .ok (.aload_n 0, 1) := by decide +kernel
theorem dX0_init_40 : decode cX0_init 40 = .ok (.getfield 21, 3) := by decide +kernel
theorem dX0_init_43 : decode cX0_init 43 = .ok (.bipush 20, 2) := by decide +kernel
theorem dX0_init_45 : decode cX0_init 45 = .ok (.iadd, 1) := by decide +kernel
theorem dX0_init_46 : decode cX0_init 46 = .ok (.iconst 4, 1) := by decide +kernel
theorem dX0_init_47 : decode cX0_init 47 = .ok (.invokevirtual 39, 3) := by decide +kernel
theorem dX0_init_50 : decode cX0_init 50 = .ok (.putfield 43, 3) := by decide +kernel
theorem dX0_init_53 : decode cX0_init 53 = .ok (.aload_n 0, 1) := by decide +kernel
theorem dX0_init_54 : decode cX0_init 54 = .ok (.aload_n 0, 1) := by decide +kernel
theorem dX0_init_55 : decode cX0_init 55 = .ok (.getfield 43, 3) := by decide +kernel
theorem dX0_init_58 : decode cX0_init 58 = .ok (.lconst 0, 1) := by decide +kernel
theorem dX0_init_59 : decode cX0_init 59 = .ok (.lcmp, 1) := by decide +kernel
theorem dX0_init_60 : decode cX0_init 60 = .ok (.ifCond .ne 7, 3) := by decide +kernel
theorem dX0_init_63 : decode cX0_init 63 = .ok (.iload_n 2, 1) := by decide +kernel
theorem dX0_init_64 : decode cX0_init 64 = .ok (.goto 13, 3) := by decide +kernel
theorem dX0_init_67 : decode cX0_init 67 = .ok (.aload_n 0, 1) := by decide +kernel
theorem dX0_init_68 : decode cX0_init 68 = .ok (.getfield 43, 3) := by decide +kernel
theorem dX0_init_71 : decode cX0_init 71 = .ok (.iload_n 2, 1) := by decide +kernel
theorem dX0_init_72 : decode cX0_init 72 = .ok (.i2l, 1) := by decide +kernel
theorem dX0_init_73 : decode cX0_init 73 = .ok (.invokestatic 47, 3) := by decide +kernel
theorem dX0_init_76 : decode cX0_init 76 = .ok (.l2i, 1) := by decide +kernel
theorem dX0_init_77 : decode cX0_init 77 = .ok (.putfield 51, 3) := by decide +kernel
theorem dX0_init_80 : decode cX0_init 80 = .ok (.aload_n 0, 1) := by decide +kernel
theorem dX0_init_81 : decode cX0_init 81 = .ok (.aload_n 1, 1) := by decide +kernel
theorem dX0_init_82 : decode cX0_init 82 = .ok (.getfield 24, 3) := by decide +kernel
theorem dX0_init_85 : decode cX0_init 85 = .ok (.aload_n 0, 1) := by decide +kernel
theorem dX0_init_86 : decode cX0_init 86 = .ok (.getfield 21, 3) := by decide +kernel
theorem dX0_init_89 : decode cX0_init 89 = .ok (.bipush 6, 2) := by decide +kernel
theorem dX0_init_91 : decode cX0_init 91 = .ok (.iadd, 1) := by decide +kernel
theorem dX0_init_92 : decode cX0_init 92 = .ok (.iconst 2, 1) := by decide +kernel
theorem dX0_init_93 : decode cX0_init 93 = .ok (.invokevirtual 39, 3) := by decide +kernel
theorem dX0_init_96 : decode cX0_init 96 = .ok (.l2i, 1) := by decide +kernel
theorem dX0_init_97 : decode cX0_init 97 = .ok (.putfield 52, 3) := by decide +kernel
theorem dX0_init_100 : decode cX0_init 100 = .ok (.aload_n 0, 1) := by decide +kernel
theorem dX0_init_101 : decode cX0_init 101 = .ok (.aload_n 1, 1) := by decide +kernel
theorem dX0_init_102 : decode cX0_init 102 = .ok (.getfield 24, 3) := by decide +kernel
theorem dX0_init_105 : decode cX0_init 105 = .ok (.aload_n 0, 1) := by decide +kernel
theorem dX0_init_106 : decode cX0_init 106 = .ok (.getfield 21, 3) := by decide +kernel
theorem dX0_init_109 : decode cX0_init 109 = .ok (.bipush 12, 2) := by decide +kernel
theorem dX0_init_111 : decode cX0_init 111 = .ok (.iadd, 1) := by decide +kernel
theorem dX0_init_112 : decode cX0_init 112 = .ok (.iconst 2, 1) := by decide +kernel
theorem dX0_init_113 : decode cX0_init 113 = .ok (.invokevirtual 39, 3) := by decide +kernel
theorem dX0_init_116 : decode cX0_init 116 = .ok (.l2i, 1) := by decide +kernel
theorem dX0_init_117 : decode cX0_init 117 = .ok (.putfield 55, 3) := by decide +kernel
theorem dX0_init_120 : decode cX0_init 120 = .ok (.aload_n 0, 1) := by decide +kernel
theorem dX0_init_121 : decode cX0_init 121 = .ok (.aload_n 1, 1) := by decide +kernel
theorem dX0_init_122 : decode cX0_init 122 = .ok (.getfield 24, 3) := by decide +kernel
theorem dX0_init_125 : decode cX0_init 125 = .ok (.aload_n 0, 1) := by decide +kernel
theorem dX0_init_126 : decode cX0_init 126 = .ok (.getfield 21, 3) := by decide +kernel
theorem dX0_init_129 : decode cX0_init 129 = .ok (.bipush 14, 2) := by decide +kernel
theorem dX0_init_131 : decode cX0_init 131 = .ok (.iadd, 1) := by decide +kernel
theorem dX0_init_132 : decode cX0_init 132 = .ok (.iconst 2, 1) := by decide +kernel
theorem dX0_init_133 : decode cX0_init 133 = .ok (.invokevirtual 39, 3) := by decide +kernel
theorem dX0_init_136 : decode cX0_init 136 = .ok (.l2i, 1) := by decide +kernel
theorem dX0_init_137 : decode cX0_init 137 = .ok (.putfield 58, 3) := by decide +kernel
theorem dX0_init_140 : decode cX0_init 140 = .ok (.aload_n 0, 1) := by decide +kernel
theorem dX0_init_141 : decode cX0_init 141 = .ok (.aload_n 1, 1) := by decide +kernel
theorem dX0_init_142 : decode cX0_init 142 = .ok (.getfield 24, 3) := by decide +kernel
theorem dX0_init_145 : decode cX0_init 145 = .ok (.aload_n 0, 1) := by decide +kernel
theorem dX0_init_146 : decode cX0_init 146 = .ok (.getfield 21, 3) := by decide +kernel
theorem dX0_init_149 : decode cX0_init 149 = .ok (.bipush 16, 2) := by decide +kernel
theorem dX0_init_151 : decode cX0_init 151 = .ok (.iadd, 1) := by decide +kernel
theorem dX0_init_152 : decode cX0_init 152 = .ok (.iconst 4, 1) := by decide +kernel
theorem dX0_init_153 : decode cX0_init 153 = .ok (.invokevirtual 39, 3) := by decide +kernel
theorem dX0_init_156 : decode cX0_init 156 = .ok (.putfield 61, 3) := by decide +kernel
theorem dX0_init_159 : decode cX0_init 159 = .ok (.aload_n 0, 1) := by decide +kernel
theorem dX0_init_160 : decode cX0_init 160 = .ok (.aload_n 1, 1) := by decide +kernel
theorem dX0_init_161 : decode cX0_init 161 = .ok (.getfield 24, 3) := by decide +kernel
theorem dX0_init_164 : decode cX0_init 164 = .ok (.aload_n 0, 1) := by decide +kernel
theorem dX0_init_165 : decode cX0_init 165 = .ok (.getfield 21, 3) := by decide +kernel
theorem dX0_init_168 : decode cX0_init 168 = .ok (.bipush 24, 2) := by decide +kernel
theorem dX0_init_170 : decode cX0_init 170 = .ok (.iadd, 1) := by decide +kernel
theorem dX0_init_171 : decode cX0_init 171 = .ok (.bipush 8, 2) := by decide +kernel
theorem dX0_init_173 : decode cX0_init 173 = .ok (.invokevirtual 39, 3) := by decide +kernel
theorem dX0_init_176 : decode cX0_init 176 = .ok (.putfield 64, 3) := by decide +kernel
theorem dX0_init_179 : decode cX0_init 179 = .ok (.aload_n 0, 1) := by decide +kernel
theorem dX0_init_180 : decode cX0_init 180 = .ok (.aload_n 1, 1) := by decide +kernel
theorem dX0_init_181 : decode cX0_init 181 = .ok (.getfield 24, 3) := by decide +kernel
theorem dX0_init_184 : decode cX0_init 184 = .ok (.aload_n 0, 1) := by decide +kernel
theorem dX0_init_185 : decode cX0_init 185 = .ok (.getfield 21, 3) := by decide +kernel
theorem dX0_init_188 : decode cX0_init 188 = .ok (.bipush 32, 2) := by decide +kernel
theorem dX0_init_190 : decode cX0_init 190 = .ok (.iadd, 1) := by decide +kernel
theorem dX0_init_191 : decode cX0_init 191 = .ok (.iconst 4, 1) := by decide +kernel
theorem dX0_init_192 : decode cX0_init 192 = .ok (.invokevirtual 39, 3) := by decide +kernel
theorem dX0_init_195 : decode cX0_init 195 = .ok (.putfield 67, 3) := by decide +kernel
theorem dX0_init_198 : decode cX0_init 198 = .ok (.aload_n 0, 1) := by decide +kernel
theorem dX0_init_199 : decode cX0_init 199 = .ok (.getfield 61, 3) := by decide +kernel
theorem dX0_init_202 : decode cX0_init 202 = .ok (.ldc2_w 70, 3) := by decide +kernel
theorem dX0_init_205 : decode cX0_init 205 = .ok (.land, 1) := by decide +kernel
theorem dX0_init_206 : decode cX0_init 206 = .ok (.lconst 0, 1) := by decide +kernel
theorem dX0_init_207 : decode cX0_init 207 = .ok (.lcmp, 1) := by decide +kernel
theorem dX0_init_208 : decode cX0_init 208 = .ok (.ifCond .eq 7, 3) := by decide +kernel
theorem dX0_init_211 : decode cX0_init 211 = .ok (.iconst 1, 1) := by decide +kernel
theorem dX0_init_212 : decode cX0_init 212 = .ok (.goto 4, 3) := by decide +kernel
theorem dX0_init_215 : decode cX0_init 215 = .ok (.iconst 0, 1) := by decide +kernel
theorem dX0_init_216 : decode cX0_init 216 = .ok (.istore_n 3, 1) := by decide +kernel
theorem dX0_init_217 : decode cX0_init 217 = .ok (.aload_n 0, 1) := by decide +kernel
theorem dX0_init_218 : decode cX0_init 218 = .ok (.iload_n 3, 1) := by decide +kernel
theorem dX0_init_219 : decode cX0_init 219 = .ok (.ifCond .eq 10, 3) := by decide +kernel
theorem dX0_init_222 : decode cX0_init 222 = .ok (.aload_n 1, 1) := by decide +kernel
theorem dX0_init_223 : decode cX0_init 223 = .ok (.getfield 72, 3) := by decide +kernel
theorem dX0_init_226 : decode cX0_init 226 = .ok (.goto 18, 3) := by decide +kernel
theorem dX0_init_229 : decode cX0_init 229 = .ok (.aload_n 1, 1) := by decide +kernel
theorem dX0_init_230 : decode cX0_init 230 = .ok (.getfield 24, 3) := by decide +kernel
theorem dX0_init_233 : decode cX0_init 233 = .ok (.aload_n 0, 1) := by decide +kernel
theorem dX0_init_234 : decode cX0_init 234 = .ok (.getfield 21, 3) := by decide +kernel
theorem dX0_init_237 : decode cX0_init 237 = .ok (.bipush 36, 2) := by decide +kernel
theorem dX0_init_239 : decode cX0_init 239 = .ok (.iadd, 1) := by decide +kernel
theorem dX0_init_240 : decode cX0_init 240 = .ok (.iconst 4, 1) := by decide +kernel
theorem dX0_init_241 : decode cX0_init 241 = .ok (.invokevirtual 39, 3) := by decide +kernel
theorem dX0_init_244 : decode cX0_init 244 = .ok (.putfield 75, 3) := by decide +kernel
theorem dX0_init_247 : decode cX0_init 247 = .ok (.aload_n 0, 1) := by decide +kernel
theorem dX0_init_248 : decode cX0_init 248 = .ok (.iload_n 3, 1) := by decide +kernel
theorem dX0_init_249 : decode cX0_init 249 = .ok (.ifCond .eq 10, 3) := by decide +kernel
theorem dX0_init_252 : decode cX0_init 252 = .ok (.aload_n 1, 1) := by decide +kernel
theorem dX0_init_253 : decode cX0_init 253 = .ok (.getfield 78, 3) := by decide +kernel
theorem dX0_init_256 : decode cX0_init 256 = .ok (.goto 19, 3) := by decide +kernel
theorem dX0_init_259 : decode cX0_init 259 = .ok (.aload_n 1, 1) := by decide +kernel
theorem dX0_init_260 : decode cX0_init 260 = .ok (.getfield 24, 3) := by decide +kernel
theorem dX0_init_263 : decode cX0_init 263 = .ok (.aload_n 0, 1) := by decide +kernel
theorem dX0_init_264 : decode cX0_init 264 = .ok (.getfield 21, 3) := by decide +kernel
theorem dX0_init_267 : decode cX0_init 267 = .ok (.bipush 40, 2) := by decide +kernel
theorem dX0_init_269 : decode cX0_init 269 = .ok (.iadd, 1) := by decide +kernel
theorem dX0_init_270 : decode cX0_init 270 = .ok (.bipush 8, 2) := by decide +kernel
theorem dX0_init_272 : decode cX0_init 272 = .ok (.invokevirtual 39, 3) := by decide +kernel
theorem dX0_init_275 : decode cX0_init 275 = .ok (.putfield 81, 3) := by decide +kernel
theorem dX0_init_278 : decode cX0_init 278 = .ok (.aload_n 0, 1) := by decide +kernel
theorem dX0_init_279 : decode cX0_init 279 = .ok (.iload_n 3, 1) := by decide +kernel
theorem dX0_init_280 : decode cX0_init 280 = .ok (.ifCond .eq 14, 3) := by decide +kernel
theorem dX0_init_283 : decode cX0_init 283 = .ok (.aload_n 1, 1) := by decide +kernel
theorem dX0_init_284 : decode cX0_init 284 = .ok (.getfield 84, 3) := by decide +kernel
theorem dX0_init_287 : decode cX0_init 287 = .ok (.ifCond .eq 7, 3) := by decide +kernel
theorem dX0_init_290 : decode cX0_init 290 = .ok (.iconst 1, 1) := by decide +kernel
theorem dX0_init_291 : decode cX0_init 291 = .ok (.goto 4, 3) := by decide +kernel
theorem dX0_init_294 : decode cX0_init 294 = .ok (.iconst 0, 1) := by decide +kernel
theorem dX0_init_295 : decode cX0_init 295 = .ok (.putfield 88, 3) := by decide +kernel
theorem dX0_init_298 : decode cX0_init 298 = .ok (.return_, 1) := by decide +kernel
set_option maxRecDepth 100000 in
set_option maxHeartbeats 4000000 in
theorem c_X0_init (l : Launch) (D : va_G) (t : Nat → ClassId) (G : GE) (κ : CS) (h : Nat) (a1 : Option Nat) (post : CS → Prop) (hw : F_X0_init G h a1 post κ) (sz : Nat) : CMv l D t yX0_init cX0_init 4 1 40 G κ sz [.ref h, va_rf a1] post := by
  refine c_go (by decide) (by cases a1 <;> exact Nat.le_of_ble_eq_true rfl) ?_
  intro p e s m below meth c ls A hF hr hlk hin hAe hH hA hE hl
  unfold cB
  rw [hAe]
  clear hAe
  have hF : FX p m c cX0_init 4 s _ RX0 D t := hF
  have hx := hF.1.1
  have hb := hF.1.2.1
  have hl : lv_has ls 4 [(0, .ref h), (1, va_rf a1)] := (by have h2 := hl; clear hw; revert h2; cases a1 <;> exact id)
  unfold F_X0_init at hw
  refine lv_aload_n hx hb dX0_init_0 rfl (lv_at hl 0 rfl) ?_
  refine W.objInit hx hb hF.1.2.2.2.1 (hF.1.2.2.2.2 _ (wc_20 0 rfl)) (hF.1.2.2.2.2 _ (wc_5 1 rfl)) (hF.1.2.2.2.2 _ (wc_5 0 rfl)) rfl (hl.1.trans hF.1.2.2.1.symm) rfl dX0_init_1 (Nat.le_of_ble_eq_true rfl) (Nat.le_of_ble_eq_true rfl) ?_
  refine lv_aload_n hx hb dX0_init_4 rfl (lv_at hl 0 rfl) ?_
  refine w_aloadq_n hF dX0_init_5 rfl (lv_at hl 1 rfl) ?_
  refine cw_putFP (a := h) (v := a1) hF hH fk_X0_9 dX0_init_6 hin rfl rfl rfl hw (fun κ2 H locs cells slots hw hH => ?_)
  refine lv_aload_n hx hb dX0_init_9 rfl (lv_at hl 0 rfl) ?_
  refine w_aloadq_n hF dX0_init_10 rfl (lv_at hl 1 rfl) ?_
  refine cw_getI (q := a1) hF hH fk_X0_15 dX0_init_11 hw (fun z3 hw => ?_)
  refine cw_putFI (a := h) (v := z3) hF hH fk_X0_21 dX0_init_14 hin rfl rfl rfl rfl hw (fun κ4 H locs cells slots hw hH => ?_)
  refine lv_iconst (v := 0) hx hb dX0_init_17 (by decide) ?_
  refine w_aloadq_n hF dX0_init_18 rfl (lv_at hl 1 rfl) ?_
  refine cw_getP (q := a1) hF hH fk_X0_24 dX0_init_19 hw (fun z5 hw => ?_)
  refine cw_getI (q := z5) hF hH fk_X0_28 dX0_init_22 hw (fun z6 hw => ?_)
  refine lv_aload_n hx hb dX0_init_25 rfl (lv_at hl 0 rfl) ?_
  refine cw_getIr (a := h) hF hH fk_X0_21 dX0_init_26 hw (fun z7 hw => ?_)
  refine lv_isub hx hb dX0_init_29 ?_
  refine w_nmi hw (fun z8 hw => ?_)
  refine cw_mmax hF hH hl.1 (wc_20 3 rfl) (wc_10 1 rfl) (wc_5 5 rfl) (wc_10 0 rfl) (Nat.le_of_ble_eq_true rfl) (Nat.le_of_ble_eq_true rfl) dX0_init_30 hw (fun z10 hw => ?_)
  refine lv_istore_n (lv' := [(2, .int z10), (0, .ref h), (1, va_rf a1)]) hx hb dX0_init_33 rfl hl (by decide) (by generalize a1 = y; cases y <;> rfl) (fun ls hl => ?_)
  refine lv_aload_n hx hb dX0_init_34 rfl (lv_at hl 1 rfl) ?_
  refine w_aloadq_n hF dX0_init_35 rfl (lv_at hl 2 rfl) ?_
  refine cw_getP (q := a1) hF hH fk_X0_24 dX0_init_36 hw (fun z11 hw => ?_)
  refine lv_aload_n hx hb dX0_init_39 rfl (lv_at hl 1 rfl) ?_
  refine cw_getIr (a := h) hF hH fk_X0_21 dX0_init_40 hw (fun z12 hw => ?_)
  refine lv_bipush (v := 20) hx hb dX0_init_43 (by decide) ?_
  refine lv_iadd hx hb dX0_init_45 ?_
  refine w_nmi hw (fun z13 hw => ?_)
  refine lv_iconst (v := 4) hx hb dX0_init_46 (by decide) ?_
  refine cw_cVlq (q := z11) (As := [.int z13, .int 4]) (rest := [.ref h]) hF hH hA hE mv_X0_39 ci_X6 (by decide) hw (fun b hw sz => c_X6_number l D t G _ b z13 4 _ hw sz) dX0_init_47 ⟨Nat.le_of_ble_eq_true rfl, Nat.le_of_ble_eq_true rfl⟩ rfl hl.1 (Nat.le_of_ble_eq_true rfl) rfl (fun z15 κ14 H locs cells slots hw hH => ?_)
  refine cw_putFJ (a := h) (v := z15) hF hH fk_X0_43 dX0_init_50 hin rfl rfl rfl rfl hw (fun κ16 H locs cells slots hw hH => ?_)
  refine lv_aload_n hx hb dX0_init_53 rfl (lv_at hl 1 rfl) ?_
  refine lv_aload_n hx hb dX0_init_54 rfl (lv_at hl 1 rfl) ?_
  refine cw_getJr (a := h) hF hH fk_X0_43 dX0_init_55 hw (fun z17 hw => ?_)
  refine lv_lconst (v := 0) hx hb dX0_init_58 (by decide) ?_
  obtain ⟨K20, hK21, hw⟩ := jc_open hw
  refine cw_join (K := K20) 77 (fun (x18 : Int32) => [(1, va_rf a1), (0, .ref h)]) (fun (x18 : Int32) => [.int x18, .ref h]) hl hH (fun x18 κ19 ls H locs cells slots hl hw hH => ?_) (fun jn22 => ?_)
  · have hw := hK21 x18 κ19 hw
    have hl : lv_has ls 4 [(1, va_rf a1), (0, .ref h)] := hl
    refine cw_putFI (a := h) (v := x18) hF hH fk_X0_51 dX0_init_77 hin rfl rfl rfl rfl hw (fun κ23 H locs cells slots hw hH => ?_)
    refine lv_aload_n hx hb dX0_init_80 rfl (lv_at hl 1 rfl) ?_
    refine w_aloadq_n hF dX0_init_81 rfl (lv_at hl 0 rfl) ?_
    refine cw_getP (q := a1) hF hH fk_X0_24 dX0_init_82 hw (fun z24 hw => ?_)
    refine lv_aload_n hx hb dX0_init_85 rfl (lv_at hl 1 rfl) ?_
    refine cw_getIr (a := h) hF hH fk_X0_21 dX0_init_86 hw (fun z25 hw => ?_)
    refine lv_bipush (v := 6) hx hb dX0_init_89 (by decide) ?_
    refine lv_iadd hx hb dX0_init_91 ?_
    refine w_nmi hw (fun z26 hw => ?_)
    refine lv_iconst (v := 2) hx hb dX0_init_92 (by decide) ?_
    refine cw_cVlq (q := z24) (As := [.int z26, .int 2]) (rest := [.ref h]) hF hH hA hE mv_X0_39 ci_X6 (by decide) hw (fun b hw sz => c_X6_number l D t G _ b z26 2 _ hw sz) dX0_init_93 ⟨Nat.le_of_ble_eq_true rfl, Nat.le_of_ble_eq_true rfl⟩ rfl hl.1 (Nat.le_of_ble_eq_true rfl) rfl (fun z28 κ27 H locs cells slots hw hH => ?_)
    refine lv_l2i hx hb dX0_init_96 rfl ?_
    refine w_nmi hw (fun z29 hw => ?_)
    refine cw_putFI (a := h) (v := z29) hF hH fk_X0_52 dX0_init_97 hin rfl rfl rfl rfl hw (fun κ30 H locs cells slots hw hH => ?_)
    refine lv_aload_n hx hb dX0_init_100 rfl (lv_at hl 1 rfl) ?_
    refine w_aloadq_n hF dX0_init_101 rfl (lv_at hl 0 rfl) ?_
    refine cw_getP (q := a1) hF hH fk_X0_24 dX0_init_102 hw (fun z31 hw => ?_)
    refine lv_aload_n hx hb dX0_init_105 rfl (lv_at hl 1 rfl) ?_
    refine cw_getIr (a := h) hF hH fk_X0_21 dX0_init_106 hw (fun z32 hw => ?_)
    refine lv_bipush (v := 12) hx hb dX0_init_109 (by decide) ?_
    refine lv_iadd hx hb dX0_init_111 ?_
    refine w_nmi hw (fun z33 hw => ?_)
    refine lv_iconst (v := 2) hx hb dX0_init_112 (by decide) ?_
    refine cw_cVlq (q := z31) (As := [.int z33, .int 2]) (rest := [.ref h]) hF hH hA hE mv_X0_39 ci_X6 (by decide) hw (fun b hw sz => c_X6_number l D t G _ b z33 2 _ hw sz) dX0_init_113 ⟨Nat.le_of_ble_eq_true rfl, Nat.le_of_ble_eq_true rfl⟩ rfl hl.1 (Nat.le_of_ble_eq_true rfl) rfl (fun z35 κ34 H locs cells slots hw hH => ?_)
    refine lv_l2i hx hb dX0_init_116 rfl ?_
    refine w_nmi hw (fun z36 hw => ?_)
    refine cw_putFI (a := h) (v := z36) hF hH fk_X0_55 dX0_init_117 hin rfl rfl rfl rfl hw (fun κ37 H locs cells slots hw hH => ?_)
    refine lv_aload_n hx hb dX0_init_120 rfl (lv_at hl 1 rfl) ?_
    refine w_aloadq_n hF dX0_init_121 rfl (lv_at hl 0 rfl) ?_
    refine cw_getP (q := a1) hF hH fk_X0_24 dX0_init_122 hw (fun z38 hw => ?_)
    refine lv_aload_n hx hb dX0_init_125 rfl (lv_at hl 1 rfl) ?_
    refine cw_getIr (a := h) hF hH fk_X0_21 dX0_init_126 hw (fun z39 hw => ?_)
    refine lv_bipush (v := 14) hx hb dX0_init_129 (by decide) ?_
    refine lv_iadd hx hb dX0_init_131 ?_
    refine w_nmi hw (fun z40 hw => ?_)
    refine lv_iconst (v := 2) hx hb dX0_init_132 (by decide) ?_
    refine cw_cVlq (q := z38) (As := [.int z40, .int 2]) (rest := [.ref h]) hF hH hA hE mv_X0_39 ci_X6 (by decide) hw (fun b hw sz => c_X6_number l D t G _ b z40 2 _ hw sz) dX0_init_133 ⟨Nat.le_of_ble_eq_true rfl, Nat.le_of_ble_eq_true rfl⟩ rfl hl.1 (Nat.le_of_ble_eq_true rfl) rfl (fun z42 κ41 H locs cells slots hw hH => ?_)
    refine lv_l2i hx hb dX0_init_136 rfl ?_
    refine w_nmi hw (fun z43 hw => ?_)
    refine cw_putFI (a := h) (v := z43) hF hH fk_X0_58 dX0_init_137 hin rfl rfl rfl rfl hw (fun κ44 H locs cells slots hw hH => ?_)
    refine lv_aload_n hx hb dX0_init_140 rfl (lv_at hl 1 rfl) ?_
    refine w_aloadq_n hF dX0_init_141 rfl (lv_at hl 0 rfl) ?_
    refine cw_getP (q := a1) hF hH fk_X0_24 dX0_init_142 hw (fun z45 hw => ?_)
    refine lv_aload_n hx hb dX0_init_145 rfl (lv_at hl 1 rfl) ?_
    refine cw_getIr (a := h) hF hH fk_X0_21 dX0_init_146 hw (fun z46 hw => ?_)
    refine lv_bipush (v := 16) hx hb dX0_init_149 (by decide) ?_
    refine lv_iadd hx hb dX0_init_151 ?_
    refine w_nmi hw (fun z47 hw => ?_)
    refine lv_iconst (v := 4) hx hb dX0_init_152 (by decide) ?_
    refine cw_cVlq (q := z45) (As := [.int z47, .int 4]) (rest := [.ref h]) hF hH hA hE mv_X0_39 ci_X6 (by decide) hw (fun b hw sz => c_X6_number l D t G _ b z47 4 _ hw sz) dX0_init_153 ⟨Nat.le_of_ble_eq_true rfl, Nat.le_of_ble_eq_true rfl⟩ rfl hl.1 (Nat.le_of_ble_eq_true rfl) rfl (fun z49 κ48 H locs cells slots hw hH => ?_)
    refine cw_putFJ (a := h) (v := z49) hF hH fk_X0_61 dX0_init_156 hin rfl rfl rfl rfl hw (fun κ50 H locs cells slots hw hH => ?_)
    refine lv_aload_n hx hb dX0_init_159 rfl (lv_at hl 1 rfl) ?_
    refine w_aloadq_n hF dX0_init_160 rfl (lv_at hl 0 rfl) ?_
    refine cw_getP (q := a1) hF hH fk_X0_24 dX0_init_161 hw (fun z51 hw => ?_)
    refine lv_aload_n hx hb dX0_init_164 rfl (lv_at hl 1 rfl) ?_
    refine cw_getIr (a := h) hF hH fk_X0_21 dX0_init_165 hw (fun z52 hw => ?_)
    refine lv_bipush (v := 24) hx hb dX0_init_168 (by decide) ?_
    refine lv_iadd hx hb dX0_init_170 ?_
    refine w_nmi hw (fun z53 hw => ?_)
    refine lv_bipush (v := 8) hx hb dX0_init_171 (by decide) ?_
    refine cw_cVlq (q := z51) (As := [.int z53, .int 8]) (rest := [.ref h]) hF hH hA hE mv_X0_39 ci_X6 (by decide) hw (fun b hw sz => c_X6_number l D t G _ b z53 8 _ hw sz) dX0_init_173 ⟨Nat.le_of_ble_eq_true rfl, Nat.le_of_ble_eq_true rfl⟩ rfl hl.1 (Nat.le_of_ble_eq_true rfl) rfl (fun z55 κ54 H locs cells slots hw hH => ?_)
    refine cw_putFJ (a := h) (v := z55) hF hH fk_X0_64 dX0_init_176 hin rfl rfl rfl rfl hw (fun κ56 H locs cells slots hw hH => ?_)
    refine lv_aload_n hx hb dX0_init_179 rfl (lv_at hl 1 rfl) ?_
    refine w_aloadq_n hF dX0_init_180 rfl (lv_at hl 0 rfl) ?_
    refine cw_getP (q := a1) hF hH fk_X0_24 dX0_init_181 hw (fun z57 hw => ?_)
    refine lv_aload_n hx hb dX0_init_184 rfl (lv_at hl 1 rfl) ?_
    refine cw_getIr (a := h) hF hH fk_X0_21 dX0_init_185 hw (fun z58 hw => ?_)
    refine lv_bipush (v := 32) hx hb dX0_init_188 (by decide) ?_
    refine lv_iadd hx hb dX0_init_190 ?_
    refine w_nmi hw (fun z59 hw => ?_)
    refine lv_iconst (v := 4) hx hb dX0_init_191 (by decide) ?_
    refine cw_cVlq (q := z57) (As := [.int z59, .int 4]) (rest := [.ref h]) hF hH hA hE mv_X0_39 ci_X6 (by decide) hw (fun b hw sz => c_X6_number l D t G _ b z59 4 _ hw sz) dX0_init_192 ⟨Nat.le_of_ble_eq_true rfl, Nat.le_of_ble_eq_true rfl⟩ rfl hl.1 (Nat.le_of_ble_eq_true rfl) rfl (fun z61 κ60 H locs cells slots hw hH => ?_)
    refine cw_putFJ (a := h) (v := z61) hF hH fk_X0_67 dX0_init_195 hin rfl rfl rfl rfl hw (fun κ62 H locs cells slots hw hH => ?_)
    refine lv_aload_n hx hb dX0_init_198 rfl (lv_at hl 1 rfl) ?_
    refine cw_getJr (a := h) hF hH fk_X0_61 dX0_init_199 hw (fun z63 hw => ?_)
    refine lv_ldc2 (v := 4) hx hb hF.1.2.2.2.1 (hF.1.2.2.2.2 _ (wc_15 0 rfl)) dX0_init_202 ?_
    refine lv_land hx hb dX0_init_205 ?_
    refine w_nml hw (fun z64 hw => ?_)
    refine lv_lconst (v := 0) hx hb dX0_init_206 (by decide) ?_
    obtain ⟨K67, hK68, hw⟩ := jc_open hw
    refine cw_join (K := K67) 216 (fun (x65 : Int32) => [(1, va_rf a1), (0, .ref h)]) (fun (x65 : Int32) => [.int x65]) hl hH (fun x65 κ66 ls H locs cells slots hl hw hH => ?_) (fun jn69 => ?_)
    · have hw := hK68 x65 κ66 hw
      have hl : lv_has ls 4 [(1, va_rf a1), (0, .ref h)] := hl
      refine lv_istore_n (lv' := [(3, .int x65), (1, va_rf a1), (0, .ref h)]) hx hb dX0_init_216 rfl hl (by decide) rfl (fun ls hl => ?_)
      refine lv_aload_n hx hb dX0_init_217 rfl (lv_at hl 2 rfl) ?_
      refine lv_iload_n hx hb dX0_init_218 rfl (lv_at hl 0 rfl) ?_
      obtain ⟨K72, hK73, hw⟩ := jc_open hw
      refine cw_join (K := K72) 244 (fun (x70 : Int64) => [(3, .int x65), (1, va_rf a1), (0, .ref h)]) (fun (x70 : Int64) => [.long x70, .ref h]) hl hH (fun x70 κ71 ls H locs cells slots hl hw hH => ?_) (fun jn74 => ?_)
      · have hw := hK73 x70 κ71 hw
        have hl : lv_has ls 4 [(3, .int x65), (1, va_rf a1), (0, .ref h)] := hl
        refine cw_putJr (a := h) (v := x70) hF hH fk_X0_75 dX0_init_244 rfl rfl rfl hw (fun κ75 H locs cells slots hw hH => ?_)
        refine lv_aload_n hx hb dX0_init_247 rfl (lv_at hl 2 rfl) ?_
        refine lv_iload_n hx hb dX0_init_248 rfl (lv_at hl 0 rfl) ?_
        obtain ⟨K78, hK79, hw⟩ := jc_open hw
        refine cw_join (K := K78) 275 (fun (x76 : Int64) => [(3, .int x65), (1, va_rf a1), (0, .ref h)]) (fun (x76 : Int64) => [.long x76, .ref h]) hl hH (fun x76 κ77 ls H locs cells slots hl hw hH => ?_) (fun jn80 => ?_)
        · have hw := hK79 x76 κ77 hw
          have hl : lv_has ls 4 [(3, .int x65), (1, va_rf a1), (0, .ref h)] := hl
          refine cw_putJr (a := h) (v := x76) hF hH fk_X0_81 dX0_init_275 rfl rfl rfl hw (fun κ81 H locs cells slots hw hH => ?_)
          refine lv_aload_n hx hb dX0_init_278 rfl (lv_at hl 2 rfl) ?_
          refine lv_iload_n hx hb dX0_init_279 rfl (lv_at hl 0 rfl) ?_
          obtain ⟨K84, hK85, hw⟩ := jc_open hw
          refine cw_join (K := K84) 295 (fun (x82 : Int32) => []) (fun (x82 : Int32) => [.int x82, .ref h]) hl hH (fun x82 κ83 ls H locs cells slots hl hw hH => ?_) (fun jn86 => ?_)
          · have hw := hK85 x82 κ83 hw
            have hl : lv_has ls 4 [] := hl
            refine cw_putFZ (a := h) (v := x82) hF hH fk_X0_88 dX0_init_295 hin rfl rfl rfl hw (fun κ87 H locs cells slots hw hH => ?_)
            exact cw_retv hF hH ⟨rfl, rfl⟩ hr hlk dX0_init_298 hw
          · skip
            obtain ⟨K90, hK91, hw⟩ := jc_open hw
            refine cw_join (K := K90) 294 (fun (x88 : Unit) => []) (fun (x88 : Unit) => [.ref h]) hl hH (fun x88 κ89 ls H locs cells slots hl hw hH => ?_) (fun jn92 => ?_)
            · have hw := hK91 x88 κ89 hw
              have hl : lv_has ls 4 [] := hl
              refine lv_iconst (v := 0) hx hb dX0_init_294 (by decide) ?_
              exact jn86 0 κ89 ls _ _ _ _ hl hw hH
            · skip
              refine w_if_eq (tgt := 294) hF dX0_init_280 rfl hw (fun hw => ?_) (fun hw => ?_)
              · have hl : lv_has ls 4 [] := lv_sub hl [] rfl
                exact jn92 () κ81 ls _ _ _ _ hl hw hH
              · refine w_aloadq_n hF dX0_init_283 rfl (lv_at hl 1 rfl) ?_
                refine cw_getI (q := a1) hF hH fk_X0_84 dX0_init_284 hw (fun z93 hw => ?_)
                refine w_if_eq (tgt := 294) hF dX0_init_287 rfl hw (fun hw => ?_) (fun hw => ?_)
                · have hl : lv_has ls 4 [] := lv_sub hl [] rfl
                  exact jn92 () κ81 ls _ _ _ _ hl hw hH
                · refine lv_iconst (v := 1) hx hb dX0_init_290 (by decide) ?_
                  refine lv_goto (tgt := 295) hx hb dX0_init_291 rfl ?_
                  have hl : lv_has ls 4 [] := lv_sub hl [] rfl
                  exact jn86 1 κ81 ls _ _ _ _ hl hw hH
        · skip
          refine w_if_eq (tgt := 259) hF dX0_init_249 rfl hw (fun hw => ?_) (fun hw => ?_)
          · refine w_aloadq_n hF dX0_init_259 rfl (lv_at hl 1 rfl) ?_
            refine cw_getP (q := a1) hF hH fk_X0_24 dX0_init_260 hw (fun z94 hw => ?_)
            refine lv_aload_n hx hb dX0_init_263 rfl (lv_at hl 2 rfl) ?_
            refine cw_getIr (a := h) hF hH fk_X0_21 dX0_init_264 hw (fun z95 hw => ?_)
            refine lv_bipush (v := 40) hx hb dX0_init_267 (by decide) ?_
            refine lv_iadd hx hb dX0_init_269 ?_
            refine w_nmi hw (fun z96 hw => ?_)
            refine lv_bipush (v := 8) hx hb dX0_init_270 (by decide) ?_
            refine cw_cVlq (q := z94) (As := [.int z96, .int 8]) (rest := [.ref h]) hF hH hA hE mv_X0_39 ci_X6 (by decide) hw (fun b hw sz => c_X6_number l D t G _ b z96 8 _ hw sz) dX0_init_272 ⟨Nat.le_of_ble_eq_true rfl, Nat.le_of_ble_eq_true rfl⟩ rfl hl.1 (Nat.le_of_ble_eq_true rfl) rfl (fun z98 κ97 H locs cells slots hw hH => ?_)
            exact jn80 z98 κ97 ls _ _ _ _ hl hw hH
          · refine w_aloadq_n hF dX0_init_252 rfl (lv_at hl 1 rfl) ?_
            refine cw_getJ (q := a1) hF hH fk_X0_78 dX0_init_253 hw (fun z99 hw => ?_)
            refine lv_goto (tgt := 275) hx hb dX0_init_256 rfl ?_
            exact jn80 z99 κ75 ls _ _ _ _ hl hw hH
      · skip
        refine w_if_eq (tgt := 229) hF dX0_init_219 rfl hw (fun hw => ?_) (fun hw => ?_)
        · refine w_aloadq_n hF dX0_init_229 rfl (lv_at hl 1 rfl) ?_
          refine cw_getP (q := a1) hF hH fk_X0_24 dX0_init_230 hw (fun z100 hw => ?_)
          refine lv_aload_n hx hb dX0_init_233 rfl (lv_at hl 2 rfl) ?_
          refine cw_getIr (a := h) hF hH fk_X0_21 dX0_init_234 hw (fun z101 hw => ?_)
          refine lv_bipush (v := 36) hx hb dX0_init_237 (by decide) ?_
          refine lv_iadd hx hb dX0_init_239 ?_
          refine w_nmi hw (fun z102 hw => ?_)
          refine lv_iconst (v := 4) hx hb dX0_init_240 (by decide) ?_
          refine cw_cVlq (q := z100) (As := [.int z102, .int 4]) (rest := [.ref h]) hF hH hA hE mv_X0_39 ci_X6 (by decide) hw (fun b hw sz => c_X6_number l D t G _ b z102 4 _ hw sz) dX0_init_241 ⟨Nat.le_of_ble_eq_true rfl, Nat.le_of_ble_eq_true rfl⟩ rfl hl.1 (Nat.le_of_ble_eq_true rfl) rfl (fun z104 κ103 H locs cells slots hw hH => ?_)
          exact jn74 z104 κ103 ls _ _ _ _ hl hw hH
        · refine w_aloadq_n hF dX0_init_222 rfl (lv_at hl 1 rfl) ?_
          refine cw_getJ (q := a1) hF hH fk_X0_72 dX0_init_223 hw (fun z105 hw => ?_)
          refine lv_goto (tgt := 244) hx hb dX0_init_226 rfl ?_
          exact jn74 z105 κ66 ls _ _ _ _ hl hw hH
    · skip
      refine w_lif_eq (tgt := 215) hF dX0_init_207 dX0_init_208 rfl hw (fun hw => ?_) (fun hw => ?_)
      · refine lv_iconst (v := 0) hx hb dX0_init_215 (by decide) ?_
        exact jn69 0 κ62 ls _ _ _ _ hl hw hH
      · refine lv_iconst (v := 1) hx hb dX0_init_211 (by decide) ?_
        refine lv_goto (tgt := 216) hx hb dX0_init_212 rfl ?_
        exact jn69 1 κ62 ls _ _ _ _ hl hw hH
  · skip
    refine w_lif_ne (tgt := 67) hF dX0_init_59 dX0_init_60 rfl hw (fun hw => ?_) (fun hw => ?_)
    · refine lv_aload_n hx hb dX0_init_67 rfl (lv_at hl 1 rfl) ?_
      refine cw_getJr (a := h) hF hH fk_X0_43 dX0_init_68 hw (fun z106 hw => ?_)
      refine lv_iload_n hx hb dX0_init_71 rfl (lv_at hl 0 rfl) ?_
      refine lv_i2l hx hb dX0_init_72 rfl ?_
      refine w_nml hw (fun z107 hw => ?_)
      refine cw_mminl hF hH hl.1 (wc_20 6 rfl) (wc_20 8 rfl) (wc_5 5 rfl) (wc_20 7 rfl) (Nat.le_of_ble_eq_true rfl) (Nat.le_of_ble_eq_true rfl) dX0_init_73 hw (fun z109 hw => ?_)
      refine lv_l2i hx hb dX0_init_76 rfl ?_
      refine w_nmi hw (fun z110 hw => ?_)
      have hl : lv_has ls 4 [(1, va_rf a1), (0, .ref h)] := lv_sub hl [2, 1] rfl
      exact jn22 z110 κ16 ls _ _ _ _ hl hw hH
    · refine lv_iload_n hx hb dX0_init_63 rfl (lv_at hl 0 rfl) ?_
      refine lv_goto (tgt := 77) hx hb dX0_init_64 rfl ?_
      have hl : lv_has ls 4 [(1, va_rf a1), (0, .ref h)] := lv_sub hl [2, 1] rfl
      exact jn22 z10 κ16 ls _ _ _ _ hl hw hH
set_option maxRecDepth 100000 in
def F_X0_related (G : GE) (h : Nat) (post : Int32 → CS → Prop) (κ : CS) : Prop := (h ∈ sL κ.1 ∧ sK κ.1 h = 8) ∧ ∀ z1 : Int64, z1 = sJ κ.1 h 7 → ∀ z2 : Int64, z2 = z1 &&& 4 → jc (fun (K5 : Int32 → CS → Prop) => ((z2.toInt = (0 : Int64).toInt) → K5 0 κ) ∧ ((¬ z2.toInt = (0 : Int64).toInt) → K5 1 κ)) (fun (x3 : Int32) (κ4 : CS) => (0 ≤ x3.toInt ∧ x3.toInt ≤ 1) ∧ post x3 κ4)
theorem dX0_related_0 : decode cX0_related 0 = .ok (.aload_n 0, 1) := by decide +kernel
theorem dX0_related_1 : decode cX0_related 1 = .ok (.getfield 61, 3) := by decide +kernel
theorem dX0_related_4 : decode cX0_related 4 = .ok (.ldc2_w 70, 3) := by decide +kernel
theorem dX0_related_7 : decode cX0_related 7 = .ok (.land, 1) := by decide +kernel
theorem dX0_related_8 : decode cX0_related 8 = .ok (.lconst 0, 1) := by decide +kernel
theorem dX0_related_9 : decode cX0_related 9 = .ok (.lcmp, 1) := by decide +kernel
theorem dX0_related_10 : decode cX0_related 10 = .ok (.ifCond .eq 7, 3) := by decide +kernel
theorem dX0_related_13 : decode cX0_related 13 = .ok (.iconst 1, 1) := by decide +kernel
theorem dX0_related_14 : decode cX0_related 14 = .ok (.goto 4, 3) := by decide +kernel
theorem dX0_related_17 : decode cX0_related 17 = .ok (.iconst 0, 1) := by decide +kernel
theorem dX0_related_18 : decode cX0_related 18 = .ok (.ireturn, 1) := by decide +kernel
set_option maxRecDepth 100000 in
set_option maxHeartbeats 4000000 in
theorem c_X0_related (l : Launch) (D : va_G) (t : Nat → ClassId) (G : GE) (κ : CS) (h : Nat) (post : Int32 → CS → Prop) (hw : F_X0_related G h post κ) (sz : Nat) : CMi l D t yX0_related cX0_related 1 (some .boolean) 0 14 G κ sz [.ref h] post := by
  refine c_go (by decide) (Nat.le_of_ble_eq_true rfl) ?_
  intro p e s m below meth c ls A hF hr hlk hin hAe hH hA hE hl
  unfold cB
  rw [hAe]
  clear hAe
  have hF : FX p m c cX0_related 1 s _ RX0 D t := hF
  have hx := hF.1.1
  have hb := hF.1.2.1
  have hl : lv_has ls 1 [(0, .ref h)] := hl
  unfold F_X0_related at hw
  refine lv_aload_n hx hb dX0_related_0 rfl (lv_at hl 0 rfl) ?_
  refine cw_getJr (a := h) hF hH fk_X0_61 dX0_related_1 hw (fun z1 hw => ?_)
  refine lv_ldc2 (v := 4) hx hb hF.1.2.2.2.1 (hF.1.2.2.2.2 _ (wc_15 0 rfl)) dX0_related_4 ?_
  refine lv_land hx hb dX0_related_7 ?_
  refine w_nml hw (fun z2 hw => ?_)
  refine lv_lconst (v := 0) hx hb dX0_related_8 (by decide) ?_
  obtain ⟨K5, hK6, hw⟩ := jc_open hw
  refine cw_join (K := K5) 18 (fun (x3 : Int32) => []) (fun (x3 : Int32) => [.int x3]) hl hH (fun x3 κ4 ls H locs cells slots hl hw hH => ?_) (fun jn7 => ?_)
  · have hw := hK6 x3 κ4 hw
    have hl : lv_has ls 1 [] := hl
    exact cw_retz hF hH ⟨rfl, rfl⟩ hr hlk dX0_related_18 hw
  · skip
    refine w_lif_eq (tgt := 17) hF dX0_related_9 dX0_related_10 rfl hw (fun hw => ?_) (fun hw => ?_)
    · refine lv_iconst (v := 0) hx hb dX0_related_17 (by decide) ?_
      have hl : lv_has ls 1 [] := lv_sub hl [] rfl
      exact jn7 0 κ ls _ _ _ _ hl hw hH
    · refine lv_iconst (v := 1) hx hb dX0_related_13 (by decide) ?_
      refine lv_goto (tgt := 18) hx hb dX0_related_14 rfl ?_
      have hl : lv_has ls 1 [] := lv_sub hl [] rfl
      exact jn7 1 κ ls _ _ _ _ hl hw hH
set_option maxRecDepth 100000 in
def F_X0_last (G : GE) (h : Nat) (post : Int32 → CS → Prop) (κ : CS) : Prop := (h ∈ sL κ.1 ∧ sK κ.1 h = 8) ∧ ∀ z1 : Int64, z1 = sJ κ.1 h 3 → jc (fun (K4 : Int32 → CS → Prop) => ((¬ z1.toInt = (0 : Int64).toInt) → K4 0 κ) ∧ ((z1.toInt = (0 : Int64).toInt) → K4 1 κ)) (fun (x2 : Int32) (κ3 : CS) => (0 ≤ x2.toInt ∧ x2.toInt ≤ 1) ∧ post x2 κ3)
theorem dX0_last_0 : decode cX0_last 0 = .ok (.aload_n 0, 1) := by decide +kernel
theorem dX0_last_1 : decode cX0_last 1 = .ok (.getfield 43, 3) := by decide +kernel
theorem dX0_last_4 : decode cX0_last 4 = .ok (.lconst 0, 1) := by decide +kernel
theorem dX0_last_5 : decode cX0_last 5 = .ok (.lcmp, 1) := by decide +kernel
theorem dX0_last_6 : decode cX0_last 6 = .ok (.ifCond .ne 7, 3) := by decide +kernel
theorem dX0_last_9 : decode cX0_last 9 = .ok (.iconst 1, 1) := by decide +kernel
theorem dX0_last_10 : decode cX0_last 10 = .ok (.goto 4, 3) := by decide +kernel
theorem dX0_last_13 : decode cX0_last 13 = .ok (.iconst 0, 1) := by decide +kernel
theorem dX0_last_14 : decode cX0_last 14 = .ok (.ireturn, 1) := by decide +kernel
set_option maxRecDepth 100000 in
set_option maxHeartbeats 4000000 in
theorem c_X0_last (l : Launch) (D : va_G) (t : Nat → ClassId) (G : GE) (κ : CS) (h : Nat) (post : Int32 → CS → Prop) (hw : F_X0_last G h post κ) (sz : Nat) : CMi l D t yX0_last cX0_last 1 (some .boolean) 0 14 G κ sz [.ref h] post := by
  refine c_go (by decide) (Nat.le_of_ble_eq_true rfl) ?_
  intro p e s m below meth c ls A hF hr hlk hin hAe hH hA hE hl
  unfold cB
  rw [hAe]
  clear hAe
  have hF : FX p m c cX0_last 1 s _ RX0 D t := hF
  have hx := hF.1.1
  have hb := hF.1.2.1
  have hl : lv_has ls 1 [(0, .ref h)] := hl
  unfold F_X0_last at hw
  refine lv_aload_n hx hb dX0_last_0 rfl (lv_at hl 0 rfl) ?_
  refine cw_getJr (a := h) hF hH fk_X0_43 dX0_last_1 hw (fun z1 hw => ?_)
  refine lv_lconst (v := 0) hx hb dX0_last_4 (by decide) ?_
  obtain ⟨K4, hK5, hw⟩ := jc_open hw
  refine cw_join (K := K4) 14 (fun (x2 : Int32) => []) (fun (x2 : Int32) => [.int x2]) hl hH (fun x2 κ3 ls H locs cells slots hl hw hH => ?_) (fun jn6 => ?_)
  · have hw := hK5 x2 κ3 hw
    have hl : lv_has ls 1 [] := hl
    exact cw_retz hF hH ⟨rfl, rfl⟩ hr hlk dX0_last_14 hw
  · skip
    refine w_lif_ne (tgt := 13) hF dX0_last_5 dX0_last_6 rfl hw (fun hw => ?_) (fun hw => ?_)
    · refine lv_iconst (v := 0) hx hb dX0_last_13 (by decide) ?_
      have hl : lv_has ls 1 [] := lv_sub hl [] rfl
      exact jn6 0 κ ls _ _ _ _ hl hw hH
    · refine lv_iconst (v := 1) hx hb dX0_last_9 (by decide) ?_
      refine lv_goto (tgt := 14) hx hb dX0_last_10 rfl ?_
      have hl : lv_has ls 1 [] := lv_sub hl [] rfl
      exact jn6 1 κ ls _ _ _ _ hl hw hH
set_option maxRecDepth 100000 in
def F_X0_number (G : GE) (h : Nat) (a1 : Int32) (a2 : Int32) (post : Int64 → CS → Prop) (κ : CS) : Prop := (h ∈ sL κ.1 ∧ sK κ.1 h = 8) ∧ ∀ z1 : Option Nat, z1 = sP κ.1 h 0 → ∃ b : Nat, z1 = some b ∧ (b ∈ sL κ.1 ∧ sK κ.1 b = 3) ∧ ∀ z2 : Option Nat, z2 = sP κ.1 b 2 → (h ∈ sL κ.1 ∧ sK κ.1 h = 8) ∧ ∀ z3 : Int32, z3 = sI κ.1 h 1 → ∀ z4 : Int32, z4 = z3 + a1 → ∃ b : Nat, z2 = some b ∧ (b ∈ sL κ.1 ∧ sK κ.1 b = 2) ∧ F_X6_number G b z4 a2 (fun (z6 : Int64) (κ5 : CS) => post z6 κ5) κ
theorem dX0_number_0 : decode cX0_number 0 = .ok (.aload_n 0, 1) := by decide +kernel
theorem dX0_number_1 : decode cX0_number 1 = .ok (.getfield 9, 3) := by decide +kernel
theorem dX0_number_4 : decode cX0_number 4 = .ok (.getfield 24, 3) := by decide +kernel
theorem dX0_number_7 : decode cX0_number 7 = .ok (.aload_n 0, 1) := by decide +kernel
theorem dX0_number_8 : decode cX0_number 8 = .ok (.getfield 21, 3) := by decide +kernel
theorem dX0_number_11 : decode cX0_number 11 = .ok (.iload_n 1, 1) := by decide +kernel
theorem dX0_number_12 : decode cX0_number 12 = .ok (.iadd, 1) := by decide +kernel
theorem dX0_number_13 : decode cX0_number 13 = .ok (.iload_n 2, 1) := by decide +kernel
theorem dX0_number_14 : decode cX0_number 14 = .ok (.invokevirtual 39, 3) := by decide +kernel
theorem dX0_number_17 : decode cX0_number 17 = .ok (.lreturn, 1) := by decide +kernel
set_option maxRecDepth 100000 in
set_option maxHeartbeats 4000000 in
theorem c_X0_number (l : Launch) (D : va_G) (t : Nat → ClassId) (G : GE) (κ : CS) (h : Nat) (a1 : Int32) (a2 : Int32) (post : Int64 → CS → Prop) (hw : F_X0_number G h a1 a2 post κ) (sz : Nat) : CMl l D t yX0_number cX0_number 3 (some .long) 1 40 G κ sz [.ref h, .int a1, .int a2] post := by
  refine c_go (by decide) (Nat.le_of_ble_eq_true rfl) ?_
  intro p e s m below meth c ls A hF hr hlk hin hAe hH hA hE hl
  unfold cB
  rw [hAe]
  clear hAe
  have hF : FX p m c cX0_number 3 s _ RX0 D t := hF
  have hx := hF.1.1
  have hb := hF.1.2.1
  have hl : lv_has ls 3 [(0, .ref h), (1, .int a1), (2, .int a2)] := hl
  unfold F_X0_number at hw
  refine lv_aload_n hx hb dX0_number_0 rfl (lv_at hl 0 rfl) ?_
  refine cw_getPr (a := h) hF hH fk_X0_9 dX0_number_1 hw (fun z1 hw => ?_)
  refine cw_getP (q := z1) hF hH fk_X0_24 dX0_number_4 hw (fun z2 hw => ?_)
  refine lv_aload_n hx hb dX0_number_7 rfl (lv_at hl 0 rfl) ?_
  refine cw_getIr (a := h) hF hH fk_X0_21 dX0_number_8 hw (fun z3 hw => ?_)
  refine lv_iload_n hx hb dX0_number_11 rfl (lv_at hl 1 rfl) ?_
  refine lv_iadd hx hb dX0_number_12 ?_
  refine w_nmi hw (fun z4 hw => ?_)
  refine lv_iload_n hx hb dX0_number_13 rfl (lv_at hl 2 rfl) ?_
  refine cw_cVlq (q := z2) (As := [.int z4, .int a2]) (rest := []) hF hH hA hE mv_X0_39 ci_X6 (by decide) hw (fun b hw sz => c_X6_number l D t G _ b z4 a2 _ hw sz) dX0_number_14 ⟨Nat.le_of_ble_eq_true rfl, Nat.le_of_ble_eq_true rfl⟩ rfl hl.1 (Nat.le_of_ble_eq_true rfl) rfl (fun z6 κ5 H locs cells slots hw hH => ?_)
  exact cw_retl hF hH ⟨rfl, rfl⟩ hr hlk dX0_number_17 hw
set_option maxRecDepth 100000 in
def F_X0_stands (G : GE) (h : Nat) (post : Int32 → CS → Prop) (κ : CS) : Prop := (h ∈ sL κ.1 ∧ sK κ.1 h = 8) ∧ ∀ z1 : Option Nat, z1 = sP κ.1 h 0 → ∃ b : Nat, z1 = some b ∧ (b ∈ sL κ.1 ∧ sK κ.1 b = 3) ∧ ∀ z2 : Option Nat, z2 = sP κ.1 b 2 → ∃ b : Nat, z2 = some b ∧ (b ∈ sL κ.1 ∧ sK κ.1 b = 2) ∧ ∀ z3 : Int32, z3 = sI κ.1 b 1 → (h ∈ sL κ.1 ∧ sK κ.1 h = 8) ∧ ∀ z4 : Int32, z4 = sI κ.1 h 1 → ∀ z5 : Int32, z5 = z3 - z4 → (h ∈ sL κ.1 ∧ sK κ.1 h = 8) ∧ ∀ z6 : Int64, z6 = sJ κ.1 h 3 → jc (fun (K9 : Int32 → CS → Prop) => jc (fun (K43 : Unit → CS → Prop) => ((z6.toInt = (0 : Int64).toInt) → K43 () κ) ∧ ((¬ z6.toInt = (0 : Int64).toInt) → (h ∈ sL κ.1 ∧ sK κ.1 h = 8) ∧ ∀ z46 : Int64, z46 = sJ κ.1 h 3 → ∀ z47 : Int64, z47 = z46 - z46 / 8 * 8 → jc (fun (K50 : Unit → CS → Prop) => ((¬ z47.toInt = (0 : Int64).toInt) → K50 () κ) ∧ ((z47.toInt = (0 : Int64).toInt) → (h ∈ sL κ.1 ∧ sK κ.1 h = 8) ∧ ∀ z53 : Int64, z53 = sJ κ.1 h 3 → ((z53.toInt < (64 : Int64).toInt) → K50 () κ) ∧ (((64 : Int64).toInt ≤ z53.toInt) → (h ∈ sL κ.1 ∧ sK κ.1 h = 8) ∧ ∀ z54 : Int64, z54 = sJ κ.1 h 3 → ∀ z55 : Int32, z55 = z5 - 64 → ∀ z56 : Int64, z56 = (z55 : Int32).toInt64 → ((z56.toInt < z54.toInt) → K50 () κ) ∧ ((z54.toInt ≤ z56.toInt) → K43 () κ)))) (fun (x48 : Unit) (κ49 : CS) => K9 0 κ49))) (fun (x41 : Unit) (κ42 : CS) => K9 1 κ42)) (fun (x7 : Int32) (κ8 : CS) => (h ∈ sL κ8.1 ∧ sK κ8.1 h = 8) ∧ ∀ z12 : Int32, z12 = sI κ8.1 h 1 → jc (fun (K15 : Int32 → CS → Prop) => ((¬ z12.toInt = (4 : Int32).toInt) → K15 0 κ8) ∧ ((z12.toInt = (4 : Int32).toInt) → K15 1 κ8)) (fun (x13 : Int32) (κ14 : CS) => jc (fun (K20 : Int32 → CS → Prop) => jc (fun (K25 : Unit → CS → Prop) => ((z5.toInt < (64 : Int32).toInt) → K25 () κ14) ∧ (((64 : Int32).toInt ≤ z5.toInt) → (h ∈ sL κ14.1 ∧ sK κ14.1 h = 8) ∧ F_X0_number G h 0 4 (fun (z29 : Int64) (κ28 : CS) => ((¬ z29.toInt = (1112364030 : Int64).toInt) → K25 () κ28) ∧ ((z29.toInt = (1112364030 : Int64).toInt) → (h ∈ sL κ28.1 ∧ sK κ28.1 h = 8) ∧ F_X0_number G h 4 2 (fun (z31 : Int64) (κ30 : CS) => ((¬ z31.toInt = (64 : Int64).toInt) → K25 () κ30) ∧ ((z31.toInt = (64 : Int64).toInt) → (h ∈ sL κ30.1 ∧ sK κ30.1 h = 8) ∧ ∀ z32 : Int64, z32 = sJ κ30.1 h 7 → ∀ z33 : Int64, z33 = z32 &&& 1 → ((¬ z33.toInt = (0 : Int64).toInt) → K25 () κ30) ∧ ((z33.toInt = (0 : Int64).toInt) → ((x7.toInt = 0) → K25 () κ30) ∧ ((¬ x7.toInt = 0) → jc (fun (K36 : Unit → CS → Prop) => ((x13.toInt = 0) → K36 () κ30) ∧ ((¬ x13.toInt = 0) → (h ∈ sL κ30.1 ∧ sK κ30.1 h = 8) ∧ F_X0_related G h  (fun (z40 : Int32) (κ39 : CS) => ((¬ z40.toInt = 0) → K25 () κ39) ∧ ((z40.toInt = 0) → K36 () κ39)) κ30)) (fun (x34 : Unit) (κ35 : CS) => K20 1 κ35))))) κ28)) κ14)) (fun (x23 : Unit) (κ24 : CS) => K20 0 κ24)) (fun (x18 : Int32) (κ19 : CS) => (0 ≤ x18.toInt ∧ x18.toInt ≤ 1) ∧ post x18 κ19)))
theorem dX0_stands_0 : decode cX0_stands 0 = .ok (.aload_n 0, 1) := by decide +kernel
theorem dX0_stands_1 : decode cX0_stands 1 = .ok (.getfield 9, 3) := by decide +kernel
theorem dX0_stands_4 : decode cX0_stands 4 = .ok (.getfield 24, 3) := by decide +kernel
theorem dX0_stands_7 : decode cX0_stands 7 = .ok (.getfield 28, 3) := by decide +kernel
theorem dX0_stands_10 : decode cX0_stands 10 = .ok (.aload_n 0, 1) := by decide +kernel
theorem dX0_stands_11 : decode cX0_stands 11 = .ok (.getfield 21, 3) := by decide +kernel
theorem dX0_stands_14 : decode cX0_stands 14 = .ok (.isub, 1) := by decide +kernel
theorem dX0_stands_15 : decode cX0_stands 15 = .ok (.istore_n 1, 1) := by decide +kernel
theorem dX0_stands_16 : decode cX0_stands 16 = .ok (.aload_n 0, 1) := by decide +kernel
theorem dX0_stands_17 : decode cX0_stands 17 = .ok (.getfield 43, 3) := by decide +kernel
theorem dX0_stands_20 : decode cX0_stands 20 = .ok (.lconst 0, 1) := by decide +kernel
theorem dX0_stands_21 : decode cX0_stands 21 = .ok (.lcmp, 1) := by decide +kernel
theorem dX0_stands_22 : decode cX0_stands 22 = .ok (.ifCond .eq 40, 3) := by decide +kernel
theorem dX0_stands_25 : decode cX0_stands 25 = .ok (.aload_n 0, 1) := by decide +kernel
theorem dX0_stands_26 : decode cX0_stands 26 = .ok (.getfield 43, 3) := by decide +kernel
theorem dX0_stands_29 : decode cX0_stands 29 = .ok (.ldc2_w 91, 3) := by decide +kernel
theorem dX0_stands_32 : decode cX0_stands 32 = .ok (.lrem, 1) := by decide +kernel
theorem dX0_stands_33 : decode cX0_stands 33 = .ok (.lconst 0, 1) := by decide +kernel
theorem dX0_stands_34 : decode cX0_stands 34 = .ok (.lcmp, 1) := by decide +kernel
theorem dX0_stands_35 : decode cX0_stands 35 = .ok (.ifCond .ne 31, 3) := by decide +kernel
theorem dX0_stands_38 : decode cX0_stands 38 = .ok (.aload_n 0, 1) := by decide +kernel
theorem dX0_stands_39 : decode cX0_stands 39 = .ok (.getfield 43, 3) := by decide +kernel
theorem dX0_stands_42 : decode cX0_stands 42 = .ok (.ldc2_w 93, 3) := by decide +kernel
theorem dX0_stands_45 : decode cX0_stands 45 = .ok (.lcmp, 1) := by decide +kernel
theorem dX0_stands_46 : decode cX0_stands 46 = .ok (.ifCond .lt 20, 3) := by decide +kernel
theorem dX0_stands_49 : decode cX0_stands 49 = .ok (.aload_n 0, 1) := by decide +kernel
theorem dX0_stands_50 : decode cX0_stands 50 = .ok (.getfield 43, 3) := by decide +kernel
theorem dX0_stands_53 : decode cX0_stands 53 = .ok (.iload_n 1, 1) := by decide +kernel
theorem dX0_stands_54 : decode cX0_stands 54 = .ok (.bipush 64, 2) := by decide +kernel
theorem dX0_stands_56 : decode cX0_stands 56 = .ok (.isub, 1) := by decide +kernel
theorem dX0_stands_57 : decode cX0_stands 57 = .ok (.i2l, 1) := by decide +kernel
theorem dX0_stands_58 : decode cX0_stands 58 = .ok (.lcmp, 1) := by decide +kernel
theorem dX0_stands_59 : decode cX0_stands 59 = .ok (.ifCond .gt 7, 3) := by decide +kernel
theorem dX0_stands_62 : decode cX0_stands 62 = .ok (.iconst 1, 1) := by decide +kernel
theorem dX0_stands_63 : decode cX0_stands 63 = .ok (.goto 4, 3) := by decide +kernel
theorem dX0_stands_66 : decode cX0_stands 66 = .ok (.iconst 0, 1) := by decide +kernel
theorem dX0_stands_67 : decode cX0_stands 67 = .ok (.istore_n 2, 1) := by decide +kernel
theorem dX0_stands_68 : decode cX0_stands 68 = .ok (.aload_n 0, 1) := by decide +kernel
theorem dX0_stands_69 : decode cX0_stands 69 = .ok (.getfield 21, 3) := by decide +kernel
theorem dX0_stands_72 : decode cX0_stands 72 = .ok (.iconst 4, 1) := by decide +kernel
theorem dX0_stands_73 : decode cX0_stands 73 = .ok (.if_icmp .ne 7, 3) := by decide +kernel
theorem dX0_stands_76 : decode cX0_stands 76 = .ok (.iconst 1, 1) := by decide +kernel
theorem dX0_stands_77 : decode cX0_stands 77 = .ok (.goto 4, 3) := by decide +kernel
theorem dX0_stands_80 : decode cX0_stands 80 = .ok (.iconst 0, 1) := by decide +kernel
theorem dX0_stands_81 : decode cX0_stands 81 = .ok (.istore_n 3, 1) := by decide +kernel
theorem dX0_stands_82 : decode cX0_stands 82 = .ok (.iload_n 1, 1) := by decide +kernel
theorem dX0_stands_83 : decode cX0_stands 83 = .ok (.bipush 64, 2) := by decide +kernel
theorem dX0_stands_85 : decode cX0_stands 85 = .ok (.if_icmp .lt 59, 3) := by decide +kernel
theorem dX0_stands_88 : decode cX0_stands 88 = .ok (.aload_n 0, 1) := by decide +kernel
theorem dX0_stands_89 : decode cX0_stands 89 = .ok (.iconst 0, 1) := by decide +kernel
theorem dX0_stands_90 : decode cX0_stands 90 = .ok (.iconst 4, 1) := by decide +kernel
theorem dX0_stands_91 : decode cX0_stands 91 = .ok (.invokevirtual 95, 3) := by decide +kernel
theorem dX0_stands_94 : decode cX0_stands 94 = .ok (.ldc2_w 96, 3) := by decide +kernel
theorem dX0_stands_97 : decode cX0_stands 97 = .ok (.lcmp, 1) := by decide +kernel
theorem dX0_stands_98 : decode cX0_stands 98 = .ok (.ifCond .ne 46, 3) := by decide +kernel
theorem dX0_stands_101 : decode cX0_stands 101 = .ok (.aload_n 0, 1) := by decide +kernel
theorem dX0_stands_102 : decode cX0_stands 102 = .ok (.iconst 4, 1) := by decide +kernel
theorem dX0_stands_103 : decode cX0_stands 103 = .ok (.iconst 2, 1) := by decide +kernel
theorem dX0_stands_104 : decode cX0_stands 104 = .ok (.invokevirtual 95, 3) := by decide +kernel
theorem dX0_stands_107 : decode cX0_stands 107 = .ok (.ldc2_w 93, 3) := by decide +kernel
theorem dX0_stands_110 : decode cX0_stands 110 = .ok (.lcmp, 1) := by decide +kernel
theorem dX0_stands_111 : decode cX0_stands 111 = .ok (.ifCond .ne 33, 3) := by decide +kernel
theorem dX0_stands_114 : decode cX0_stands 114 = .ok (.aload_n 0, 1) := by decide +kernel
theorem dX0_stands_115 : decode cX0_stands 115 = .ok (.getfield 61, 3) := by decide +kernel
theorem dX0_stands_118 : decode cX0_stands 118 = .ok (.lconst 1, 1) := by decide +kernel
theorem dX0_stands_119 : decode cX0_stands 119 = .ok (.land, 1) := by decide +kernel
theorem dX0_stands_120 : decode cX0_stands 120 = .ok (.lconst 0, 1) := by decide +kernel
theorem dX0_stands_121 : decode cX0_stands 121 = .ok (.lcmp, 1) := by decide +kernel
theorem dX0_stands_122 : decode cX0_stands 122 = .ok (.ifCond .ne 22, 3) := by decide +kernel
theorem dX0_stands_125 : decode cX0_stands 125 = .ok (.iload_n 2, 1) := by decide +kernel
theorem dX0_stands_126 : decode cX0_stands 126 = .ok (.ifCond .eq 18, 3) := by decide +kernel
theorem dX0_stands_129 : decode cX0_stands 129 = .ok (.iload_n 3, 1) := by decide +kernel
theorem dX0_stands_130 : decode cX0_stands 130 = .ok (.ifCond .eq 10, 3) := by decide +kernel
theorem dX0_stands_133 : decode cX0_stands 133 = .ok (.aload_n 0, 1) := by decide +kernel
theorem dX0_stands_134 : decode cX0_stands 134 = .ok (.invokevirtual 98, 3) := by decide +kernel
theorem dX0_stands_137 : decode cX0_stands 137 = .ok (.ifCond .ne 7, 3) := by decide +kernel
theorem dX0_stands_140 : decode cX0_stands 140 = .ok (.iconst 1, 1) := by decide +kernel
theorem dX0_stands_141 : decode cX0_stands 141 = .ok (.goto 4, 3) := by decide +kernel
theorem dX0_stands_144 : decode cX0_stands 144 = .ok (.iconst 0, 1) := by decide +kernel
theorem dX0_stands_145 : decode cX0_stands 145 = .ok (.ireturn, 1) := by decide +kernel
set_option maxRecDepth 100000 in
set_option maxHeartbeats 4000000 in
theorem c_X0_stands (l : Launch) (D : va_G) (t : Nat → ClassId) (G : GE) (κ : CS) (h : Nat) (post : Int32 → CS → Prop) (hw : F_X0_stands G h post κ) (sz : Nat) : CMi l D t yX0_stands cX0_stands 4 (some .boolean) 2 62 G κ sz [.ref h] post := by
  refine c_go (by decide) (Nat.le_of_ble_eq_true rfl) ?_
  intro p e s m below meth c ls A hF hr hlk hin hAe hH hA hE hl
  unfold cB
  rw [hAe]
  clear hAe
  have hF : FX p m c cX0_stands 4 s _ RX0 D t := hF
  have hx := hF.1.1
  have hb := hF.1.2.1
  have hl : lv_has ls 4 [(0, .ref h)] := hl
  unfold F_X0_stands at hw
  refine lv_aload_n hx hb dX0_stands_0 rfl (lv_at hl 0 rfl) ?_
  refine cw_getPr (a := h) hF hH fk_X0_9 dX0_stands_1 hw (fun z1 hw => ?_)
  refine cw_getP (q := z1) hF hH fk_X0_24 dX0_stands_4 hw (fun z2 hw => ?_)
  refine cw_getI (q := z2) hF hH fk_X0_28 dX0_stands_7 hw (fun z3 hw => ?_)
  refine lv_aload_n hx hb dX0_stands_10 rfl (lv_at hl 0 rfl) ?_
  refine cw_getIr (a := h) hF hH fk_X0_21 dX0_stands_11 hw (fun z4 hw => ?_)
  refine lv_isub hx hb dX0_stands_14 ?_
  refine w_nmi hw (fun z5 hw => ?_)
  refine lv_istore_n (lv' := [(1, .int z5), (0, .ref h)]) hx hb dX0_stands_15 rfl hl (by decide) rfl (fun ls hl => ?_)
  refine lv_aload_n hx hb dX0_stands_16 rfl (lv_at hl 1 rfl) ?_
  refine cw_getJr (a := h) hF hH fk_X0_43 dX0_stands_17 hw (fun z6 hw => ?_)
  refine lv_lconst (v := 0) hx hb dX0_stands_20 (by decide) ?_
  obtain ⟨K9, hK10, hw⟩ := jc_open hw
  refine cw_join (K := K9) 67 (fun (x7 : Int32) => [(1, .int z5), (0, .ref h)]) (fun (x7 : Int32) => [.int x7]) hl hH (fun x7 κ8 ls H locs cells slots hl hw hH => ?_) (fun jn11 => ?_)
  · have hw := hK10 x7 κ8 hw
    have hl : lv_has ls 4 [(1, .int z5), (0, .ref h)] := hl
    refine lv_istore_n (lv' := [(2, .int x7), (1, .int z5), (0, .ref h)]) hx hb dX0_stands_67 rfl hl (by decide) rfl (fun ls hl => ?_)
    refine lv_aload_n hx hb dX0_stands_68 rfl (lv_at hl 2 rfl) ?_
    refine cw_getIr (a := h) hF hH fk_X0_21 dX0_stands_69 hw (fun z12 hw => ?_)
    refine lv_iconst (v := 4) hx hb dX0_stands_72 (by decide) ?_
    obtain ⟨K15, hK16, hw⟩ := jc_open hw
    refine cw_join (K := K15) 81 (fun (x13 : Int32) => [(2, .int x7), (1, .int z5), (0, .ref h)]) (fun (x13 : Int32) => [.int x13]) hl hH (fun x13 κ14 ls H locs cells slots hl hw hH => ?_) (fun jn17 => ?_)
    · have hw := hK16 x13 κ14 hw
      have hl : lv_has ls 4 [(2, .int x7), (1, .int z5), (0, .ref h)] := hl
      refine lv_istore_n (lv' := [(3, .int x13), (2, .int x7), (1, .int z5), (0, .ref h)]) hx hb dX0_stands_81 rfl hl (by decide) rfl (fun ls hl => ?_)
      refine lv_iload_n hx hb dX0_stands_82 rfl (lv_at hl 2 rfl) ?_
      refine lv_bipush (v := 64) hx hb dX0_stands_83 (by decide) ?_
      obtain ⟨K20, hK21, hw⟩ := jc_open hw
      refine cw_join (K := K20) 145 (fun (x18 : Int32) => []) (fun (x18 : Int32) => [.int x18]) hl hH (fun x18 κ19 ls H locs cells slots hl hw hH => ?_) (fun jn22 => ?_)
      · have hw := hK21 x18 κ19 hw
        have hl : lv_has ls 4 [] := hl
        exact cw_retz hF hH ⟨rfl, rfl⟩ hr hlk dX0_stands_145 hw
      · skip
        obtain ⟨K25, hK26, hw⟩ := jc_open hw
        refine cw_join (K := K25) 144 (fun (x23 : Unit) => []) (fun (x23 : Unit) => []) hl hH (fun x23 κ24 ls H locs cells slots hl hw hH => ?_) (fun jn27 => ?_)
        · have hw := hK26 x23 κ24 hw
          have hl : lv_has ls 4 [] := hl
          refine lv_iconst (v := 0) hx hb dX0_stands_144 (by decide) ?_
          exact jn22 0 κ24 ls _ _ _ _ hl hw hH
        · skip
          refine w_icmp_lt (tgt := 144) hF dX0_stands_85 rfl hw (fun hw => ?_) (fun hw => ?_)
          · have hl : lv_has ls 4 [] := lv_sub hl [] rfl
            exact jn27 () κ14 ls _ _ _ _ hl hw hH
          · refine lv_aload_n hx hb dX0_stands_88 rfl (lv_at hl 3 rfl) ?_
            refine lv_iconst (v := 0) hx hb dX0_stands_89 (by decide) ?_
            refine lv_iconst (v := 4) hx hb dX0_stands_90 (by decide) ?_
            refine cw_cVl (b := h) (As := [.int 0, .int 4]) (rest := []) hF hH hA hE mv_X0_95 ci_X0 (by decide) (fun sz => c_X0_number l D t G _ h 0 4 _ hw.2 sz) dX0_stands_91 hw.1 ⟨Nat.le_of_ble_eq_true rfl, Nat.le_of_ble_eq_true rfl⟩ rfl hl.1 (Nat.le_of_ble_eq_true rfl) rfl (fun z29 κ28 H locs cells slots hw hH => ?_)
            refine lv_ldc2 (v := 1112364030) hx hb hF.1.2.2.2.1 (hF.1.2.2.2.2 _ (wc_25 6 rfl)) dX0_stands_94 ?_
            refine w_lif_ne (tgt := 144) hF dX0_stands_97 dX0_stands_98 rfl hw (fun hw => ?_) (fun hw => ?_)
            · have hl : lv_has ls 4 [] := lv_sub hl [] rfl
              exact jn27 () κ28 ls _ _ _ _ hl hw hH
            · refine lv_aload_n hx hb dX0_stands_101 rfl (lv_at hl 3 rfl) ?_
              refine lv_iconst (v := 4) hx hb dX0_stands_102 (by decide) ?_
              refine lv_iconst (v := 2) hx hb dX0_stands_103 (by decide) ?_
              refine cw_cVl (b := h) (As := [.int 4, .int 2]) (rest := []) hF hH hA hE mv_X0_95 ci_X0 (by decide) (fun sz => c_X0_number l D t G _ h 4 2 _ hw.2 sz) dX0_stands_104 hw.1 ⟨Nat.le_of_ble_eq_true rfl, Nat.le_of_ble_eq_true rfl⟩ rfl hl.1 (Nat.le_of_ble_eq_true rfl) rfl (fun z31 κ30 H locs cells slots hw hH => ?_)
              refine lv_ldc2 (v := 64) hx hb hF.1.2.2.2.1 (hF.1.2.2.2.2 _ (wc_25 1 rfl)) dX0_stands_107 ?_
              refine w_lif_ne (tgt := 144) hF dX0_stands_110 dX0_stands_111 rfl hw (fun hw => ?_) (fun hw => ?_)
              · have hl : lv_has ls 4 [] := lv_sub hl [] rfl
                exact jn27 () κ30 ls _ _ _ _ hl hw hH
              · refine lv_aload_n hx hb dX0_stands_114 rfl (lv_at hl 3 rfl) ?_
                refine cw_getJr (a := h) hF hH fk_X0_61 dX0_stands_115 hw (fun z32 hw => ?_)
                refine lv_lconst (v := 1) hx hb dX0_stands_118 (by decide) ?_
                refine lv_land hx hb dX0_stands_119 ?_
                refine w_nml hw (fun z33 hw => ?_)
                refine lv_lconst (v := 0) hx hb dX0_stands_120 (by decide) ?_
                refine w_lif_ne (tgt := 144) hF dX0_stands_121 dX0_stands_122 rfl hw (fun hw => ?_) (fun hw => ?_)
                · have hl : lv_has ls 4 [] := lv_sub hl [] rfl
                  exact jn27 () κ30 ls _ _ _ _ hl hw hH
                · refine lv_iload_n hx hb dX0_stands_125 rfl (lv_at hl 1 rfl) ?_
                  refine w_if_eq (tgt := 144) hF dX0_stands_126 rfl hw (fun hw => ?_) (fun hw => ?_)
                  · have hl : lv_has ls 4 [] := lv_sub hl [] rfl
                    exact jn27 () κ30 ls _ _ _ _ hl hw hH
                  · refine lv_iload_n hx hb dX0_stands_129 rfl (lv_at hl 0 rfl) ?_
                    obtain ⟨K36, hK37, hw⟩ := jc_open hw
                    refine cw_join (K := K36) 140 (fun (x34 : Unit) => []) (fun (x34 : Unit) => []) hl hH (fun x34 κ35 ls H locs cells slots hl hw hH => ?_) (fun jn38 => ?_)
                    · have hw := hK37 x34 κ35 hw
                      have hl : lv_has ls 4 [] := hl
                      refine lv_iconst (v := 1) hx hb dX0_stands_140 (by decide) ?_
                      refine lv_goto (tgt := 145) hx hb dX0_stands_141 rfl ?_
                      exact jn22 1 κ35 ls _ _ _ _ hl hw hH
                    · skip
                      refine w_if_eq (tgt := 140) hF dX0_stands_130 rfl hw (fun hw => ?_) (fun hw => ?_)
                      · have hl : lv_has ls 4 [] := lv_sub hl [] rfl
                        exact jn38 () κ30 ls _ _ _ _ hl hw hH
                      · refine lv_aload_n hx hb dX0_stands_133 rfl (lv_at hl 3 rfl) ?_
                        refine cw_cVi (b := h) (As := []) (rest := []) hF hH hA hE mv_X0_98 ci_X0 (by decide) (fun sz => c_X0_related l D t G _ h  _ hw.2 sz) dX0_stands_134 hw.1 ⟨Nat.le_of_ble_eq_true rfl, Nat.le_of_ble_eq_true rfl⟩ rfl hl.1 (Nat.le_of_ble_eq_true rfl) rfl (fun z40 κ39 H locs cells slots hw hH => ?_)
                        refine w_if_ne (tgt := 144) hF dX0_stands_137 rfl hw (fun hw => ?_) (fun hw => ?_)
                        · have hl : lv_has ls 4 [] := lv_sub hl [] rfl
                          exact jn27 () κ39 ls _ _ _ _ hl hw hH
                        · have hl : lv_has ls 4 [] := lv_sub hl [] rfl
                          exact jn38 () κ39 ls _ _ _ _ hl hw hH
    · skip
      refine w_icmp_ne (tgt := 80) hF dX0_stands_73 rfl hw (fun hw => ?_) (fun hw => ?_)
      · refine lv_iconst (v := 0) hx hb dX0_stands_80 (by decide) ?_
        exact jn17 0 κ8 ls _ _ _ _ hl hw hH
      · refine lv_iconst (v := 1) hx hb dX0_stands_76 (by decide) ?_
        refine lv_goto (tgt := 81) hx hb dX0_stands_77 rfl ?_
        exact jn17 1 κ8 ls _ _ _ _ hl hw hH
  · skip
    obtain ⟨K43, hK44, hw⟩ := jc_open hw
    refine cw_join (K := K43) 62 (fun (x41 : Unit) => [(1, .int z5), (0, .ref h)]) (fun (x41 : Unit) => []) hl hH (fun x41 κ42 ls H locs cells slots hl hw hH => ?_) (fun jn45 => ?_)
    · have hw := hK44 x41 κ42 hw
      have hl : lv_has ls 4 [(1, .int z5), (0, .ref h)] := hl
      refine lv_iconst (v := 1) hx hb dX0_stands_62 (by decide) ?_
      refine lv_goto (tgt := 67) hx hb dX0_stands_63 rfl ?_
      exact jn11 1 κ42 ls _ _ _ _ hl hw hH
    · skip
      refine w_lif_eq (tgt := 62) hF dX0_stands_21 dX0_stands_22 rfl hw (fun hw => ?_) (fun hw => ?_)
      · exact jn45 () κ ls _ _ _ _ hl hw hH
      · refine lv_aload_n hx hb dX0_stands_25 rfl (lv_at hl 1 rfl) ?_
        refine cw_getJr (a := h) hF hH fk_X0_43 dX0_stands_26 hw (fun z46 hw => ?_)
        refine lv_ldc2 (v := 8) hx hb hF.1.2.2.2.1 (hF.1.2.2.2.2 _ (wc_25 0 rfl)) dX0_stands_29 ?_
        refine lv_lrem hx hb dX0_stands_32 (by decide) ?_
        refine w_nml hw (fun z47 hw => ?_)
        refine lv_lconst (v := 0) hx hb dX0_stands_33 (by decide) ?_
        obtain ⟨K50, hK51, hw⟩ := jc_open hw
        refine cw_join (K := K50) 66 (fun (x48 : Unit) => [(1, .int z5), (0, .ref h)]) (fun (x48 : Unit) => []) hl hH (fun x48 κ49 ls H locs cells slots hl hw hH => ?_) (fun jn52 => ?_)
        · have hw := hK51 x48 κ49 hw
          have hl : lv_has ls 4 [(1, .int z5), (0, .ref h)] := hl
          refine lv_iconst (v := 0) hx hb dX0_stands_66 (by decide) ?_
          exact jn11 0 κ49 ls _ _ _ _ hl hw hH
        · skip
          refine w_lif_ne (tgt := 66) hF dX0_stands_34 dX0_stands_35 rfl hw (fun hw => ?_) (fun hw => ?_)
          · exact jn52 () κ ls _ _ _ _ hl hw hH
          · refine lv_aload_n hx hb dX0_stands_38 rfl (lv_at hl 1 rfl) ?_
            refine cw_getJr (a := h) hF hH fk_X0_43 dX0_stands_39 hw (fun z53 hw => ?_)
            refine lv_ldc2 (v := 64) hx hb hF.1.2.2.2.1 (hF.1.2.2.2.2 _ (wc_25 1 rfl)) dX0_stands_42 ?_
            refine w_lif_lt (tgt := 66) hF dX0_stands_45 dX0_stands_46 rfl hw (fun hw => ?_) (fun hw => ?_)
            · exact jn52 () κ ls _ _ _ _ hl hw hH
            · refine lv_aload_n hx hb dX0_stands_49 rfl (lv_at hl 1 rfl) ?_
              refine cw_getJr (a := h) hF hH fk_X0_43 dX0_stands_50 hw (fun z54 hw => ?_)
              refine lv_iload_n hx hb dX0_stands_53 rfl (lv_at hl 0 rfl) ?_
              refine lv_bipush (v := 64) hx hb dX0_stands_54 (by decide) ?_
              refine lv_isub hx hb dX0_stands_56 ?_
              refine w_nmi hw (fun z55 hw => ?_)
              refine lv_i2l hx hb dX0_stands_57 rfl ?_
              refine w_nml hw (fun z56 hw => ?_)
              refine w_lif_gt (tgt := 66) hF dX0_stands_58 dX0_stands_59 rfl hw (fun hw => ?_) (fun hw => ?_)
              · exact jn52 () κ ls _ _ _ _ hl hw hH
              · exact jn45 () κ ls _ _ _ _ hl hw hH
set_option maxRecDepth 100000 in
def F_X0_holds (G : GE) (h : Nat) (a1 : Int64) (a3 : Int64) (post : Int32 → CS → Prop) (κ : CS) : Prop := jc (fun (K3 : Int32 → CS → Prop) => jc (fun (K8 : Unit → CS → Prop) => ((a3.toInt = (0 : Int64).toInt) → K8 () κ) ∧ ((¬ a3.toInt = (0 : Int64).toInt) → jc (fun (K13 : Unit → CS → Prop) => ((a1.toInt < (64 : Int64).toInt) → K13 () κ) ∧ (((64 : Int64).toInt ≤ a1.toInt) → ∀ z16 : Int64, z16 = a1 + a3 → (h ∈ sL κ.1 ∧ sK κ.1 h = 8) ∧ ∀ z17 : Int32, z17 = sI κ.1 h 2 → ∀ z18 : Int64, z18 = (z17 : Int32).toInt64 → ((z18.toInt < z16.toInt) → K13 () κ) ∧ ((z16.toInt ≤ z18.toInt) → K8 () κ))) (fun (x11 : Unit) (κ12 : CS) => K3 0 κ12))) (fun (x6 : Unit) (κ7 : CS) => K3 1 κ7)) (fun (x1 : Int32) (κ2 : CS) => (0 ≤ x1.toInt ∧ x1.toInt ≤ 1) ∧ post x1 κ2)
theorem dX0_holds_0 : decode cX0_holds 0 = .ok (.lload_n 3, 1) := by decide +kernel
theorem dX0_holds_1 : decode cX0_holds 1 = .ok (.lconst 0, 1) := by decide +kernel
theorem dX0_holds_2 : decode cX0_holds 2 = .ok (.lcmp, 1) := by decide +kernel
theorem dX0_holds_3 : decode cX0_holds 3 = .ok (.ifCond .eq 23, 3) := by decide +kernel
theorem dX0_holds_6 : decode cX0_holds 6 = .ok (.lload_n 1, 1) := by decide +kernel
theorem dX0_holds_7 : decode cX0_holds 7 = .ok (.ldc2_w 93, 3) := by decide +kernel
theorem dX0_holds_10 : decode cX0_holds 10 = .ok (.lcmp, 1) := by decide +kernel
theorem dX0_holds_11 : decode cX0_holds 11 = .ok (.ifCond .lt 19, 3) := by decide +kernel
theorem dX0_holds_14 : decode cX0_holds 14 = .ok (.lload_n 1, 1) := by decide +kernel
theorem dX0_holds_15 : decode cX0_holds 15 = .ok (.lload_n 3, 1) := by decide +kernel
theorem dX0_holds_16 : decode cX0_holds 16 = .ok (.ladd, 1) := by decide +kernel
theorem dX0_holds_17 : decode cX0_holds 17 = .ok (.aload_n 0, 1) := by decide +kernel
theorem dX0_holds_18 : decode cX0_holds 18 = .ok (.getfield 51, 3) := by decide +kernel
theorem dX0_holds_21 : decode cX0_holds 21 = .ok (.i2l, 1) := by decide +kernel
theorem dX0_holds_22 : decode cX0_holds 22 = .ok (.lcmp, 1) := by decide +kernel
theorem dX0_holds_23 : decode cX0_holds 23 = .ok (.ifCond .gt 7, 3) := by decide +kernel
theorem dX0_holds_26 : decode cX0_holds 26 = .ok (.iconst 1, 1) := by decide +kernel
theorem dX0_holds_27 : decode cX0_holds 27 = .ok (.goto 4, 3) := by decide +kernel
theorem dX0_holds_30 : decode cX0_holds 30 = .ok (.iconst 0, 1) := by decide +kernel
theorem dX0_holds_31 : decode cX0_holds 31 = .ok (.ireturn, 1) := by decide +kernel
set_option maxRecDepth 100000 in
set_option maxHeartbeats 4000000 in
theorem c_X0_holds (l : Launch) (D : va_G) (t : Nat → ClassId) (G : GE) (κ : CS) (h : Nat) (a1 : Int64) (a3 : Int64) (post : Int32 → CS → Prop) (hw : F_X0_holds G h a1 a3 post κ) (sz : Nat) : CMi l D t yX0_holds cX0_holds 5 (some .boolean) 0 14 G κ sz [.ref h, .long a1, .long a3] post := by
  refine c_go (by decide) (Nat.le_of_ble_eq_true rfl) ?_
  intro p e s m below meth c ls A hF hr hlk hin hAe hH hA hE hl
  unfold cB
  rw [hAe]
  clear hAe
  have hF : FX p m c cX0_holds 5 s _ RX0 D t := hF
  have hx := hF.1.1
  have hb := hF.1.2.1
  have hl : lv_has ls 5 [(0, .ref h), (1, .long a1), (3, .long a3)] := hl
  unfold F_X0_holds at hw
  refine lv_lload_n hx hb dX0_holds_0 rfl (lv_at hl 2 rfl) ?_
  refine lv_lconst (v := 0) hx hb dX0_holds_1 (by decide) ?_
  obtain ⟨K3, hK4, hw⟩ := jc_open hw
  refine cw_join (K := K3) 31 (fun (x1 : Int32) => []) (fun (x1 : Int32) => [.int x1]) hl hH (fun x1 κ2 ls H locs cells slots hl hw hH => ?_) (fun jn5 => ?_)
  · have hw := hK4 x1 κ2 hw
    have hl : lv_has ls 5 [] := hl
    exact cw_retz hF hH ⟨rfl, rfl⟩ hr hlk dX0_holds_31 hw
  · skip
    obtain ⟨K8, hK9, hw⟩ := jc_open hw
    refine cw_join (K := K8) 26 (fun (x6 : Unit) => []) (fun (x6 : Unit) => []) hl hH (fun x6 κ7 ls H locs cells slots hl hw hH => ?_) (fun jn10 => ?_)
    · have hw := hK9 x6 κ7 hw
      have hl : lv_has ls 5 [] := hl
      refine lv_iconst (v := 1) hx hb dX0_holds_26 (by decide) ?_
      refine lv_goto (tgt := 31) hx hb dX0_holds_27 rfl ?_
      exact jn5 1 κ7 ls _ _ _ _ hl hw hH
    · skip
      refine w_lif_eq (tgt := 26) hF dX0_holds_2 dX0_holds_3 rfl hw (fun hw => ?_) (fun hw => ?_)
      · have hl : lv_has ls 5 [] := lv_sub hl [] rfl
        exact jn10 () κ ls _ _ _ _ hl hw hH
      · refine lv_lload_n hx hb dX0_holds_6 rfl (lv_at hl 1 rfl) ?_
        refine lv_ldc2 (v := 64) hx hb hF.1.2.2.2.1 (hF.1.2.2.2.2 _ (wc_25 1 rfl)) dX0_holds_7 ?_
        obtain ⟨K13, hK14, hw⟩ := jc_open hw
        refine cw_join (K := K13) 30 (fun (x11 : Unit) => []) (fun (x11 : Unit) => []) hl hH (fun x11 κ12 ls H locs cells slots hl hw hH => ?_) (fun jn15 => ?_)
        · have hw := hK14 x11 κ12 hw
          have hl : lv_has ls 5 [] := hl
          refine lv_iconst (v := 0) hx hb dX0_holds_30 (by decide) ?_
          exact jn5 0 κ12 ls _ _ _ _ hl hw hH
        · skip
          refine w_lif_lt (tgt := 30) hF dX0_holds_10 dX0_holds_11 rfl hw (fun hw => ?_) (fun hw => ?_)
          · have hl : lv_has ls 5 [] := lv_sub hl [] rfl
            exact jn15 () κ ls _ _ _ _ hl hw hH
          · refine lv_lload_n hx hb dX0_holds_14 rfl (lv_at hl 1 rfl) ?_
            refine lv_lload_n hx hb dX0_holds_15 rfl (lv_at hl 2 rfl) ?_
            refine lv_ladd hx hb dX0_holds_16 ?_
            refine w_nml hw (fun z16 hw => ?_)
            refine lv_aload_n hx hb dX0_holds_17 rfl (lv_at hl 0 rfl) ?_
            refine cw_getIr (a := h) hF hH fk_X0_51 dX0_holds_18 hw (fun z17 hw => ?_)
            refine lv_i2l hx hb dX0_holds_21 rfl ?_
            refine w_nml hw (fun z18 hw => ?_)
            refine w_lif_gt (tgt := 30) hF dX0_holds_22 dX0_holds_23 rfl hw (fun hw => ?_) (fun hw => ?_)
            · have hl : lv_has ls 5 [] := lv_sub hl [] rfl
              exact jn15 () κ ls _ _ _ _ hl hw hH
            · have hl : lv_has ls 5 [] := lv_sub hl [] rfl
              exact jn10 () κ ls _ _ _ _ hl hw hH
set_option maxRecDepth 100000 in
def F_X0_holdsWhatItTells (G : GE) (h : Nat) (post : Int32 → CS → Prop) (κ : CS) : Prop := (h ∈ sL κ.1 ∧ sK κ.1 h = 8) ∧ ∀ z1 : Int32, z1 = sI κ.1 h 5 → jc (fun (K4 : Unit → CS → Prop) => ((z1.toInt < 1 ∨ 17 < z1.toInt) → K4 () κ) ∧ ((z1.toInt = 1) → (h ∈ sL κ.1 ∧ sK κ.1 h = 8) ∧ F_X0_number G h 76 2 (fun (z8 : Int64) (κ7 : CS) => (h ∈ sL κ7.1 ∧ sK κ7.1 h = 8) ∧ F_X0_number G h 78 2 (fun (z10 : Int64) (κ9 : CS) => (h ∈ sL κ9.1 ∧ sK κ9.1 h = 8) ∧ F_X0_holds G h z8 z10 (fun (z12 : Int32) (κ11 : CS) => (0 ≤ z12.toInt ∧ z12.toInt ≤ 1) ∧ post z12 κ11) κ9) κ7) κ) ∧ ((z1.toInt = 2) → K4 () κ) ∧ ((z1.toInt = 3) → (h ∈ sL κ.1 ∧ sK κ.1 h = 8) ∧ F_X0_number G h 68 2 (fun (z14 : Int64) (κ13 : CS) => (h ∈ sL κ13.1 ∧ sK κ13.1 h = 8) ∧ F_X0_number G h 70 2 (fun (z16 : Int64) (κ15 : CS) => (h ∈ sL κ15.1 ∧ sK κ15.1 h = 8) ∧ F_X0_holds G h z14 z16 (fun (z18 : Int32) (κ17 : CS) => (0 ≤ z18.toInt ∧ z18.toInt ≤ 1) ∧ post z18 κ17) κ15) κ13) κ) ∧ ((z1.toInt = 4) → K4 () κ) ∧ ((z1.toInt = 5) → (h ∈ sL κ.1 ∧ sK κ.1 h = 8) ∧ F_X0_number G h 108 2 (fun (z20 : Int64) (κ19 : CS) => (h ∈ sL κ19.1 ∧ sK κ19.1 h = 8) ∧ F_X0_number G h 110 2 (fun (z22 : Int64) (κ21 : CS) => (h ∈ sL κ21.1 ∧ sK κ21.1 h = 8) ∧ F_X0_holds G h z20 z22 (fun (z24 : Int32) (κ23 : CS) => (0 ≤ z24.toInt ∧ z24.toInt ≤ 1) ∧ post z24 κ23) κ21) κ19) κ) ∧ ((z1.toInt = 6) → K4 () κ) ∧ ((z1.toInt = 7) → K4 () κ) ∧ ((z1.toInt = 8) → K4 () κ) ∧ ((z1.toInt = 9) → (h ∈ sL κ.1 ∧ sK κ.1 h = 8) ∧ F_X0_number G h 68 4 (fun (z26 : Int64) (κ25 : CS) => jc (fun (K29 : Int32 → CS → Prop) => jc (fun (K34 : Unit → CS → Prop) => (((1024 : Int64).toInt < z26.toInt) → K34 () κ25) ∧ ((z26.toInt ≤ (1024 : Int64).toInt) → (h ∈ sL κ25.1 ∧ sK κ25.1 h = 8) ∧ F_X0_number G h 66 2 (fun (z38 : Int64) (κ37 : CS) => (h ∈ sL κ37.1 ∧ sK κ37.1 h = 8) ∧ F_X0_number G h 68 4 (fun (z40 : Int64) (κ39 : CS) => (h ∈ sL κ39.1 ∧ sK κ39.1 h = 8) ∧ F_X0_holds G h z38 z40 (fun (z42 : Int32) (κ41 : CS) => ((z42.toInt = 0) → K34 () κ41) ∧ ((¬ z42.toInt = 0) → K29 1 κ41)) κ39) κ37) κ25)) (fun (x32 : Unit) (κ33 : CS) => K29 0 κ33)) (fun (x27 : Int32) (κ28 : CS) => (0 ≤ x27.toInt ∧ x27.toInt ≤ 1) ∧ post x27 κ28)) κ) ∧ ((z1.toInt = 10) → K4 () κ) ∧ ((z1.toInt = 11) → K4 () κ) ∧ ((z1.toInt = 12) → K4 () κ) ∧ ((z1.toInt = 13) → K4 () κ) ∧ ((z1.toInt = 14) → (h ∈ sL κ.1 ∧ sK κ.1 h = 8) ∧ F_X0_number G h 88 2 (fun (z44 : Int64) (κ43 : CS) => (h ∈ sL κ43.1 ∧ sK κ43.1 h = 8) ∧ F_X0_number G h 90 2 (fun (z46 : Int64) (κ45 : CS) => (h ∈ sL κ45.1 ∧ sK κ45.1 h = 8) ∧ F_X0_holds G h z44 z46 (fun (z48 : Int32) (κ47 : CS) => (0 ≤ z48.toInt ∧ z48.toInt ≤ 1) ∧ post z48 κ47) κ45) κ43) κ) ∧ ((z1.toInt = 15) → K4 () κ) ∧ ((z1.toInt = 16) → K4 () κ) ∧ ((z1.toInt = 17) → (h ∈ sL κ.1 ∧ sK κ.1 h = 8) ∧ F_X0_number G h 72 2 (fun (z50 : Int64) (κ49 : CS) => (h ∈ sL κ49.1 ∧ sK κ49.1 h = 8) ∧ F_X0_number G h 68 4 (fun (z52 : Int64) (κ51 : CS) => (h ∈ sL κ51.1 ∧ sK κ51.1 h = 8) ∧ F_X0_holds G h z50 z52 (fun (z54 : Int32) (κ53 : CS) => (0 ≤ z54.toInt ∧ z54.toInt ≤ 1) ∧ post z54 κ53) κ51) κ49) κ)) (fun (x2 : Unit) (κ3 : CS) => (0 ≤ (1 : Int32).toInt ∧ (1 : Int32).toInt ≤ 1) ∧ post 1 κ3)
theorem dX0_holdsWhatItTells_0 : decode cX0_holdsWhatItTells 0 = .ok (.aload_n 0, 1) := by decide +kernel
theorem dX0_holdsWhatItTells_1 : decode cX0_holdsWhatItTells 1 = .ok (.getfield 55, 3) := by decide +kernel
theorem dX0_holdsWhatItTells_4 : decode cX0_holdsWhatItTells 4 = .ok (.tableswitch 220 1 17 #[84, 220, 103, 220, 122, 220, 220, 220, 141, 220, 220, 220, 220, 182, 220, 220, 201], 84) := by decide +kernel
theorem dX0_holdsWhatItTells_88 : decode cX0_holdsWhatItTells 88 = .ok (.aload_n 0, 1) := by decide +kernel
theorem dX0_holdsWhatItTells_89 : decode cX0_holdsWhatItTells 89 = .ok (.aload_n 0, 1) := by decide +kernel
theorem dX0_holdsWhatItTells_90 : decode cX0_holdsWhatItTells 90 = .ok (.bipush 76, 2) := by decide +kernel
theorem dX0_holdsWhatItTells_92 : decode cX0_holdsWhatItTells 92 = .ok (.iconst 2, 1) := by decide +kernel
theorem dX0_holdsWhatItTells_93 : decode cX0_holdsWhatItTells 93 = .ok (.invokevirtual 95, 3) := by decide +kernel
theorem dX0_holdsWhatItTells_96 : decode cX0_holdsWhatItTells 96 = .ok (.aload_n 0, 1) := by decide +kernel
theorem dX0_holdsWhatItTells_97 : decode cX0_holdsWhatItTells 97 = .ok (.bipush 78, 2) := by decide +kernel
theorem dX0_holdsWhatItTells_99 : decode cX0_holdsWhatItTells 99 = .ok (.iconst 2, 1) := by decide +kernel
theorem dX0_holdsWhatItTells_100 : decode cX0_holdsWhatItTells 100 = .ok (.invokevirtual 95, 3) := by decide +kernel
theorem dX0_holdsWhatItTells_103 : decode cX0_holdsWhatItTells 103 = .ok (.invokevirtual 102, 3) := by decide +kernel
theorem dX0_holdsWhatItTells_106 : decode cX0_holdsWhatItTells 106 = .ok (.ireturn, 1) := by decide +kernel
theorem dX0_holdsWhatItTells_107 : decode cX0_holdsWhatItTells 107 = .ok (.aload_n 0, 1) := by decide +kernel
theorem dX0_holdsWhatItTells_108 : decode cX0_holdsWhatItTells 108 = .ok (.aload_n 0, 1) := by decide +kernel
theorem dX0_holdsWhatItTells_109 : decode cX0_holdsWhatItTells 109 = .ok (.bipush 68, 2) := by decide +kernel
theorem dX0_holdsWhatItTells_111 : decode cX0_holdsWhatItTells 111 = .ok (.iconst 2, 1) := by decide +kernel
theorem dX0_holdsWhatItTells_112 : decode cX0_holdsWhatItTells 112 = .ok (.invokevirtual 95, 3) := by decide +kernel
theorem dX0_holdsWhatItTells_115 : decode cX0_holdsWhatItTells 115 = .ok (.aload_n 0, 1) := by decide +kernel
theorem dX0_holdsWhatItTells_116 : decode cX0_holdsWhatItTells 116 = .ok (.bipush 70, 2) := by decide +kernel
theorem dX0_holdsWhatItTells_118 : decode cX0_holdsWhatItTells 118 = .ok (.iconst 2, 1) := by decide +kernel
theorem dX0_holdsWhatItTells_119 : decode cX0_holdsWhatItTells 119 = .ok (.invokevirtual 95, 3) := by decide +kernel
theorem dX0_holdsWhatItTells_122 : decode cX0_holdsWhatItTells 122 = .ok (.invokevirtual 102, 3) := by decide +kernel
theorem dX0_holdsWhatItTells_125 : decode cX0_holdsWhatItTells 125 = .ok (.ireturn, 1) := by decide +kernel
theorem dX0_holdsWhatItTells_126 : decode cX0_holdsWhatItTells 126 = .ok (.aload_n 0, 1) := by decide +kernel
theorem dX0_holdsWhatItTells_127 : decode cX0_holdsWhatItTells 127 = .ok (.aload_n 0, 1) := by decide +kernel
theorem dX0_holdsWhatItTells_128 : decode cX0_holdsWhatItTells 128 = .ok (.bipush 108, 2) := by decide +kernel
theorem dX0_holdsWhatItTells_130 : decode cX0_holdsWhatItTells 130 = .ok (.iconst 2, 1) := by decide +kernel
theorem dX0_holdsWhatItTells_131 : decode cX0_holdsWhatItTells 131 = .ok (.invokevirtual 95, 3) := by decide +kernel
theorem dX0_holdsWhatItTells_134 : decode cX0_holdsWhatItTells 134 = .ok (.aload_n 0, 1) := by decide +kernel
theorem dX0_holdsWhatItTells_135 : decode cX0_holdsWhatItTells 135 = .ok (.bipush 110, 2) := by decide +kernel
theorem dX0_holdsWhatItTells_137 : decode cX0_holdsWhatItTells 137 = .ok (.iconst 2, 1) := by decide +kernel
theorem dX0_holdsWhatItTells_138 : decode cX0_holdsWhatItTells 138 = .ok (.invokevirtual 95, 3) := by decide +kernel
theorem dX0_holdsWhatItTells_141 : decode cX0_holdsWhatItTells 141 = .ok (.invokevirtual 102, 3) := by decide +kernel
theorem dX0_holdsWhatItTells_144 : decode cX0_holdsWhatItTells 144 = .ok (.ireturn, 1) := by decide +kernel
theorem dX0_holdsWhatItTells_145 : decode cX0_holdsWhatItTells 145 = .ok (.aload_n 0, 1) := by decide +kernel
theorem dX0_holdsWhatItTells_146 : decode cX0_holdsWhatItTells 146 = .ok (.bipush 68, 2) := by decide +kernel
theorem dX0_holdsWhatItTells_148 : decode cX0_holdsWhatItTells 148 = .ok (.iconst 4, 1) := by decide +kernel
theorem dX0_holdsWhatItTells_149 : decode cX0_holdsWhatItTells 149 = .ok (.invokevirtual 95, 3) := by decide +kernel
theorem dX0_holdsWhatItTells_152 : decode cX0_holdsWhatItTells 152 = .ok (.ldc2_w 106, 3) := by decide +kernel
theorem dX0_holdsWhatItTells_155 : decode cX0_holdsWhatItTells 155 = .ok (.lcmp, 1) := by decide +kernel
theorem dX0_holdsWhatItTells_156 : decode cX0_holdsWhatItTells 156 = .ok (.ifCond .gt 28, 3) := by decide +kernel
theorem dX0_holdsWhatItTells_159 : decode cX0_holdsWhatItTells 159 = .ok (.aload_n 0, 1) := by decide +kernel
theorem dX0_holdsWhatItTells_160 : decode cX0_holdsWhatItTells 160 = .ok (.aload_n 0, 1) := by decide +kernel
theorem dX0_holdsWhatItTells_161 : decode cX0_holdsWhatItTells 161 = .ok (.bipush 66, 2) := by decide +kernel
theorem dX0_holdsWhatItTells_163 : decode cX0_holdsWhatItTells 163 = .ok (.iconst 2, 1) := by decide +kernel
theorem dX0_holdsWhatItTells_164 : decode cX0_holdsWhatItTells 164 = .ok (.invokevirtual 95, 3) := by decide +kernel
theorem dX0_holdsWhatItTells_167 : decode cX0_holdsWhatItTells 167 = .ok (.aload_n 0, 1) := by decide +kernel
theorem dX0_holdsWhatItTells_168 : decode cX0_holdsWhatItTells 168 = .ok (.bipush 68, 2) := by decide +kernel
theorem dX0_holdsWhatItTells_170 : decode cX0_holdsWhatItTells 170 = .ok (.iconst 4, 1) := by decide +kernel
theorem dX0_holdsWhatItTells_171 : decode cX0_holdsWhatItTells 171 = .ok (.invokevirtual 95, 3) := by decide +kernel
theorem dX0_holdsWhatItTells_174 : decode cX0_holdsWhatItTells 174 = .ok (.invokevirtual 102, 3) := by decide +kernel
theorem dX0_holdsWhatItTells_177 : decode cX0_holdsWhatItTells 177 = .ok (.ifCond .eq 7, 3) := by decide +kernel
theorem dX0_holdsWhatItTells_180 : decode cX0_holdsWhatItTells 180 = .ok (.iconst 1, 1) := by decide +kernel
theorem dX0_holdsWhatItTells_181 : decode cX0_holdsWhatItTells 181 = .ok (.goto 4, 3) := by decide +kernel
theorem dX0_holdsWhatItTells_184 : decode cX0_holdsWhatItTells 184 = .ok (.iconst 0, 1) := by decide +kernel
theorem dX0_holdsWhatItTells_185 : decode cX0_holdsWhatItTells 185 = .ok (.ireturn, 1) := by decide +kernel
theorem dX0_holdsWhatItTells_186 : decode cX0_holdsWhatItTells 186 = .ok (.aload_n 0, 1) := by decide +kernel
theorem dX0_holdsWhatItTells_187 : decode cX0_holdsWhatItTells 187 = .ok (.aload_n 0, 1) := by decide +kernel
theorem dX0_holdsWhatItTells_188 : decode cX0_holdsWhatItTells 188 = .ok (.bipush 88, 2) := by decide +kernel
theorem dX0_holdsWhatItTells_190 : decode cX0_holdsWhatItTells 190 = .ok (.iconst 2, 1) := by decide +kernel
theorem dX0_holdsWhatItTells_191 : decode cX0_holdsWhatItTells 191 = .ok (.invokevirtual 95, 3) := by decide +kernel
theorem dX0_holdsWhatItTells_194 : decode cX0_holdsWhatItTells 194 = .ok (.aload_n 0, 1) := by decide +kernel
theorem dX0_holdsWhatItTells_195 : decode cX0_holdsWhatItTells 195 = .ok (.bipush 90, 2) := by decide +kernel
theorem dX0_holdsWhatItTells_197 : decode cX0_holdsWhatItTells 197 = .ok (.iconst 2, 1) := by decide +kernel
theorem dX0_holdsWhatItTells_198 : decode cX0_holdsWhatItTells 198 = .ok (.invokevirtual 95, 3) := by decide +kernel
theorem dX0_holdsWhatItTells_201 : decode cX0_holdsWhatItTells 201 = .ok (.invokevirtual 102, 3) := by decide +kernel
theorem dX0_holdsWhatItTells_204 : decode cX0_holdsWhatItTells 204 = .ok (.ireturn, 1) := by decide +kernel
theorem dX0_holdsWhatItTells_205 : decode cX0_holdsWhatItTells 205 = .ok (.aload_n 0, 1) := by decide +kernel
theorem dX0_holdsWhatItTells_206 : decode cX0_holdsWhatItTells 206 = .ok (.aload_n 0, 1) := by decide +kernel
theorem dX0_holdsWhatItTells_207 : decode cX0_holdsWhatItTells 207 = .ok (.bipush 72, 2) := by decide +kernel
theorem dX0_holdsWhatItTells_209 : decode cX0_holdsWhatItTells 209 = .ok (.iconst 2, 1) := by decide +kernel
theorem dX0_holdsWhatItTells_210 : decode cX0_holdsWhatItTells 210 = .ok (.invokevirtual 95, 3) := by decide +kernel
theorem dX0_holdsWhatItTells_213 : decode cX0_holdsWhatItTells 213 = .ok (.aload_n 0, 1) := by decide +kernel
theorem dX0_holdsWhatItTells_214 : decode cX0_holdsWhatItTells 214 = .ok (.bipush 68, 2) := by decide +kernel
theorem dX0_holdsWhatItTells_216 : decode cX0_holdsWhatItTells 216 = .ok (.iconst 4, 1) := by decide +kernel
theorem dX0_holdsWhatItTells_217 : decode cX0_holdsWhatItTells 217 = .ok (.invokevirtual 95, 3) := by decide +kernel
theorem dX0_holdsWhatItTells_220 : decode cX0_holdsWhatItTells 220 = .ok (.invokevirtual 102, 3) := by decide +kernel
theorem dX0_holdsWhatItTells_223 : decode cX0_holdsWhatItTells 223 = .ok (.ireturn, 1) := by decide +kernel
theorem dX0_holdsWhatItTells_224 : decode cX0_holdsWhatItTells 224 = .ok (.iconst 1, 1) := by decide +kernel
theorem dX0_holdsWhatItTells_225 : decode cX0_holdsWhatItTells 225 = .ok (.ireturn, 1) := by decide +kernel
set_option maxRecDepth 100000 in
set_option maxHeartbeats 4000000 in
theorem c_X0_holdsWhatItTells (l : Launch) (D : va_G) (t : Nat → ClassId) (G : GE) (κ : CS) (h : Nat) (post : Int32 → CS → Prop) (hw : F_X0_holdsWhatItTells G h post κ) (sz : Nat) : CMi l D t yX0_holdsWhatItTells cX0_holdsWhatItTells 1 (some .boolean) 2 62 G κ sz [.ref h] post := by
  refine c_go (by decide) (Nat.le_of_ble_eq_true rfl) ?_
  intro p e s m below meth c ls A hF hr hlk hin hAe hH hA hE hl
  unfold cB
  rw [hAe]
  clear hAe
  have hF : FX p m c cX0_holdsWhatItTells 1 s _ RX0 D t := hF
  have hx := hF.1.1
  have hb := hF.1.2.1
  have hl : lv_has ls 1 [(0, .ref h)] := hl
  unfold F_X0_holdsWhatItTells at hw
  refine lv_aload_n hx hb dX0_holdsWhatItTells_0 rfl (lv_at hl 0 rfl) ?_
  refine cw_getIr (a := h) hF hH fk_X0_55 dX0_holdsWhatItTells_1 hw (fun z1 hw => ?_)
  obtain ⟨K4, hK5, hw⟩ := jc_open hw
  refine cw_join (K := K4) 224 (fun (x2 : Unit) => []) (fun (x2 : Unit) => []) hl hH (fun x2 κ3 ls H locs cells slots hl hw hH => ?_) (fun jn6 => ?_)
  · have hw := hK5 x2 κ3 hw
    have hl : lv_has ls 1 [] := hl
    refine lv_iconst (v := 1) hx hb dX0_holdsWhatItTells_224 (by decide) ?_
    exact cw_retz hF hH ⟨rfl, rfl⟩ hr hlk dX0_holdsWhatItTells_225 hw
  · skip
    by_cases ho : z1.toInt < 1 ∨ 17 < z1.toInt
    · have hw := hw.1 ho
      refine lv_tableOut (tgt := 224) hx hb dX0_holdsWhatItTells_4 ho rfl ?_
      have hl : lv_has ls 1 [] := lv_sub hl [] rfl
      exact jn6 () κ ls _ _ _ _ hl hw hH
    · rcases (show z1.toInt = 1 ∨ z1.toInt = 2 ∨ z1.toInt = 3 ∨ z1.toInt = 4 ∨ z1.toInt = 5 ∨ z1.toInt = 6 ∨ z1.toInt = 7 ∨ z1.toInt = 8 ∨ z1.toInt = 9 ∨ z1.toInt = 10 ∨ z1.toInt = 11 ∨ z1.toInt = 12 ∨ z1.toInt = 13 ∨ z1.toInt = 14 ∨ z1.toInt = 15 ∨ z1.toInt = 16 ∨ z1.toInt = 17 by omega) with zt | zt | zt | zt | zt | zt | zt | zt | zt | zt | zt | zt | zt | zt | zt | zt | zt
      · have hw := hw.2.1 zt
        have hoff : (#[84, 220, 103, 220, 122, 220, 220, 220, 141, 220, 220, 220, 220, 182, 220, 220, 201] : Array Int)[(z1.toInt - 1).toNat]? = some 84 := by rw [zt]; rfl
        refine lv_tableIn (off := 84) (tgt := 88) hx hb dX0_holdsWhatItTells_4 (fun q => ho (Or.inl q)) (fun q => ho (Or.inr q)) hoff rfl ?_
        refine lv_aload_n hx hb dX0_holdsWhatItTells_88 rfl (lv_at hl 0 rfl) ?_
        refine lv_aload_n hx hb dX0_holdsWhatItTells_89 rfl (lv_at hl 0 rfl) ?_
        refine lv_bipush (v := 76) hx hb dX0_holdsWhatItTells_90 (by decide) ?_
        refine lv_iconst (v := 2) hx hb dX0_holdsWhatItTells_92 (by decide) ?_
        refine cw_cVl (b := h) (As := [.int 76, .int 2]) (rest := [.ref h]) hF hH hA hE mv_X0_95 ci_X0 (by decide) (fun sz => c_X0_number l D t G _ h 76 2 _ hw.2 sz) dX0_holdsWhatItTells_93 hw.1 ⟨Nat.le_of_ble_eq_true rfl, Nat.le_of_ble_eq_true rfl⟩ rfl hl.1 (Nat.le_of_ble_eq_true rfl) rfl (fun z8 κ7 H locs cells slots hw hH => ?_)
        refine lv_aload_n hx hb dX0_holdsWhatItTells_96 rfl (lv_at hl 0 rfl) ?_
        refine lv_bipush (v := 78) hx hb dX0_holdsWhatItTells_97 (by decide) ?_
        refine lv_iconst (v := 2) hx hb dX0_holdsWhatItTells_99 (by decide) ?_
        refine cw_cVl (b := h) (As := [.int 78, .int 2]) (rest := [.long z8, .ref h]) hF hH hA hE mv_X0_95 ci_X0 (by decide) (fun sz => c_X0_number l D t G _ h 78 2 _ hw.2 sz) dX0_holdsWhatItTells_100 hw.1 ⟨Nat.le_of_ble_eq_true rfl, Nat.le_of_ble_eq_true rfl⟩ rfl hl.1 (Nat.le_of_ble_eq_true rfl) rfl (fun z10 κ9 H locs cells slots hw hH => ?_)
        refine cw_cVi (b := h) (As := [.long z8, .long z10]) (rest := []) hF hH hA hE mv_X0_102 ci_X0 (by decide) (fun sz => c_X0_holds l D t G _ h z8 z10 _ hw.2 sz) dX0_holdsWhatItTells_103 hw.1 ⟨Nat.le_of_ble_eq_true rfl, Nat.le_of_ble_eq_true rfl⟩ rfl hl.1 (Nat.le_of_ble_eq_true rfl) rfl (fun z12 κ11 H locs cells slots hw hH => ?_)
        exact cw_retz hF hH ⟨rfl, rfl⟩ hr hlk dX0_holdsWhatItTells_106 hw
      · have hw := hw.2.2.1 zt
        have hoff : (#[84, 220, 103, 220, 122, 220, 220, 220, 141, 220, 220, 220, 220, 182, 220, 220, 201] : Array Int)[(z1.toInt - 1).toNat]? = some 220 := by rw [zt]; rfl
        refine lv_tableIn (off := 220) (tgt := 224) hx hb dX0_holdsWhatItTells_4 (fun q => ho (Or.inl q)) (fun q => ho (Or.inr q)) hoff rfl ?_
        have hl : lv_has ls 1 [] := lv_sub hl [] rfl
        exact jn6 () κ ls _ _ _ _ hl hw hH
      · have hw := hw.2.2.2.1 zt
        have hoff : (#[84, 220, 103, 220, 122, 220, 220, 220, 141, 220, 220, 220, 220, 182, 220, 220, 201] : Array Int)[(z1.toInt - 1).toNat]? = some 103 := by rw [zt]; rfl
        refine lv_tableIn (off := 103) (tgt := 107) hx hb dX0_holdsWhatItTells_4 (fun q => ho (Or.inl q)) (fun q => ho (Or.inr q)) hoff rfl ?_
        refine lv_aload_n hx hb dX0_holdsWhatItTells_107 rfl (lv_at hl 0 rfl) ?_
        refine lv_aload_n hx hb dX0_holdsWhatItTells_108 rfl (lv_at hl 0 rfl) ?_
        refine lv_bipush (v := 68) hx hb dX0_holdsWhatItTells_109 (by decide) ?_
        refine lv_iconst (v := 2) hx hb dX0_holdsWhatItTells_111 (by decide) ?_
        refine cw_cVl (b := h) (As := [.int 68, .int 2]) (rest := [.ref h]) hF hH hA hE mv_X0_95 ci_X0 (by decide) (fun sz => c_X0_number l D t G _ h 68 2 _ hw.2 sz) dX0_holdsWhatItTells_112 hw.1 ⟨Nat.le_of_ble_eq_true rfl, Nat.le_of_ble_eq_true rfl⟩ rfl hl.1 (Nat.le_of_ble_eq_true rfl) rfl (fun z14 κ13 H locs cells slots hw hH => ?_)
        refine lv_aload_n hx hb dX0_holdsWhatItTells_115 rfl (lv_at hl 0 rfl) ?_
        refine lv_bipush (v := 70) hx hb dX0_holdsWhatItTells_116 (by decide) ?_
        refine lv_iconst (v := 2) hx hb dX0_holdsWhatItTells_118 (by decide) ?_
        refine cw_cVl (b := h) (As := [.int 70, .int 2]) (rest := [.long z14, .ref h]) hF hH hA hE mv_X0_95 ci_X0 (by decide) (fun sz => c_X0_number l D t G _ h 70 2 _ hw.2 sz) dX0_holdsWhatItTells_119 hw.1 ⟨Nat.le_of_ble_eq_true rfl, Nat.le_of_ble_eq_true rfl⟩ rfl hl.1 (Nat.le_of_ble_eq_true rfl) rfl (fun z16 κ15 H locs cells slots hw hH => ?_)
        refine cw_cVi (b := h) (As := [.long z14, .long z16]) (rest := []) hF hH hA hE mv_X0_102 ci_X0 (by decide) (fun sz => c_X0_holds l D t G _ h z14 z16 _ hw.2 sz) dX0_holdsWhatItTells_122 hw.1 ⟨Nat.le_of_ble_eq_true rfl, Nat.le_of_ble_eq_true rfl⟩ rfl hl.1 (Nat.le_of_ble_eq_true rfl) rfl (fun z18 κ17 H locs cells slots hw hH => ?_)
        exact cw_retz hF hH ⟨rfl, rfl⟩ hr hlk dX0_holdsWhatItTells_125 hw
      · have hw := hw.2.2.2.2.1 zt
        have hoff : (#[84, 220, 103, 220, 122, 220, 220, 220, 141, 220, 220, 220, 220, 182, 220, 220, 201] : Array Int)[(z1.toInt - 1).toNat]? = some 220 := by rw [zt]; rfl
        refine lv_tableIn (off := 220) (tgt := 224) hx hb dX0_holdsWhatItTells_4 (fun q => ho (Or.inl q)) (fun q => ho (Or.inr q)) hoff rfl ?_
        have hl : lv_has ls 1 [] := lv_sub hl [] rfl
        exact jn6 () κ ls _ _ _ _ hl hw hH
      · have hw := hw.2.2.2.2.2.1 zt
        have hoff : (#[84, 220, 103, 220, 122, 220, 220, 220, 141, 220, 220, 220, 220, 182, 220, 220, 201] : Array Int)[(z1.toInt - 1).toNat]? = some 122 := by rw [zt]; rfl
        refine lv_tableIn (off := 122) (tgt := 126) hx hb dX0_holdsWhatItTells_4 (fun q => ho (Or.inl q)) (fun q => ho (Or.inr q)) hoff rfl ?_
        refine lv_aload_n hx hb dX0_holdsWhatItTells_126 rfl (lv_at hl 0 rfl) ?_
        refine lv_aload_n hx hb dX0_holdsWhatItTells_127 rfl (lv_at hl 0 rfl) ?_
        refine lv_bipush (v := 108) hx hb dX0_holdsWhatItTells_128 (by decide) ?_
        refine lv_iconst (v := 2) hx hb dX0_holdsWhatItTells_130 (by decide) ?_
        refine cw_cVl (b := h) (As := [.int 108, .int 2]) (rest := [.ref h]) hF hH hA hE mv_X0_95 ci_X0 (by decide) (fun sz => c_X0_number l D t G _ h 108 2 _ hw.2 sz) dX0_holdsWhatItTells_131 hw.1 ⟨Nat.le_of_ble_eq_true rfl, Nat.le_of_ble_eq_true rfl⟩ rfl hl.1 (Nat.le_of_ble_eq_true rfl) rfl (fun z20 κ19 H locs cells slots hw hH => ?_)
        refine lv_aload_n hx hb dX0_holdsWhatItTells_134 rfl (lv_at hl 0 rfl) ?_
        refine lv_bipush (v := 110) hx hb dX0_holdsWhatItTells_135 (by decide) ?_
        refine lv_iconst (v := 2) hx hb dX0_holdsWhatItTells_137 (by decide) ?_
        refine cw_cVl (b := h) (As := [.int 110, .int 2]) (rest := [.long z20, .ref h]) hF hH hA hE mv_X0_95 ci_X0 (by decide) (fun sz => c_X0_number l D t G _ h 110 2 _ hw.2 sz) dX0_holdsWhatItTells_138 hw.1 ⟨Nat.le_of_ble_eq_true rfl, Nat.le_of_ble_eq_true rfl⟩ rfl hl.1 (Nat.le_of_ble_eq_true rfl) rfl (fun z22 κ21 H locs cells slots hw hH => ?_)
        refine cw_cVi (b := h) (As := [.long z20, .long z22]) (rest := []) hF hH hA hE mv_X0_102 ci_X0 (by decide) (fun sz => c_X0_holds l D t G _ h z20 z22 _ hw.2 sz) dX0_holdsWhatItTells_141 hw.1 ⟨Nat.le_of_ble_eq_true rfl, Nat.le_of_ble_eq_true rfl⟩ rfl hl.1 (Nat.le_of_ble_eq_true rfl) rfl (fun z24 κ23 H locs cells slots hw hH => ?_)
        exact cw_retz hF hH ⟨rfl, rfl⟩ hr hlk dX0_holdsWhatItTells_144 hw
      · have hw := hw.2.2.2.2.2.2.1 zt
        have hoff : (#[84, 220, 103, 220, 122, 220, 220, 220, 141, 220, 220, 220, 220, 182, 220, 220, 201] : Array Int)[(z1.toInt - 1).toNat]? = some 220 := by rw [zt]; rfl
        refine lv_tableIn (off := 220) (tgt := 224) hx hb dX0_holdsWhatItTells_4 (fun q => ho (Or.inl q)) (fun q => ho (Or.inr q)) hoff rfl ?_
        have hl : lv_has ls 1 [] := lv_sub hl [] rfl
        exact jn6 () κ ls _ _ _ _ hl hw hH
      · have hw := hw.2.2.2.2.2.2.2.1 zt
        have hoff : (#[84, 220, 103, 220, 122, 220, 220, 220, 141, 220, 220, 220, 220, 182, 220, 220, 201] : Array Int)[(z1.toInt - 1).toNat]? = some 220 := by rw [zt]; rfl
        refine lv_tableIn (off := 220) (tgt := 224) hx hb dX0_holdsWhatItTells_4 (fun q => ho (Or.inl q)) (fun q => ho (Or.inr q)) hoff rfl ?_
        have hl : lv_has ls 1 [] := lv_sub hl [] rfl
        exact jn6 () κ ls _ _ _ _ hl hw hH
      · have hw := hw.2.2.2.2.2.2.2.2.1 zt
        have hoff : (#[84, 220, 103, 220, 122, 220, 220, 220, 141, 220, 220, 220, 220, 182, 220, 220, 201] : Array Int)[(z1.toInt - 1).toNat]? = some 220 := by rw [zt]; rfl
        refine lv_tableIn (off := 220) (tgt := 224) hx hb dX0_holdsWhatItTells_4 (fun q => ho (Or.inl q)) (fun q => ho (Or.inr q)) hoff rfl ?_
        have hl : lv_has ls 1 [] := lv_sub hl [] rfl
        exact jn6 () κ ls _ _ _ _ hl hw hH
      · have hw := hw.2.2.2.2.2.2.2.2.2.1 zt
        have hoff : (#[84, 220, 103, 220, 122, 220, 220, 220, 141, 220, 220, 220, 220, 182, 220, 220, 201] : Array Int)[(z1.toInt - 1).toNat]? = some 141 := by rw [zt]; rfl
        refine lv_tableIn (off := 141) (tgt := 145) hx hb dX0_holdsWhatItTells_4 (fun q => ho (Or.inl q)) (fun q => ho (Or.inr q)) hoff rfl ?_
        refine lv_aload_n hx hb dX0_holdsWhatItTells_145 rfl (lv_at hl 0 rfl) ?_
        refine lv_bipush (v := 68) hx hb dX0_holdsWhatItTells_146 (by decide) ?_
        refine lv_iconst (v := 4) hx hb dX0_holdsWhatItTells_148 (by decide) ?_
        refine cw_cVl (b := h) (As := [.int 68, .int 4]) (rest := []) hF hH hA hE mv_X0_95 ci_X0 (by decide) (fun sz => c_X0_number l D t G _ h 68 4 _ hw.2 sz) dX0_holdsWhatItTells_149 hw.1 ⟨Nat.le_of_ble_eq_true rfl, Nat.le_of_ble_eq_true rfl⟩ rfl hl.1 (Nat.le_of_ble_eq_true rfl) rfl (fun z26 κ25 H locs cells slots hw hH => ?_)
        refine lv_ldc2 (v := 1024) hx hb hF.1.2.2.2.1 (hF.1.2.2.2.2 _ (wc_25 11 rfl)) dX0_holdsWhatItTells_152 ?_
        obtain ⟨K29, hK30, hw⟩ := jc_open hw
        refine cw_join (K := K29) 185 (fun (x27 : Int32) => []) (fun (x27 : Int32) => [.int x27]) hl hH (fun x27 κ28 ls H locs cells slots hl hw hH => ?_) (fun jn31 => ?_)
        · have hw := hK30 x27 κ28 hw
          have hl : lv_has ls 1 [] := hl
          exact cw_retz hF hH ⟨rfl, rfl⟩ hr hlk dX0_holdsWhatItTells_185 hw
        · skip
          obtain ⟨K34, hK35, hw⟩ := jc_open hw
          refine cw_join (K := K34) 184 (fun (x32 : Unit) => []) (fun (x32 : Unit) => []) hl hH (fun x32 κ33 ls H locs cells slots hl hw hH => ?_) (fun jn36 => ?_)
          · have hw := hK35 x32 κ33 hw
            have hl : lv_has ls 1 [] := hl
            refine lv_iconst (v := 0) hx hb dX0_holdsWhatItTells_184 (by decide) ?_
            exact jn31 0 κ33 ls _ _ _ _ hl hw hH
          · skip
            refine w_lif_gt (tgt := 184) hF dX0_holdsWhatItTells_155 dX0_holdsWhatItTells_156 rfl hw (fun hw => ?_) (fun hw => ?_)
            · have hl : lv_has ls 1 [] := lv_sub hl [] rfl
              exact jn36 () κ25 ls _ _ _ _ hl hw hH
            · refine lv_aload_n hx hb dX0_holdsWhatItTells_159 rfl (lv_at hl 0 rfl) ?_
              refine lv_aload_n hx hb dX0_holdsWhatItTells_160 rfl (lv_at hl 0 rfl) ?_
              refine lv_bipush (v := 66) hx hb dX0_holdsWhatItTells_161 (by decide) ?_
              refine lv_iconst (v := 2) hx hb dX0_holdsWhatItTells_163 (by decide) ?_
              refine cw_cVl (b := h) (As := [.int 66, .int 2]) (rest := [.ref h]) hF hH hA hE mv_X0_95 ci_X0 (by decide) (fun sz => c_X0_number l D t G _ h 66 2 _ hw.2 sz) dX0_holdsWhatItTells_164 hw.1 ⟨Nat.le_of_ble_eq_true rfl, Nat.le_of_ble_eq_true rfl⟩ rfl hl.1 (Nat.le_of_ble_eq_true rfl) rfl (fun z38 κ37 H locs cells slots hw hH => ?_)
              refine lv_aload_n hx hb dX0_holdsWhatItTells_167 rfl (lv_at hl 0 rfl) ?_
              refine lv_bipush (v := 68) hx hb dX0_holdsWhatItTells_168 (by decide) ?_
              refine lv_iconst (v := 4) hx hb dX0_holdsWhatItTells_170 (by decide) ?_
              refine cw_cVl (b := h) (As := [.int 68, .int 4]) (rest := [.long z38, .ref h]) hF hH hA hE mv_X0_95 ci_X0 (by decide) (fun sz => c_X0_number l D t G _ h 68 4 _ hw.2 sz) dX0_holdsWhatItTells_171 hw.1 ⟨Nat.le_of_ble_eq_true rfl, Nat.le_of_ble_eq_true rfl⟩ rfl hl.1 (Nat.le_of_ble_eq_true rfl) rfl (fun z40 κ39 H locs cells slots hw hH => ?_)
              refine cw_cVi (b := h) (As := [.long z38, .long z40]) (rest := []) hF hH hA hE mv_X0_102 ci_X0 (by decide) (fun sz => c_X0_holds l D t G _ h z38 z40 _ hw.2 sz) dX0_holdsWhatItTells_174 hw.1 ⟨Nat.le_of_ble_eq_true rfl, Nat.le_of_ble_eq_true rfl⟩ rfl hl.1 (Nat.le_of_ble_eq_true rfl) rfl (fun z42 κ41 H locs cells slots hw hH => ?_)
              refine w_if_eq (tgt := 184) hF dX0_holdsWhatItTells_177 rfl hw (fun hw => ?_) (fun hw => ?_)
              · have hl : lv_has ls 1 [] := lv_sub hl [] rfl
                exact jn36 () κ41 ls _ _ _ _ hl hw hH
              · refine lv_iconst (v := 1) hx hb dX0_holdsWhatItTells_180 (by decide) ?_
                refine lv_goto (tgt := 185) hx hb dX0_holdsWhatItTells_181 rfl ?_
                have hl : lv_has ls 1 [] := lv_sub hl [] rfl
                exact jn31 1 κ41 ls _ _ _ _ hl hw hH
      · have hw := hw.2.2.2.2.2.2.2.2.2.2.1 zt
        have hoff : (#[84, 220, 103, 220, 122, 220, 220, 220, 141, 220, 220, 220, 220, 182, 220, 220, 201] : Array Int)[(z1.toInt - 1).toNat]? = some 220 := by rw [zt]; rfl
        refine lv_tableIn (off := 220) (tgt := 224) hx hb dX0_holdsWhatItTells_4 (fun q => ho (Or.inl q)) (fun q => ho (Or.inr q)) hoff rfl ?_
        have hl : lv_has ls 1 [] := lv_sub hl [] rfl
        exact jn6 () κ ls _ _ _ _ hl hw hH
      · have hw := hw.2.2.2.2.2.2.2.2.2.2.2.1 zt
        have hoff : (#[84, 220, 103, 220, 122, 220, 220, 220, 141, 220, 220, 220, 220, 182, 220, 220, 201] : Array Int)[(z1.toInt - 1).toNat]? = some 220 := by rw [zt]; rfl
        refine lv_tableIn (off := 220) (tgt := 224) hx hb dX0_holdsWhatItTells_4 (fun q => ho (Or.inl q)) (fun q => ho (Or.inr q)) hoff rfl ?_
        have hl : lv_has ls 1 [] := lv_sub hl [] rfl
        exact jn6 () κ ls _ _ _ _ hl hw hH
      · have hw := hw.2.2.2.2.2.2.2.2.2.2.2.2.1 zt
        have hoff : (#[84, 220, 103, 220, 122, 220, 220, 220, 141, 220, 220, 220, 220, 182, 220, 220, 201] : Array Int)[(z1.toInt - 1).toNat]? = some 220 := by rw [zt]; rfl
        refine lv_tableIn (off := 220) (tgt := 224) hx hb dX0_holdsWhatItTells_4 (fun q => ho (Or.inl q)) (fun q => ho (Or.inr q)) hoff rfl ?_
        have hl : lv_has ls 1 [] := lv_sub hl [] rfl
        exact jn6 () κ ls _ _ _ _ hl hw hH
      · have hw := hw.2.2.2.2.2.2.2.2.2.2.2.2.2.1 zt
        have hoff : (#[84, 220, 103, 220, 122, 220, 220, 220, 141, 220, 220, 220, 220, 182, 220, 220, 201] : Array Int)[(z1.toInt - 1).toNat]? = some 220 := by rw [zt]; rfl
        refine lv_tableIn (off := 220) (tgt := 224) hx hb dX0_holdsWhatItTells_4 (fun q => ho (Or.inl q)) (fun q => ho (Or.inr q)) hoff rfl ?_
        have hl : lv_has ls 1 [] := lv_sub hl [] rfl
        exact jn6 () κ ls _ _ _ _ hl hw hH
      · have hw := hw.2.2.2.2.2.2.2.2.2.2.2.2.2.2.1 zt
        have hoff : (#[84, 220, 103, 220, 122, 220, 220, 220, 141, 220, 220, 220, 220, 182, 220, 220, 201] : Array Int)[(z1.toInt - 1).toNat]? = some 182 := by rw [zt]; rfl
        refine lv_tableIn (off := 182) (tgt := 186) hx hb dX0_holdsWhatItTells_4 (fun q => ho (Or.inl q)) (fun q => ho (Or.inr q)) hoff rfl ?_
        refine lv_aload_n hx hb dX0_holdsWhatItTells_186 rfl (lv_at hl 0 rfl) ?_
        refine lv_aload_n hx hb dX0_holdsWhatItTells_187 rfl (lv_at hl 0 rfl) ?_
        refine lv_bipush (v := 88) hx hb dX0_holdsWhatItTells_188 (by decide) ?_
        refine lv_iconst (v := 2) hx hb dX0_holdsWhatItTells_190 (by decide) ?_
        refine cw_cVl (b := h) (As := [.int 88, .int 2]) (rest := [.ref h]) hF hH hA hE mv_X0_95 ci_X0 (by decide) (fun sz => c_X0_number l D t G _ h 88 2 _ hw.2 sz) dX0_holdsWhatItTells_191 hw.1 ⟨Nat.le_of_ble_eq_true rfl, Nat.le_of_ble_eq_true rfl⟩ rfl hl.1 (Nat.le_of_ble_eq_true rfl) rfl (fun z44 κ43 H locs cells slots hw hH => ?_)
        refine lv_aload_n hx hb dX0_holdsWhatItTells_194 rfl (lv_at hl 0 rfl) ?_
        refine lv_bipush (v := 90) hx hb dX0_holdsWhatItTells_195 (by decide) ?_
        refine lv_iconst (v := 2) hx hb dX0_holdsWhatItTells_197 (by decide) ?_
        refine cw_cVl (b := h) (As := [.int 90, .int 2]) (rest := [.long z44, .ref h]) hF hH hA hE mv_X0_95 ci_X0 (by decide) (fun sz => c_X0_number l D t G _ h 90 2 _ hw.2 sz) dX0_holdsWhatItTells_198 hw.1 ⟨Nat.le_of_ble_eq_true rfl, Nat.le_of_ble_eq_true rfl⟩ rfl hl.1 (Nat.le_of_ble_eq_true rfl) rfl (fun z46 κ45 H locs cells slots hw hH => ?_)
        refine cw_cVi (b := h) (As := [.long z44, .long z46]) (rest := []) hF hH hA hE mv_X0_102 ci_X0 (by decide) (fun sz => c_X0_holds l D t G _ h z44 z46 _ hw.2 sz) dX0_holdsWhatItTells_201 hw.1 ⟨Nat.le_of_ble_eq_true rfl, Nat.le_of_ble_eq_true rfl⟩ rfl hl.1 (Nat.le_of_ble_eq_true rfl) rfl (fun z48 κ47 H locs cells slots hw hH => ?_)
        exact cw_retz hF hH ⟨rfl, rfl⟩ hr hlk dX0_holdsWhatItTells_204 hw
      · have hw := hw.2.2.2.2.2.2.2.2.2.2.2.2.2.2.2.1 zt
        have hoff : (#[84, 220, 103, 220, 122, 220, 220, 220, 141, 220, 220, 220, 220, 182, 220, 220, 201] : Array Int)[(z1.toInt - 1).toNat]? = some 220 := by rw [zt]; rfl
        refine lv_tableIn (off := 220) (tgt := 224) hx hb dX0_holdsWhatItTells_4 (fun q => ho (Or.inl q)) (fun q => ho (Or.inr q)) hoff rfl ?_
        have hl : lv_has ls 1 [] := lv_sub hl [] rfl
        exact jn6 () κ ls _ _ _ _ hl hw hH
      · have hw := hw.2.2.2.2.2.2.2.2.2.2.2.2.2.2.2.2.1 zt
        have hoff : (#[84, 220, 103, 220, 122, 220, 220, 220, 141, 220, 220, 220, 220, 182, 220, 220, 201] : Array Int)[(z1.toInt - 1).toNat]? = some 220 := by rw [zt]; rfl
        refine lv_tableIn (off := 220) (tgt := 224) hx hb dX0_holdsWhatItTells_4 (fun q => ho (Or.inl q)) (fun q => ho (Or.inr q)) hoff rfl ?_
        have hl : lv_has ls 1 [] := lv_sub hl [] rfl
        exact jn6 () κ ls _ _ _ _ hl hw hH
      · have hw := hw.2.2.2.2.2.2.2.2.2.2.2.2.2.2.2.2.2 zt
        have hoff : (#[84, 220, 103, 220, 122, 220, 220, 220, 141, 220, 220, 220, 220, 182, 220, 220, 201] : Array Int)[(z1.toInt - 1).toNat]? = some 201 := by rw [zt]; rfl
        refine lv_tableIn (off := 201) (tgt := 205) hx hb dX0_holdsWhatItTells_4 (fun q => ho (Or.inl q)) (fun q => ho (Or.inr q)) hoff rfl ?_
        refine lv_aload_n hx hb dX0_holdsWhatItTells_205 rfl (lv_at hl 0 rfl) ?_
        refine lv_aload_n hx hb dX0_holdsWhatItTells_206 rfl (lv_at hl 0 rfl) ?_
        refine lv_bipush (v := 72) hx hb dX0_holdsWhatItTells_207 (by decide) ?_
        refine lv_iconst (v := 2) hx hb dX0_holdsWhatItTells_209 (by decide) ?_
        refine cw_cVl (b := h) (As := [.int 72, .int 2]) (rest := [.ref h]) hF hH hA hE mv_X0_95 ci_X0 (by decide) (fun sz => c_X0_number l D t G _ h 72 2 _ hw.2 sz) dX0_holdsWhatItTells_210 hw.1 ⟨Nat.le_of_ble_eq_true rfl, Nat.le_of_ble_eq_true rfl⟩ rfl hl.1 (Nat.le_of_ble_eq_true rfl) rfl (fun z50 κ49 H locs cells slots hw hH => ?_)
        refine lv_aload_n hx hb dX0_holdsWhatItTells_213 rfl (lv_at hl 0 rfl) ?_
        refine lv_bipush (v := 68) hx hb dX0_holdsWhatItTells_214 (by decide) ?_
        refine lv_iconst (v := 4) hx hb dX0_holdsWhatItTells_216 (by decide) ?_
        refine cw_cVl (b := h) (As := [.int 68, .int 4]) (rest := [.long z50, .ref h]) hF hH hA hE mv_X0_95 ci_X0 (by decide) (fun sz => c_X0_number l D t G _ h 68 4 _ hw.2 sz) dX0_holdsWhatItTells_217 hw.1 ⟨Nat.le_of_ble_eq_true rfl, Nat.le_of_ble_eq_true rfl⟩ rfl hl.1 (Nat.le_of_ble_eq_true rfl) rfl (fun z52 κ51 H locs cells slots hw hH => ?_)
        refine cw_cVi (b := h) (As := [.long z50, .long z52]) (rest := []) hF hH hA hE mv_X0_102 ci_X0 (by decide) (fun sz => c_X0_holds l D t G _ h z50 z52 _ hw.2 sz) dX0_holdsWhatItTells_220 hw.1 ⟨Nat.le_of_ble_eq_true rfl, Nat.le_of_ble_eq_true rfl⟩ rfl hl.1 (Nat.le_of_ble_eq_true rfl) rfl (fun z54 κ53 H locs cells slots hw hH => ?_)
        exact cw_retz hF hH ⟨rfl, rfl⟩ hr hlk dX0_holdsWhatItTells_223 hw
set_option maxRecDepth 100000 in
def F_X1_init (G : GE) (h : Nat) (post : CS → Prop) (κ : CS) : Prop := (0 ≤ (12 : Int32).toInt ∧ (12 : Int32).toInt ≤ 1000000) ∧ ((12 : Int32).toInt.toNat + 12 ≤ κ.2) ∧ ∀ o2 : Nat, o2 ∉ sL κ.1 → ∀ κ3 : CS, κ3 = (h_uN κ.1 o2 20 (12 : Int32).toInt.toNat, κ.2 - ((12 : Int32).toInt.toNat + 12)) → (h ∈ sL κ3.1 ∧ sK κ3.1 h = 4) ∧ ∀ κ4 : CS, κ4 = (h_uP κ3.1 h 4 (some o2), κ3.2) → (0 ≤ (0 : Int32).toInt ∧ (0 : Int32).toInt ≤ 1000000) ∧ ((0 : Int32).toInt.toNat + 12 ≤ κ4.2) ∧ ∀ o5 : Nat, o5 ∉ sL κ4.1 → ∀ κ6 : CS, κ6 = (h_uN κ4.1 o5 20 (0 : Int32).toInt.toNat, κ4.2 - ((0 : Int32).toInt.toNat + 12)) → (h ∈ sL κ6.1 ∧ sK κ6.1 h = 4) ∧ ∀ κ7 : CS, κ7 = (h_uP κ6.1 h 14 (some o5), κ6.2) → post κ7
theorem dX1_init_0 : decode cX1_init 0 = .ok (.aload_n 0, 1) := by decide +kernel
theorem dX1_init_1 : decode cX1_init 1 = .ok (.invokespecial 3, 3) := by decide +kernel
theorem dX1_init_4 : decode cX1_init 4 = .ok (.aload_n 0, 1) := by decide +kernel
theorem dX1_init_5 : decode cX1_init 5 = .ok (.bipush 12, 2) := by decide +kernel
theorem dX1_init_7 : decode cX1_init 7 = .ok (.newarray .byte, 2) := by decide +kernel
theorem dX1_init_9 : decode cX1_init 9 = .ok (.putfield 9, 3) := by decide +kernel
theorem dX1_init_12 : decode cX1_init 12 = .ok (.aload_n 0, 1) := by decide +kernel
theorem dX1_init_13 : decode cX1_init 13 = .ok (.iconst 0, 1) := by decide +kernel
theorem dX1_init_14 : decode cX1_init 14 = .ok (.newarray .byte, 2) := by decide +kernel
theorem dX1_init_16 : decode cX1_init 16 = .ok (.putfield 15, 3) := by decide +kernel
theorem dX1_init_19 : decode cX1_init 19 = .ok (.return_, 1) := by decide +kernel
set_option maxRecDepth 100000 in
set_option maxHeartbeats 4000000 in
theorem c_X1_init (l : Launch) (D : va_G) (t : Nat → ClassId) (G : GE) (κ : CS) (h : Nat) (post : CS → Prop) (hw : F_X1_init G h post κ) (sz : Nat) : CMv l D t yX1_init cX1_init 1 1 30 G κ sz [.ref h] post := by
  refine c_go (by decide) (Nat.le_of_ble_eq_true rfl) ?_
  intro p e s m below meth c ls A hF hr hlk hin hAe hH hA hE hl
  unfold cB
  rw [hAe]
  clear hAe
  have hF : FX p m c cX1_init 1 s _ RX1 D t := hF
  have hx := hF.1.1
  have hb := hF.1.2.1
  have hl : lv_has ls 1 [(0, .ref h)] := hl
  unfold F_X1_init at hw
  refine lv_aload_n hx hb dX1_init_0 rfl (lv_at hl 0 rfl) ?_
  refine W.objInit hx hb hF.1.2.2.2.1 (hF.1.2.2.2.2 _ (wc_10 5 rfl)) (hF.1.2.2.2.2 _ (wc_5 1 rfl)) (hF.1.2.2.2.2 _ (wc_5 0 rfl)) rfl (hl.1.trans hF.1.2.2.1.symm) rfl dX1_init_1 (Nat.le_of_ble_eq_true rfl) (Nat.le_of_ble_eq_true rfl) ?_
  refine lv_aload_n hx hb dX1_init_4 rfl (lv_at hl 0 rfl) ?_
  refine lv_bipush (v := 12) hx hb dX1_init_5 (by decide) ?_
  refine cw_newarr_byte hF hH hA (wc_5 11 rfl) dX1_init_7 hw (fun o2 κ3 H locs cells slots hw hH => ?_)
  refine cw_putFP (a := h) (v := (some o2)) hF hH fk_X1_9 dX1_init_9 hin rfl rfl rfl hw (fun κ4 H locs cells slots hw hH => ?_)
  refine lv_aload_n hx hb dX1_init_12 rfl (lv_at hl 0 rfl) ?_
  refine lv_iconst (v := 0) hx hb dX1_init_13 (by decide) ?_
  refine cw_newarr_byte hF hH hA (wc_5 11 rfl) dX1_init_14 hw (fun o5 κ6 H locs cells slots hw hH => ?_)
  refine cw_putPr (a := h) (v := (some o5)) hF hH fk_X1_15 dX1_init_16 rfl rfl hw (fun κ7 H locs cells slots hw hH => ?_)
  exact cw_retv hF hH ⟨rfl, rfl⟩ hr hlk dX1_init_19 hw
set_option maxRecDepth 100000 in
def F_X1_fill (G : GE) (h : Nat) (a1 : Int32) (a2 : Option Nat) (post : CS → Prop) (κ : CS) : Prop := (h ∈ sL κ.1 ∧ sK κ.1 h = 4) ∧ ∀ κ1 : CS, κ1 = (h_uI κ.1 h 0 a1, κ.2) → ∃ b : Nat, a2 = some b ∧ (b ∈ sL κ1.1 ∧ sK κ1.1 b = 5) ∧ ∀ z2 : Int32, z2 = sI κ1.1 b 0 → (h ∈ sL κ1.1 ∧ sK κ1.1 h = 4) ∧ ∀ κ3 : CS, κ3 = (h_uI κ1.1 h 1 z2, κ1.2) → ∃ b : Nat, a2 = some b ∧ (b ∈ sL κ3.1 ∧ sK κ3.1 b = 5) ∧ ∀ z4 : Int32, z4 = sI κ3.1 b 4 → (h ∈ sL κ3.1 ∧ sK κ3.1 h = 4) ∧ ∀ κ5 : CS, κ5 = (h_uI κ3.1 h 2 z4, κ3.2) → ∃ b : Nat, a2 = some b ∧ (b ∈ sL κ5.1 ∧ sK κ5.1 b = 5) ∧ ∀ z6 : Int32, z6 = sI κ5.1 b 2 → (0 ≤ z6.toInt ∧ z6.toInt ≤ 1) ∧ (h ∈ sL κ5.1 ∧ sK κ5.1 h = 4) ∧ ∀ κ7 : CS, κ7 = (h_uI κ5.1 h 3 z6, κ5.2) → ∃ b : Nat, a2 = some b ∧ (b ∈ sL κ7.1 ∧ sK κ7.1 b = 5) ∧ ∀ z8 : Int32, z8 = sI κ7.1 b 6 → (h ∈ sL κ7.1 ∧ sK κ7.1 h = 4) ∧ ∀ κ9 : CS, κ9 = (h_uI κ7.1 h 5 z8, κ7.2) → ∃ b : Nat, a2 = some b ∧ (b ∈ sL κ9.1 ∧ sK κ9.1 b = 5) ∧ ∀ z10 : Option Nat, z10 = sP κ9.1 b 5 → (h ∈ sL κ9.1 ∧ sK κ9.1 h = 4) ∧ ∀ z11 : Option Nat, z11 = sP κ9.1 h 4 → (h ∈ sL κ9.1 ∧ sK κ9.1 h = 4) ∧ ∀ z12 : Option Nat, z12 = sP κ9.1 h 4 → ∃ n : Nat, AL G κ9 z12 n ∧ ∀ z13 : Int32, z13 = nI n → ∃ u0 : Nat, z10 = some u0 ∧ ∃ u1 : Nat, z11 = some u1 ∧ (u0 ∈ sL κ9.1 ∧ sK κ9.1 u0 = 20) ∧ (u1 ∈ sL κ9.1 ∧ sK κ9.1 u1 = 20) ∧ (0 ≤ (0 : Int32).toInt ∧ 0 ≤ (0 : Int32).toInt ∧ 0 ≤ z13.toInt ∧ (0 : Int32).toInt + z13.toInt ≤ (sN κ9.1 u0 : Int) ∧ (0 : Int32).toInt + z13.toInt ≤ (sN κ9.1 u1 : Int)) ∧ (∀ j : Nat, j < z13.toInt.toNat → -128 ≤ (sI κ9.1 u0 ((0 : Int32).toInt.toNat + j)).toInt ∧ (sI κ9.1 u0 ((0 : Int32).toInt.toNat + j)).toInt ≤ 127) ∧ ∀ κ14 : CS, κ14 = (h_cpI κ9.1 u0 u1 (0 : Int32).toInt.toNat (0 : Int32).toInt.toNat z13.toInt.toNat, κ9.2) → ∃ b : Nat, a2 = some b ∧ (b ∈ sL κ14.1 ∧ sK κ14.1 b = 5) ∧ ∀ z15 : Int32, z15 = sI κ14.1 b 7 → (h ∈ sL κ14.1 ∧ sK κ14.1 h = 4) ∧ ∀ κ16 : CS, κ16 = (h_uI κ14.1 h 6 z15, κ14.2) → ∃ b : Nat, a2 = some b ∧ (b ∈ sL κ16.1 ∧ sK κ16.1 b = 5) ∧ ∀ z17 : Int64, z17 = sJ κ16.1 b 8 → (h ∈ sL κ16.1 ∧ sK κ16.1 h = 4) ∧ ∀ κ18 : CS, κ18 = (h_uJ κ16.1 h 7 z17, κ16.2) → ∃ b : Nat, a2 = some b ∧ (b ∈ sL κ18.1 ∧ sK κ18.1 b = 5) ∧ ∀ z19 : Int64, z19 = sJ κ18.1 b 9 → (h ∈ sL κ18.1 ∧ sK κ18.1 h = 4) ∧ ∀ κ20 : CS, κ20 = (h_uJ κ18.1 h 8 z19, κ18.2) → ∃ b : Nat, a2 = some b ∧ (b ∈ sL κ20.1 ∧ sK κ20.1 b = 5) ∧ ∀ z21 : Int64, z21 = sJ κ20.1 b 10 → (h ∈ sL κ20.1 ∧ sK κ20.1 h = 4) ∧ ∀ κ22 : CS, κ22 = (h_uJ κ20.1 h 9 z21, κ20.2) → ∃ b : Nat, a2 = some b ∧ (b ∈ sL κ22.1 ∧ sK κ22.1 b = 5) ∧ ∀ z23 : Int64, z23 = sJ κ22.1 b 11 → (h ∈ sL κ22.1 ∧ sK κ22.1 h = 4) ∧ ∀ κ24 : CS, κ24 = (h_uJ κ22.1 h 10 z23, κ22.2) → ∃ b : Nat, a2 = some b ∧ (b ∈ sL κ24.1 ∧ sK κ24.1 b = 5) ∧ ∀ z25 : Int32, z25 = sI κ24.1 b 12 → (h ∈ sL κ24.1 ∧ sK κ24.1 h = 4) ∧ ∀ κ26 : CS, κ26 = (h_uI κ24.1 h 11 z25, κ24.2) → (h ∈ sL κ26.1 ∧ sK κ26.1 h = 4) ∧ ∀ κ27 : CS, κ27 = (h_uI κ26.1 h 12 0, κ26.2) → (h ∈ sL κ27.1 ∧ sK κ27.1 h = 4) ∧ ∀ κ28 : CS, κ28 = (h_uI κ27.1 h 13 0, κ27.2) → post κ28
theorem dX1_fill_0 : decode cX1_fill 0 = .ok (.aload_n 0, 1) := by decide +kernel
theorem dX1_fill_1 : decode cX1_fill 1 = .ok (.iload_n 1, 1) := by decide +kernel
theorem dX1_fill_2 : decode cX1_fill 2 = .ok (.putfield 18, 3) := by decide +kernel
theorem dX1_fill_5 : decode cX1_fill 5 = .ok (.aload_n 0, 1) := by decide +kernel
theorem dX1_fill_6 : decode cX1_fill 6 = .ok (.aload_n 2, 1) := by decide +kernel
theorem dX1_fill_7 : decode cX1_fill 7 = .ok (.getfield 22, 3) := by decide +kernel
theorem dX1_fill_10 : decode cX1_fill 10 = .ok (.putfield 27, 3) := by decide +kernel
theorem dX1_fill_13 : decode cX1_fill 13 = .ok (.aload_n 0, 1) := by decide +kernel
theorem dX1_fill_14 : decode cX1_fill 14 = .ok (.aload_n 2, 1) := by decide +kernel
theorem dX1_fill_15 : decode cX1_fill 15 = .ok (.getfield 30, 3) := by decide +kernel
theorem dX1_fill_18 : decode cX1_fill 18 = .ok (.putfield 33, 3) := by decide +kernel
theorem dX1_fill_21 : decode cX1_fill 21 = .ok (.aload_n 0, 1) := by decide +kernel
theorem dX1_fill_22 : decode cX1_fill 22 = .ok (.aload_n 2, 1) := by decide +kernel
theorem dX1_fill_23 : decode cX1_fill 23 = .ok (.getfield 34, 3) := by decide +kernel
theorem dX1_fill_26 : decode cX1_fill 26 = .ok (.putfield 38, 3) := by decide +kernel
theorem dX1_fill_29 : decode cX1_fill 29 = .ok (.aload_n 0, 1) := by decide +kernel
theorem dX1_fill_30 : decode cX1_fill 30 = .ok (.aload_n 2, 1) := by decide +kernel
theorem dX1_fill_31 : decode cX1_fill 31 = .ok (.getfield 39, 3) := by decide +kernel
theorem dX1_fill_34 : decode cX1_fill 34 = .ok (.putfield 42, 3) := by decide +kernel
theorem dX1_fill_37 : decode cX1_fill 37 = .ok (.aload_n 2, 1) := by decide +kernel
theorem dX1_fill_38 : decode cX1_fill 38 = .ok (.getfield 43, 3) := by decide +kernel
theorem dX1_fill_41 : decode cX1_fill 41 = .ok (.iconst 0, 1) := by decide +kernel
theorem dX1_fill_42 : decode cX1_fill 42 = .ok (.aload_n 0, 1) := by decide +kernel
theorem dX1_fill_43 : decode cX1_fill 43 = .ok (.getfield 9, 3) := by decide +kernel
theorem dX1_fill_46 : decode cX1_fill 46 = .ok (.iconst 0, 1) := by decide +kernel
theorem dX1_fill_47 : decode cX1_fill 47 = .ok (.aload_n 0, 1) := by decide +kernel
theorem dX1_fill_48 : decode cX1_fill 48 = .ok (.getfield 9, 3) := by decide +kernel
theorem dX1_fill_51 : decode cX1_fill 51 = .ok (.arraylength, 1) := by decide +kernel
theorem dX1_fill_52 : decode cX1_fill 52 = .ok (.invokestatic 44, 3) := by decide +kernel
theorem dX1_fill_55 : decode cX1_fill 55 = .ok (.aload_n 0, 1) := by decide +kernel
theorem dX1_fill_56 : decode cX1_fill 56 = .ok (.aload_n 2, 1) := by decide +kernel
theorem dX1_fill_57 : decode cX1_fill 57 = .ok (.getfield 50, 3) := by decide +kernel
theorem dX1_fill_60 : decode cX1_fill 60 = .ok (.putfield 53, 3) := by decide +kernel
theorem dX1_fill_63 : decode cX1_fill 63 = .ok (.aload_n 0, 1) := by decide +kernel
theorem dX1_fill_64 : decode cX1_fill 64 = .ok (.aload_n 2, 1) := by decide +kernel
theorem dX1_fill_65 : decode cX1_fill 65 = .ok (.getfield 54, 3) := by decide +kernel
theorem dX1_fill_68 : decode cX1_fill 68 = .ok (.putfield 58, 3) := by decide +kernel
theorem dX1_fill_71 : decode cX1_fill 71 = .ok (.aload_n 0, 1) := by decide +kernel
theorem dX1_fill_72 : decode cX1_fill 72 = .ok (.aload_n 2, 1) := by decide +kernel
theorem dX1_fill_73 : decode cX1_fill 73 = .ok (.getfield 59, 3) := by decide +kernel
theorem dX1_fill_76 : decode cX1_fill 76 = .ok (.putfield 62, 3) := by decide +kernel
theorem dX1_fill_79 : decode cX1_fill 79 = .ok (.aload_n 0, 1) := by decide +kernel
theorem dX1_fill_80 : decode cX1_fill 80 = .ok (.aload_n 2, 1) := by decide +kernel
theorem dX1_fill_81 : decode cX1_fill 81 = .ok (.getfield 63, 3) := by decide +kernel
theorem dX1_fill_84 : decode cX1_fill 84 = .ok (.putfield 66, 3) := by decide +kernel
theorem dX1_fill_87 : decode cX1_fill 87 = .ok (.aload_n 0, 1) := by decide +kernel
theorem dX1_fill_88 : decode cX1_fill 88 = .ok (.aload_n 2, 1) := by decide +kernel
theorem dX1_fill_89 : decode cX1_fill 89 = .ok (.getfield 67, 3) := by decide +kernel
theorem dX1_fill_92 : decode cX1_fill 92 = .ok (.putfield 70, 3) := by decide +kernel
theorem dX1_fill_95 : decode cX1_fill 95 = .ok (.aload_n 0, 1) := by decide +kernel
theorem dX1_fill_96 : decode cX1_fill 96 = .ok (.aload_n 2, 1) := by decide +kernel
theorem dX1_fill_97 : decode cX1_fill 97 = .ok (.getfield 71, 3) := by decide +kernel
theorem dX1_fill_100 : decode cX1_fill 100 = .ok (.putfield 74, 3) := by decide +kernel
theorem dX1_fill_103 : decode cX1_fill 103 = .ok (.aload_n 0, 1) := by decide +kernel
theorem dX1_fill_104 : decode cX1_fill 104 = .ok (.iconst 0, 1) := by decide +kernel
theorem dX1_fill_105 : decode cX1_fill 105 = .ok (.putfield 75, 3) := by decide +kernel
theorem dX1_fill_108 : decode cX1_fill 108 = .ok (.aload_n 0, 1) := by decide +kernel
theorem dX1_fill_109 : decode cX1_fill 109 = .ok (.iconst 0, 1) := by decide +kernel
theorem dX1_fill_110 : decode cX1_fill 110 = .ok (.putfield 78, 3) := by decide +kernel
theorem dX1_fill_113 : decode cX1_fill 113 = .ok (.return_, 1) := by decide +kernel
set_option maxRecDepth 100000 in
set_option maxHeartbeats 4000000 in
theorem c_X1_fill (l : Launch) (D : va_G) (t : Nat → ClassId) (G : GE) (κ : CS) (h : Nat) (a1 : Int32) (a2 : Option Nat) (post : CS → Prop) (hw : F_X1_fill G h a1 a2 post κ) (sz : Nat) : CMv l D t yX1_fill cX1_fill 3 1 40 G κ sz [.ref h, .int a1, va_rf a2] post := by
  refine c_go (by decide) (by cases a2 <;> exact Nat.le_of_ble_eq_true rfl) ?_
  intro p e s m below meth c ls A hF hr hlk hin hAe hH hA hE hl
  unfold cB
  rw [hAe]
  clear hAe
  have hF : FX p m c cX1_fill 3 s _ RX1 D t := hF
  have hx := hF.1.1
  have hb := hF.1.2.1
  have hl : lv_has ls 3 [(0, .ref h), (1, .int a1), (2, va_rf a2)] := (by have h2 := hl; clear hw; revert h2; cases a2 <;> exact id)
  unfold F_X1_fill at hw
  refine lv_aload_n hx hb dX1_fill_0 rfl (lv_at hl 0 rfl) ?_
  refine lv_iload_n hx hb dX1_fill_1 rfl (lv_at hl 1 rfl) ?_
  refine cw_putIr (a := h) (v := a1) hF hH fk_X1_18 dX1_fill_2 rfl rfl rfl hw (fun κ1 H locs cells slots hw hH => ?_)
  refine lv_aload_n hx hb dX1_fill_5 rfl (lv_at hl 0 rfl) ?_
  refine w_aloadq_n hF dX1_fill_6 rfl (lv_at hl 2 rfl) ?_
  refine cw_getI (q := a2) hF hH fk_X1_22 dX1_fill_7 hw (fun z2 hw => ?_)
  refine cw_putIr (a := h) (v := z2) hF hH fk_X1_27 dX1_fill_10 rfl rfl rfl hw (fun κ3 H locs cells slots hw hH => ?_)
  refine lv_aload_n hx hb dX1_fill_13 rfl (lv_at hl 0 rfl) ?_
  refine w_aloadq_n hF dX1_fill_14 rfl (lv_at hl 2 rfl) ?_
  refine cw_getI (q := a2) hF hH fk_X1_30 dX1_fill_15 hw (fun z4 hw => ?_)
  refine cw_putIr (a := h) (v := z4) hF hH fk_X1_33 dX1_fill_18 rfl rfl rfl hw (fun κ5 H locs cells slots hw hH => ?_)
  refine lv_aload_n hx hb dX1_fill_21 rfl (lv_at hl 0 rfl) ?_
  refine w_aloadq_n hF dX1_fill_22 rfl (lv_at hl 2 rfl) ?_
  refine cw_getI (q := a2) hF hH fk_X1_34 dX1_fill_23 hw (fun z6 hw => ?_)
  refine cw_putZr (a := h) (v := z6) hF hH fk_X1_38 dX1_fill_26 rfl rfl hw (fun κ7 H locs cells slots hw hH => ?_)
  refine lv_aload_n hx hb dX1_fill_29 rfl (lv_at hl 0 rfl) ?_
  refine w_aloadq_n hF dX1_fill_30 rfl (lv_at hl 2 rfl) ?_
  refine cw_getI (q := a2) hF hH fk_X1_39 dX1_fill_31 hw (fun z8 hw => ?_)
  refine cw_putIr (a := h) (v := z8) hF hH fk_X1_42 dX1_fill_34 rfl rfl rfl hw (fun κ9 H locs cells slots hw hH => ?_)
  refine w_aloadq_n hF dX1_fill_37 rfl (lv_at hl 2 rfl) ?_
  refine cw_getP (q := a2) hF hH fk_X1_43 dX1_fill_38 hw (fun z10 hw => ?_)
  refine lv_iconst (v := 0) hx hb dX1_fill_41 (by decide) ?_
  refine lv_aload_n hx hb dX1_fill_42 rfl (lv_at hl 0 rfl) ?_
  refine cw_getPr (a := h) hF hH fk_X1_9 dX1_fill_43 hw (fun z11 hw => ?_)
  refine lv_iconst (v := 0) hx hb dX1_fill_46 (by decide) ?_
  refine lv_aload_n hx hb dX1_fill_47 rfl (lv_at hl 0 rfl) ?_
  refine cw_getPr (a := h) hF hH fk_X1_9 dX1_fill_48 hw (fun z12 hw => ?_)
  refine cw_alen (q := z12) hF hH hE dX1_fill_51 hw (fun z13 hw => ?_)
  refine cw_copyB (q0 := z10) (q1 := z11) hF hH (wc_10 13 rfl) (wc_10 14 rfl) (wc_10 15 rfl) (wc_5 17 rfl) (Nat.le_of_ble_eq_true rfl) (Nat.le_of_ble_eq_true rfl) hl.1 dX1_fill_52 hw (fun κ14 H locs cells slots hw hH => ?_)
  refine lv_aload_n hx hb dX1_fill_55 rfl (lv_at hl 0 rfl) ?_
  refine w_aloadq_n hF dX1_fill_56 rfl (lv_at hl 2 rfl) ?_
  refine cw_getI (q := a2) hF hH fk_X1_50 dX1_fill_57 hw (fun z15 hw => ?_)
  refine cw_putIr (a := h) (v := z15) hF hH fk_X1_53 dX1_fill_60 rfl rfl rfl hw (fun κ16 H locs cells slots hw hH => ?_)
  refine lv_aload_n hx hb dX1_fill_63 rfl (lv_at hl 0 rfl) ?_
  refine w_aloadq_n hF dX1_fill_64 rfl (lv_at hl 2 rfl) ?_
  refine cw_getJ (q := a2) hF hH fk_X1_54 dX1_fill_65 hw (fun z17 hw => ?_)
  refine cw_putJr (a := h) (v := z17) hF hH fk_X1_58 dX1_fill_68 rfl rfl rfl hw (fun κ18 H locs cells slots hw hH => ?_)
  refine lv_aload_n hx hb dX1_fill_71 rfl (lv_at hl 0 rfl) ?_
  refine w_aloadq_n hF dX1_fill_72 rfl (lv_at hl 2 rfl) ?_
  refine cw_getJ (q := a2) hF hH fk_X1_59 dX1_fill_73 hw (fun z19 hw => ?_)
  refine cw_putJr (a := h) (v := z19) hF hH fk_X1_62 dX1_fill_76 rfl rfl rfl hw (fun κ20 H locs cells slots hw hH => ?_)
  refine lv_aload_n hx hb dX1_fill_79 rfl (lv_at hl 0 rfl) ?_
  refine w_aloadq_n hF dX1_fill_80 rfl (lv_at hl 2 rfl) ?_
  refine cw_getJ (q := a2) hF hH fk_X1_63 dX1_fill_81 hw (fun z21 hw => ?_)
  refine cw_putJr (a := h) (v := z21) hF hH fk_X1_66 dX1_fill_84 rfl rfl rfl hw (fun κ22 H locs cells slots hw hH => ?_)
  refine lv_aload_n hx hb dX1_fill_87 rfl (lv_at hl 0 rfl) ?_
  refine w_aloadq_n hF dX1_fill_88 rfl (lv_at hl 2 rfl) ?_
  refine cw_getJ (q := a2) hF hH fk_X1_67 dX1_fill_89 hw (fun z23 hw => ?_)
  refine cw_putJr (a := h) (v := z23) hF hH fk_X1_70 dX1_fill_92 rfl rfl rfl hw (fun κ24 H locs cells slots hw hH => ?_)
  refine lv_aload_n hx hb dX1_fill_95 rfl (lv_at hl 0 rfl) ?_
  refine w_aloadq_n hF dX1_fill_96 rfl (lv_at hl 2 rfl) ?_
  refine cw_getI (q := a2) hF hH fk_X1_71 dX1_fill_97 hw (fun z25 hw => ?_)
  refine cw_putIr (a := h) (v := z25) hF hH fk_X1_74 dX1_fill_100 rfl rfl rfl hw (fun κ26 H locs cells slots hw hH => ?_)
  refine lv_aload_n hx hb dX1_fill_103 rfl (lv_at hl 0 rfl) ?_
  refine lv_iconst (v := 0) hx hb dX1_fill_104 (by decide) ?_
  refine cw_putIr (a := h) (v := 0) hF hH fk_X1_75 dX1_fill_105 rfl rfl rfl hw (fun κ27 H locs cells slots hw hH => ?_)
  refine lv_aload_n hx hb dX1_fill_108 rfl (lv_at hl 0 rfl) ?_
  refine lv_iconst (v := 0) hx hb dX1_fill_109 (by decide) ?_
  refine cw_putIr (a := h) (v := 0) hF hH fk_X1_78 dX1_fill_110 rfl rfl rfl hw (fun κ28 H locs cells slots hw hH => ?_)
  exact cw_retv hF hH ⟨rfl, rfl⟩ hr hlk dX1_fill_113 hw
set_option maxRecDepth 100000 in
def F_X1_beginNode (G : GE) (h : Nat) (a1 : Int32) (a2 : Int32) (a3 : Int32) (a4 : Int64) (post : CS → Prop) (κ : CS) : Prop := (h ∈ sL κ.1 ∧ sK κ.1 h = 4) ∧ ∀ κ1 : CS, κ1 = (h_uI κ.1 h 2 a1, κ.2) → (0 ≤ a2.toInt ∧ a2.toInt ≤ 1) ∧ (h ∈ sL κ1.1 ∧ sK κ1.1 h = 4) ∧ ∀ κ2 : CS, κ2 = (h_uI κ1.1 h 3 a2, κ1.2) → (h ∈ sL κ2.1 ∧ sK κ2.1 h = 4) ∧ ∀ κ3 : CS, κ3 = (h_uI κ2.1 h 6 a3, κ2.2) → (h ∈ sL κ3.1 ∧ sK κ3.1 h = 4) ∧ ∀ κ4 : CS, κ4 = (h_uJ κ3.1 h 7 a4, κ3.2) → (h ∈ sL κ4.1 ∧ sK κ4.1 h = 4) ∧ ∀ κ5 : CS, κ5 = (h_uJ κ4.1 h 8 a4, κ4.2) → (h ∈ sL κ5.1 ∧ sK κ5.1 h = 4) ∧ ∀ κ6 : CS, κ6 = (h_uJ κ5.1 h 9 a4, κ5.2) → (h ∈ sL κ6.1 ∧ sK κ6.1 h = 4) ∧ ∀ κ7 : CS, κ7 = (h_uJ κ6.1 h 10 a4, κ6.2) → (h ∈ sL κ7.1 ∧ sK κ7.1 h = 4) ∧ ∀ κ8 : CS, κ8 = (h_uI κ7.1 h 11 0, κ7.2) → post κ8
theorem dX1_beginNode_0 : decode cX1_beginNode 0 = .ok (.aload_n 0, 1) := by decide +kernel
theorem dX1_beginNode_1 : decode cX1_beginNode 1 = .ok (.iload_n 1, 1) := by decide +kernel
theorem dX1_beginNode_2 : decode cX1_beginNode 2 = .ok (.putfield 33, 3) := by decide +kernel
theorem dX1_beginNode_5 : decode cX1_beginNode 5 = .ok (.aload_n 0, 1) := by decide +kernel
theorem dX1_beginNode_6 : decode cX1_beginNode 6 = .ok (.iload_n 2, 1) := by decide +kernel
theorem dX1_beginNode_7 : decode cX1_beginNode 7 = .ok (.putfield 38, 3) := by decide +kernel
theorem dX1_beginNode_10 : decode cX1_beginNode 10 = .ok (.aload_n 0, 1) := by decide +kernel
theorem dX1_beginNode_11 : decode cX1_beginNode 11 = .ok (.iload_n 3, 1) := by decide +kernel
theorem dX1_beginNode_12 : decode cX1_beginNode 12 = .ok (.putfield 53, 3) := by decide +kernel
theorem dX1_beginNode_15 : decode cX1_beginNode 15 = .ok (.aload_n 0, 1) := by decide +kernel
theorem dX1_beginNode_16 : decode cX1_beginNode 16 = .ok (.lload 4, 2) := by decide +kernel
theorem dX1_beginNode_18 : decode cX1_beginNode 18 = .ok (.putfield 58, 3) := by decide +kernel
theorem dX1_beginNode_21 : decode cX1_beginNode 21 = .ok (.aload_n 0, 1) := by decide +kernel
theorem dX1_beginNode_22 : decode cX1_beginNode 22 = .ok (.lload 4, 2) := by decide +kernel
theorem dX1_beginNode_24 : decode cX1_beginNode 24 = .ok (.putfield 62, 3) := by decide +kernel
theorem dX1_beginNode_27 : decode cX1_beginNode 27 = .ok (.aload_n 0, 1) := by decide +kernel
theorem dX1_beginNode_28 : decode cX1_beginNode 28 = .ok (.lload 4, 2) := by decide +kernel
theorem dX1_beginNode_30 : decode cX1_beginNode 30 = .ok (.putfield 66, 3) := by decide +kernel
theorem dX1_beginNode_33 : decode cX1_beginNode 33 = .ok (.aload_n 0, 1) := by decide +kernel
theorem dX1_beginNode_34 : decode cX1_beginNode 34 = .ok (.lload 4, 2) := by decide +kernel
theorem dX1_beginNode_36 : decode cX1_beginNode 36 = .ok (.putfield 70, 3) := by decide +kernel
theorem dX1_beginNode_39 : decode cX1_beginNode 39 = .ok (.aload_n 0, 1) := by decide +kernel
theorem dX1_beginNode_40 : decode cX1_beginNode 40 = .ok (.iconst 0, 1) := by decide +kernel
theorem dX1_beginNode_41 : decode cX1_beginNode 41 = .ok (.putfield 74, 3) := by decide +kernel
theorem dX1_beginNode_44 : decode cX1_beginNode 44 = .ok (.return_, 1) := by decide +kernel
set_option maxRecDepth 100000 in
set_option maxHeartbeats 4000000 in
theorem c_X1_beginNode (l : Launch) (D : va_G) (t : Nat → ClassId) (G : GE) (κ : CS) (h : Nat) (a1 : Int32) (a2 : Int32) (a3 : Int32) (a4 : Int64) (post : CS → Prop) (hw : F_X1_beginNode G h a1 a2 a3 a4 post κ) (sz : Nat) : CMv l D t yX1_beginNode cX1_beginNode 6 0 14 G κ sz [.ref h, .int a1, .int a2, .int a3, .long a4] post := by
  refine c_go (by decide) (Nat.le_of_ble_eq_true rfl) ?_
  intro p e s m below meth c ls A hF hr hlk hin hAe hH hA hE hl
  unfold cB
  rw [hAe]
  clear hAe
  have hF : FX p m c cX1_beginNode 6 s _ RX1 D t := hF
  have hx := hF.1.1
  have hb := hF.1.2.1
  have hl : lv_has ls 6 [(0, .ref h), (1, .int a1), (2, .int a2), (3, .int a3), (4, .long a4)] := hl
  unfold F_X1_beginNode at hw
  refine lv_aload_n hx hb dX1_beginNode_0 rfl (lv_at hl 0 rfl) ?_
  refine lv_iload_n hx hb dX1_beginNode_1 rfl (lv_at hl 1 rfl) ?_
  refine cw_putIr (a := h) (v := a1) hF hH fk_X1_33 dX1_beginNode_2 rfl rfl rfl hw (fun κ1 H locs cells slots hw hH => ?_)
  refine lv_aload_n hx hb dX1_beginNode_5 rfl (lv_at hl 0 rfl) ?_
  refine lv_iload_n hx hb dX1_beginNode_6 rfl (lv_at hl 2 rfl) ?_
  refine cw_putZr (a := h) (v := a2) hF hH fk_X1_38 dX1_beginNode_7 rfl rfl hw (fun κ2 H locs cells slots hw hH => ?_)
  refine lv_aload_n hx hb dX1_beginNode_10 rfl (lv_at hl 0 rfl) ?_
  refine lv_iload_n hx hb dX1_beginNode_11 rfl (lv_at hl 3 rfl) ?_
  refine cw_putIr (a := h) (v := a3) hF hH fk_X1_53 dX1_beginNode_12 rfl rfl rfl hw (fun κ3 H locs cells slots hw hH => ?_)
  refine lv_aload_n hx hb dX1_beginNode_15 rfl (lv_at hl 0 rfl) ?_
  refine lv_lload hx hb dX1_beginNode_16 (lv_at hl 4 rfl) ?_
  refine cw_putJr (a := h) (v := a4) hF hH fk_X1_58 dX1_beginNode_18 rfl rfl rfl hw (fun κ4 H locs cells slots hw hH => ?_)
  refine lv_aload_n hx hb dX1_beginNode_21 rfl (lv_at hl 0 rfl) ?_
  refine lv_lload hx hb dX1_beginNode_22 (lv_at hl 4 rfl) ?_
  refine cw_putJr (a := h) (v := a4) hF hH fk_X1_62 dX1_beginNode_24 rfl rfl rfl hw (fun κ5 H locs cells slots hw hH => ?_)
  refine lv_aload_n hx hb dX1_beginNode_27 rfl (lv_at hl 0 rfl) ?_
  refine lv_lload hx hb dX1_beginNode_28 (lv_at hl 4 rfl) ?_
  refine cw_putJr (a := h) (v := a4) hF hH fk_X1_66 dX1_beginNode_30 rfl rfl rfl hw (fun κ6 H locs cells slots hw hH => ?_)
  refine lv_aload_n hx hb dX1_beginNode_33 rfl (lv_at hl 0 rfl) ?_
  refine lv_lload hx hb dX1_beginNode_34 (lv_at hl 4 rfl) ?_
  refine cw_putJr (a := h) (v := a4) hF hH fk_X1_70 dX1_beginNode_36 rfl rfl rfl hw (fun κ7 H locs cells slots hw hH => ?_)
  refine lv_aload_n hx hb dX1_beginNode_39 rfl (lv_at hl 0 rfl) ?_
  refine lv_iconst (v := 0) hx hb dX1_beginNode_40 (by decide) ?_
  refine cw_putIr (a := h) (v := 0) hF hH fk_X1_74 dX1_beginNode_41 rfl rfl rfl hw (fun κ8 H locs cells slots hw hH => ?_)
  exact cw_retv hF hH ⟨rfl, rfl⟩ hr hlk dX1_beginNode_44 hw
set_option maxRecDepth 100000 in
def F_X1_takeBytes (G : GE) (h : Nat) (a1 : Option Nat) (a2 : Int32) (a3 : Int32) (a4 : Int32) (post : CS → Prop) (κ : CS) : Prop := ∀ z2 : Int32, z2.toInt = max ((0 : Int32).toInt) a4.toInt → (h ∈ sL κ.1 ∧ sK κ.1 h = 4) ∧ ∀ κ3 : CS, κ3 = (h_uI κ.1 h 12 z2, κ.2) → ∀ z5 : Int32, z5.toInt = min a3.toInt ((1024 : Int32).toInt) → ∀ z7 : Int32, z7.toInt = max ((0 : Int32).toInt) z5.toInt → (h ∈ sL κ3.1 ∧ sK κ3.1 h = 4) ∧ ∀ κ8 : CS, κ8 = (h_uI κ3.1 h 13 z7, κ3.2) → (h ∈ sL κ8.1 ∧ sK κ8.1 h = 4) ∧ ∀ z9 : Int32, z9 = sI κ8.1 h 11 → (h ∈ sL κ8.1 ∧ sK κ8.1 h = 4) ∧ ∀ z10 : Int32, z10 = sI κ8.1 h 12 → (h ∈ sL κ8.1 ∧ sK κ8.1 h = 4) ∧ ∀ z11 : Int32, z11 = sI κ8.1 h 13 → ∀ z12 : Int32, z12 = z10 + z11 → ∀ z14 : Int32, z14.toInt = max z9.toInt z12.toInt → (h ∈ sL κ8.1 ∧ sK κ8.1 h = 4) ∧ ∀ κ15 : CS, κ15 = (h_uI κ8.1 h 11 z14, κ8.2) → (h ∈ sL κ15.1 ∧ sK κ15.1 h = 4) ∧ ∀ z16 : Option Nat, z16 = sP κ15.1 h 14 → ∃ n : Nat, AL G κ15 z16 n ∧ ∀ z17 : Int32, z17 = nI n → (h ∈ sL κ15.1 ∧ sK κ15.1 h = 4) ∧ ∀ z18 : Int32, z18 = sI κ15.1 h 13 → jc (fun (K21 : Unit → CS → Prop) => ((z18.toInt ≤ z17.toInt) → K21 () κ15) ∧ ((z17.toInt < z18.toInt) → (h ∈ sL κ15.1 ∧ sK κ15.1 h = 4) ∧ ∀ z37 : Int32, z37 = sI κ15.1 h 13 → (0 ≤ z37.toInt ∧ z37.toInt ≤ 1000000) ∧ (z37.toInt.toNat + 12 ≤ κ15.2) ∧ ∀ o38 : Nat, o38 ∉ sL κ15.1 → ∀ κ39 : CS, κ39 = (h_uN κ15.1 o38 20 z37.toInt.toNat, κ15.2 - (z37.toInt.toNat + 12)) → (h ∈ sL κ39.1 ∧ sK κ39.1 h = 4) ∧ ∀ κ40 : CS, κ40 = (h_uP κ39.1 h 14 (some o38), κ39.2) → K21 () κ40)) (fun (x19 : Unit) (κ20 : CS) => lc (fun (K26 : Int32 → CS → Prop) (x24 : Int32) (κ25 : CS) => (h ∈ sL κ25.1 ∧ sK κ25.1 h = 4) ∧ ∀ z28 : Int32, z28 = sI κ25.1 h 13 → ((z28.toInt ≤ x24.toInt) → post κ25) ∧ ((x24.toInt < z28.toInt) → (h ∈ sL κ25.1 ∧ sK κ25.1 h = 4) ∧ ∀ z29 : Option Nat, z29 = sP κ25.1 h 14 → ∀ z30 : Int32, z30 = a2 + x24 → ∃ b : Nat, a1 = some b ∧ (b ∈ sL κ25.1 ∧ sK κ25.1 b = 8) ∧ F_X0_number G b z30 1 (fun (z32 : Int64) (κ31 : CS) => ∀ z33 : Int32, z33 = (z32 : Int64).toInt32 → ∀ z34 : Int32, z34 = (z33 : Int32).toInt8.toInt32 → ∃ b : Nat, z29 = some b ∧ (b ∈ sL κ31.1 ∧ sK κ31.1 b = 20) ∧ (0 ≤ x24.toInt ∧ x24.toInt < (sN κ31.1 b : Int)) ∧ ∀ κ35 : CS, κ35 = (h_uI κ31.1 b x24.toInt.toNat (vp_nar .byte z34), κ31.2) → ∀ z36 : Int32, z36 = x24 + 1 → K26 z36 κ35) κ25)) 0 κ20)
theorem dX1_takeBytes_0 : decode cX1_takeBytes 0 = .ok (.aload_n 0, 1) := by decide +kernel
theorem dX1_takeBytes_1 : decode cX1_takeBytes 1 = .ok (.iconst 0, 1) := by decide +kernel
theorem dX1_takeBytes_2 : decode cX1_takeBytes 2 = .ok (.iload 4, 2) := by decide +kernel
theorem dX1_takeBytes_4 : decode cX1_takeBytes 4 = .ok (.invokestatic 81, 3) := by decide +kernel
theorem dX1_takeBytes_7 : decode cX1_takeBytes 7 = .ok (.putfield 75, 3) := by decide +kernel
theorem dX1_takeBytes_10 : decode cX1_takeBytes 10 = .ok (.aload_n 0, 1) := by decide +kernel
theorem dX1_takeBytes_11 : decode cX1_takeBytes 11 = .ok (.iconst 0, 1) := by decide +kernel
theorem dX1_takeBytes_12 : decode cX1_takeBytes 12 = .ok (.iload_n 3, 1) := by decide +kernel
theorem dX1_takeBytes_13 : decode cX1_takeBytes 13 = .ok (.sipush 1024, 3) := by decide +kernel
theorem dX1_takeBytes_16 : decode cX1_takeBytes 16 = .ok (.invokestatic 87, 3) := by decide +kernel
theorem dX1_takeBytes_19 : decode cX1_takeBytes 19 = .ok (.invokestatic 81, 3) := by decide +kernel
theorem dX1_takeBytes_22 : decode cX1_takeBytes 22 = .ok (.putfield 78, 3) := by decide +kernel
theorem dX1_takeBytes_25 : decode cX1_takeBytes 25 = .ok (.aload_n 0, 1) := by decide +kernel
theorem dX1_takeBytes_26 : decode cX1_takeBytes 26 = .ok (.aload_n 0, 1) := by decide +kernel
theorem dX1_takeBytes_27 : decode cX1_takeBytes 27 = .ok (.getfield 74, 3) := by decide +kernel
theorem dX1_takeBytes_30 : decode cX1_takeBytes 30 = .ok (.aload_n 0, 1) := by decide +kernel
theorem dX1_takeBytes_31 : decode cX1_takeBytes 31 = .ok (.getfield 75, 3) := by decide +kernel
theorem dX1_takeBytes_34 : decode cX1_takeBytes 34 = .ok (.aload_n 0, 1) := by decide +kernel
theorem dX1_takeBytes_35 : decode cX1_takeBytes 35 = .ok (.getfield 78, 3) := by decide +kernel
theorem dX1_takeBytes_38 : decode cX1_takeBytes 38 = .ok (.iadd, 1) := by decide +kernel
theorem dX1_takeBytes_39 : decode cX1_takeBytes 39 = .ok (.invokestatic 81, 3) := by decide +kernel
theorem dX1_takeBytes_42 : decode cX1_takeBytes 42 = .ok (.putfield 74, 3) := by decide +kernel
theorem dX1_takeBytes_45 : decode cX1_takeBytes 45 = .ok (.aload_n 0, 1) := by decide +kernel
theorem dX1_takeBytes_46 : decode cX1_takeBytes 46 = .ok (.getfield 15, 3) := by decide +kernel
theorem dX1_takeBytes_49 : decode cX1_takeBytes 49 = .ok (.arraylength, 1) := by decide +kernel
theorem dX1_takeBytes_50 : decode cX1_takeBytes 50 = .ok (.aload_n 0, 1) := by decide +kernel
theorem dX1_takeBytes_51 : decode cX1_takeBytes 51 = .ok (.getfield 78, 3) := by decide +kernel
theorem dX1_takeBytes_54 : decode cX1_takeBytes 54 = .ok (.if_icmp .ge 13, 3) := by decide +kernel
theorem dX1_takeBytes_57 : decode cX1_takeBytes 57 = .ok (.aload_n 0, 1) := by decide +kernel
theorem dX1_takeBytes_58 : decode cX1_takeBytes 58 = .ok (.aload_n 0, 1) := by decide +kernel
theorem dX1_takeBytes_59 : decode cX1_takeBytes 59 = .ok (.getfield 78, 3) := by decide +kernel
theorem dX1_takeBytes_62 : decode cX1_takeBytes 62 = .ok (.newarray .byte, 2) := by decide +kernel
theorem dX1_takeBytes_64 : decode cX1_takeBytes 64 = .ok (.putfield 15, 3) := by decide +kernel
theorem dX1_takeBytes_67 : decode cX1_takeBytes 67 = .ok (.iconst 0, 1) := by decide +kernel
theorem dX1_takeBytes_68 : decode cX1_takeBytes 68 = .ok (.istore 5, 2) := by decide +kernel
theorem dX1_takeBytes_70 : decode cX1_takeBytes 70 = .ok (.iload 5, 2) := by decide +kernel
theorem dX1_takeBytes_72 : decode cX1_takeBytes 72 = .ok (.aload_n 0, 1) := by decide +kernel
theorem dX1_takeBytes_73 : decode cX1_takeBytes 73 = .ok (.getfield 78, 3) := by decide +kernel
theorem dX1_takeBytes_76 : decode cX1_takeBytes 76 = .ok (.if_icmp .ge 27, 3) := by decide +kernel
theorem dX1_takeBytes_79 : decode cX1_takeBytes 79 = .ok (.aload_n 0, 1) := by decide +kernel
theorem dX1_takeBytes_80 : decode cX1_takeBytes 80 = .ok (.getfield 15, 3) := by decide +kernel
theorem dX1_takeBytes_83 : decode cX1_takeBytes 83 = .ok (.iload 5, 2) := by decide +kernel
theorem dX1_takeBytes_85 : decode cX1_takeBytes 85 = .ok (.aload_n 1, 1) := by decide +kernel
theorem dX1_takeBytes_86 : decode cX1_takeBytes 86 = .ok (.iload_n 2, 1) := by decide +kernel
theorem dX1_takeBytes_87 : decode cX1_takeBytes 87 = .ok (.iload 5, 2) := by decide +kernel
theorem dX1_takeBytes_89 : decode cX1_takeBytes 89 = .ok (.iadd, 1) := by decide +kernel
theorem dX1_takeBytes_90 : decode cX1_takeBytes 90 = .ok (.iconst 1, 1) := by decide +kernel
theorem dX1_takeBytes_91 : decode cX1_takeBytes 91 = .ok (.invokevirtual 90, 3) := by decide +kernel
theorem dX1_takeBytes_94 : decode cX1_takeBytes 94 = .ok (.l2i, 1) := by decide +kernel
theorem dX1_takeBytes_95 : decode cX1_takeBytes 95 = .ok (.i2b, 1) := by decide +kernel
theorem dX1_takeBytes_96 : decode cX1_takeBytes 96 = .ok (.bastore, 1) := by decide +kernel
theorem dX1_takeBytes_97 : decode cX1_takeBytes 97 = .ok (.iinc 5 1, 3) := by decide +kernel
theorem dX1_takeBytes_100 : decode cX1_takeBytes 100 = .ok (.goto (-30), 3) := by decide +kernel
theorem dX1_takeBytes_103 : decode cX1_takeBytes 103 = .ok (.return_, 1) := by decide +kernel
set_option maxRecDepth 100000 in
set_option maxHeartbeats 4000000 in
theorem c_X1_takeBytes (l : Launch) (D : va_G) (t : Nat → ClassId) (G : GE) (κ : CS) (h : Nat) (a1 : Option Nat) (a2 : Int32) (a3 : Int32) (a4 : Int32) (post : CS → Prop) (hw : F_X1_takeBytes G h a1 a2 a3 a4 post κ) (sz : Nat) : CMv l D t yX1_takeBytes cX1_takeBytes 6 2 62 G κ sz [.ref h, va_rf a1, .int a2, .int a3, .int a4] post := by
  refine c_go (by decide) (by cases a1 <;> exact Nat.le_of_ble_eq_true rfl) ?_
  intro p e s m below meth c ls A hF hr hlk hin hAe hH hA hE hl
  unfold cB
  rw [hAe]
  clear hAe
  have hF : FX p m c cX1_takeBytes 6 s _ RX1 D t := hF
  have hx := hF.1.1
  have hb := hF.1.2.1
  have hl : lv_has ls 6 [(0, .ref h), (1, va_rf a1), (2, .int a2), (3, .int a3), (4, .int a4)] := (by have h2 := hl; clear hw; revert h2; cases a1 <;> exact id)
  unfold F_X1_takeBytes at hw
  refine lv_aload_n hx hb dX1_takeBytes_0 rfl (lv_at hl 0 rfl) ?_
  refine lv_iconst (v := 0) hx hb dX1_takeBytes_1 (by decide) ?_
  refine lv_iload hx hb dX1_takeBytes_2 (lv_at hl 4 rfl) ?_
  refine cw_mmax hF hH hl.1 (wc_30 0 rfl) (wc_10 1 rfl) (wc_5 5 rfl) (wc_10 0 rfl) (Nat.le_of_ble_eq_true rfl) (Nat.le_of_ble_eq_true rfl) dX1_takeBytes_4 hw (fun z2 hw => ?_)
  refine cw_putIr (a := h) (v := z2) hF hH fk_X1_75 dX1_takeBytes_7 rfl rfl rfl hw (fun κ3 H locs cells slots hw hH => ?_)
  refine lv_aload_n hx hb dX1_takeBytes_10 rfl (lv_at hl 0 rfl) ?_
  refine lv_iconst (v := 0) hx hb dX1_takeBytes_11 (by decide) ?_
  refine lv_iload_n hx hb dX1_takeBytes_12 rfl (lv_at hl 3 rfl) ?_
  refine lv_sipush (v := 1024) hx hb dX1_takeBytes_13 (by decide) ?_
  refine cw_mmin hF hH hl.1 (wc_30 1 rfl) (wc_10 25 rfl) (wc_5 5 rfl) (wc_10 24 rfl) (Nat.le_of_ble_eq_true rfl) (Nat.le_of_ble_eq_true rfl) dX1_takeBytes_16 hw (fun z5 hw => ?_)
  refine cw_mmax hF hH hl.1 (wc_30 0 rfl) (wc_10 1 rfl) (wc_5 5 rfl) (wc_10 0 rfl) (Nat.le_of_ble_eq_true rfl) (Nat.le_of_ble_eq_true rfl) dX1_takeBytes_19 hw (fun z7 hw => ?_)
  refine cw_putIr (a := h) (v := z7) hF hH fk_X1_78 dX1_takeBytes_22 rfl rfl rfl hw (fun κ8 H locs cells slots hw hH => ?_)
  refine lv_aload_n hx hb dX1_takeBytes_25 rfl (lv_at hl 0 rfl) ?_
  refine lv_aload_n hx hb dX1_takeBytes_26 rfl (lv_at hl 0 rfl) ?_
  refine cw_getIr (a := h) hF hH fk_X1_74 dX1_takeBytes_27 hw (fun z9 hw => ?_)
  refine lv_aload_n hx hb dX1_takeBytes_30 rfl (lv_at hl 0 rfl) ?_
  refine cw_getIr (a := h) hF hH fk_X1_75 dX1_takeBytes_31 hw (fun z10 hw => ?_)
  refine lv_aload_n hx hb dX1_takeBytes_34 rfl (lv_at hl 0 rfl) ?_
  refine cw_getIr (a := h) hF hH fk_X1_78 dX1_takeBytes_35 hw (fun z11 hw => ?_)
  refine lv_iadd hx hb dX1_takeBytes_38 ?_
  refine w_nmi hw (fun z12 hw => ?_)
  refine cw_mmax hF hH hl.1 (wc_30 0 rfl) (wc_10 1 rfl) (wc_5 5 rfl) (wc_10 0 rfl) (Nat.le_of_ble_eq_true rfl) (Nat.le_of_ble_eq_true rfl) dX1_takeBytes_39 hw (fun z14 hw => ?_)
  refine cw_putIr (a := h) (v := z14) hF hH fk_X1_74 dX1_takeBytes_42 rfl rfl rfl hw (fun κ15 H locs cells slots hw hH => ?_)
  refine lv_aload_n hx hb dX1_takeBytes_45 rfl (lv_at hl 0 rfl) ?_
  refine cw_getPr (a := h) hF hH fk_X1_15 dX1_takeBytes_46 hw (fun z16 hw => ?_)
  refine cw_alen (q := z16) hF hH hE dX1_takeBytes_49 hw (fun z17 hw => ?_)
  refine lv_aload_n hx hb dX1_takeBytes_50 rfl (lv_at hl 0 rfl) ?_
  refine cw_getIr (a := h) hF hH fk_X1_78 dX1_takeBytes_51 hw (fun z18 hw => ?_)
  obtain ⟨K21, hK22, hw⟩ := jc_open hw
  refine cw_join (K := K21) 67 (fun (x19 : Unit) => [(2, .int a2), (1, va_rf a1), (0, .ref h)]) (fun (x19 : Unit) => []) hl hH (fun x19 κ20 ls H locs cells slots hl hw hH => ?_) (fun jn23 => ?_)
  · have hw := hK22 x19 κ20 hw
    have hl : lv_has ls 6 [(2, .int a2), (1, va_rf a1), (0, .ref h)] := hl
    refine lv_iconst (v := 0) hx hb dX1_takeBytes_67 (by decide) ?_
    refine lv_istore (lv' := [(5, .int 0), (2, .int a2), (1, va_rf a1), (0, .ref h)]) hx hb dX1_takeBytes_68 hl (by decide) rfl (fun ls hl => ?_)
    refine cw_loop (β := Int32) (fun x24 => [(5, .int x24), (2, .int a2), (1, va_rf a1), (0, .ref h)]) 0 hl hw hH (fun K26 x24 κ25 ls H locs cells slots hl hw hH ih27 => ?_)
    have hl : lv_has ls 6 [(5, .int x24), (2, .int a2), (1, va_rf a1), (0, .ref h)] := hl
    refine lv_iload hx hb dX1_takeBytes_70 (lv_at hl 0 rfl) ?_
    refine lv_aload_n hx hb dX1_takeBytes_72 rfl (lv_at hl 3 rfl) ?_
    refine cw_getIr (a := h) hF hH fk_X1_78 dX1_takeBytes_73 hw (fun z28 hw => ?_)
    refine w_icmp_ge (tgt := 103) hF dX1_takeBytes_76 rfl hw (fun hw => ?_) (fun hw => ?_)
    · exact cw_retv hF hH ⟨rfl, rfl⟩ hr hlk dX1_takeBytes_103 hw
    · refine lv_aload_n hx hb dX1_takeBytes_79 rfl (lv_at hl 3 rfl) ?_
      refine cw_getPr (a := h) hF hH fk_X1_15 dX1_takeBytes_80 hw (fun z29 hw => ?_)
      refine lv_iload hx hb dX1_takeBytes_83 (lv_at hl 0 rfl) ?_
      refine w_aloadq_n hF dX1_takeBytes_85 rfl (lv_at hl 2 rfl) ?_
      refine lv_iload_n hx hb dX1_takeBytes_86 rfl (lv_at hl 1 rfl) ?_
      refine lv_iload hx hb dX1_takeBytes_87 (lv_at hl 0 rfl) ?_
      refine lv_iadd hx hb dX1_takeBytes_89 ?_
      refine w_nmi hw (fun z30 hw => ?_)
      refine lv_iconst (v := 1) hx hb dX1_takeBytes_90 (by decide) ?_
      refine cw_cVlq (q := a1) (As := [.int z30, .int 1]) (rest := [.int x24, va_rf z29]) hF hH hA hE mv_X1_90 ci_X0 (by decide) hw (fun b hw sz => c_X0_number l D t G _ b z30 1 _ hw sz) dX1_takeBytes_91 ⟨Nat.le_of_ble_eq_true rfl, Nat.le_of_ble_eq_true rfl⟩ rfl hl.1 (by simp only [List.map_cons, List.map_nil, cat_rf]; exact Nat.le_of_ble_eq_true rfl) rfl (fun z32 κ31 H locs cells slots hw hH => ?_)
      refine lv_l2i hx hb dX1_takeBytes_94 rfl ?_
      refine w_nmi hw (fun z33 hw => ?_)
      refine lv_i2b hx hb dX1_takeBytes_95 rfl ?_
      refine w_nmi hw (fun z34 hw => ?_)
      refine cw_bast (q := z29) hF hH dX1_takeBytes_96 hw (fun κ35 H locs cells slots hw hH => ?_)
      obtain ⟨z36, ez36⟩ : ∃ z : Int32, z = x24 + 1 := ⟨_, rfl⟩
      have hw := hw z36 ez36
      refine lv_iinc (lv' := [(5, .int z36), (2, .int a2), (1, va_rf a1), (0, .ref h)]) (k := 0) (v := z36) hx hb dX1_takeBytes_97 hl rfl ez36.symm (by decide) rfl (fun ls hl => ?_)
      refine lv_goto (tgt := 70) hx hb dX1_takeBytes_100 rfl ?_
      exact ih27 z36 κ35 ls _ _ _ _ hl hw hH
  · skip
    refine w_icmp_ge (tgt := 67) hF dX1_takeBytes_54 rfl hw (fun hw => ?_) (fun hw => ?_)
    · have hl : lv_has ls 6 [(2, .int a2), (1, va_rf a1), (0, .ref h)] := lv_sub hl [2, 1, 0] rfl
      exact jn23 () κ15 ls _ _ _ _ hl hw hH
    · refine lv_aload_n hx hb dX1_takeBytes_57 rfl (lv_at hl 0 rfl) ?_
      refine lv_aload_n hx hb dX1_takeBytes_58 rfl (lv_at hl 0 rfl) ?_
      refine cw_getIr (a := h) hF hH fk_X1_78 dX1_takeBytes_59 hw (fun z37 hw => ?_)
      refine cw_newarr_byte hF hH hA (wc_5 11 rfl) dX1_takeBytes_62 hw (fun o38 κ39 H locs cells slots hw hH => ?_)
      refine cw_putPr (a := h) (v := (some o38)) hF hH fk_X1_15 dX1_takeBytes_64 rfl rfl hw (fun κ40 H locs cells slots hw hH => ?_)
      have hl : lv_has ls 6 [(2, .int a2), (1, va_rf a1), (0, .ref h)] := lv_sub hl [2, 1, 0] rfl
      exact jn23 () κ40 ls _ _ _ _ hl hw hH

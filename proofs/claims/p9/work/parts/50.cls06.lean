/-! the class, lifted: 6 -/
set_option maxRecDepth 100000 in
def F_X11_canBe (G : GE) (h : Nat) (a1 : Option Nat) (post : Int32 → CS → Prop) (κ : CS) : Prop := lc (fun (K3 : Int32 → CS → Prop) (x1 : Int32) (κ2 : CS) => (h ∈ sL κ2.1 ∧ sK κ2.1 h = 1) ∧ ∀ z5 : Option Nat, z5 = sP κ2.1 h 11 → ∃ b : Nat, z5 = some b ∧ (b ∈ sL κ2.1 ∧ sK κ2.1 b = 7) ∧ F_Jx4a65c_size_8abf5 G b  (fun (z7 : Int32) (κ6 : CS) => ((z7.toInt ≤ x1.toInt) → (0 ≤ (1 : Int32).toInt ∧ (1 : Int32).toInt ≤ 1) ∧ post 1 κ6) ∧ ((x1.toInt < z7.toInt) → (h ∈ sL κ6.1 ∧ sK κ6.1 h = 1) ∧ ∀ z8 : Option Nat, z8 = sP κ6.1 h 11 → ∃ b : Nat, z8 = some b ∧ (b ∈ sL κ6.1 ∧ sK κ6.1 b = 7) ∧ F_Jx4a65c_get_915e3 G b x1 (fun (z10 : Option Nat) (κ9 : CS) => (z10 = none ∨ ∃ b : Nat, z10 = some b ∧ b ∈ sL κ9.1 ∧ sK κ9.1 b = 9) ∧ ∃ b : Nat, z10 = some b ∧ (b ∈ sL κ9.1 ∧ sK κ9.1 b = 9) ∧ ∀ z11 : Option Nat, z11 = sP κ9.1 b 0 → ∃ b : Nat, z11 = some b ∧ (b ∈ sL κ9.1 ∧ sK κ9.1 b = 10) ∧ ∀ z12 : Option Nat, z12 = sP κ9.1 b 2 → ∃ b : Nat, a1 = some b ∧ (b ∈ sL κ9.1 ∧ sK κ9.1 b = 9) ∧ ∀ z13 : Option Nat, z13 = sP κ9.1 b 0 → ∃ b : Nat, z13 = some b ∧ (b ∈ sL κ9.1 ∧ sK κ9.1 b = 10) ∧ ∀ z14 : Option Nat, z14 = sP κ9.1 b 2 → jc (fun (K17 : Unit → CS → Prop) => ((¬ z12 = z14) → K17 () κ9) ∧ ((z12 = z14) → ∃ b : Nat, z10 = some b ∧ (b ∈ sL κ9.1 ∧ sK κ9.1 b = 9) ∧ ∀ z21 : Int32, z21 = sI κ9.1 b 3 → jc (fun (K24 : Unit → CS → Prop) => ((z21.toInt = 0) → K24 () κ9) ∧ ((¬ z21.toInt = 0) → ∃ b : Nat, a1 = some b ∧ (b ∈ sL κ9.1 ∧ sK κ9.1 b = 9) ∧ ∀ z31 : Int32, z31 = sI κ9.1 b 3 → ((¬ z31.toInt = 0) → K17 () κ9) ∧ ((z31.toInt = 0) → K24 () κ9))) (fun (x22 : Unit) (κ23 : CS) => ∃ b : Nat, a1 = some b ∧ (b ∈ sL κ23.1 ∧ sK κ23.1 b = 9) ∧ ∀ z27 : Int64, z27 = sJ κ23.1 b 1 → ∃ b : Nat, a1 = some b ∧ (b ∈ sL κ23.1 ∧ sK κ23.1 b = 9) ∧ ∀ z28 : Int64, z28 = sJ κ23.1 b 2 → ∃ b : Nat, z10 = some b ∧ (b ∈ sL κ23.1 ∧ sK κ23.1 b = 9) ∧ F_X3_meets G b z27 z28 (fun (z30 : Int32) (κ29 : CS) => ((z30.toInt = 0) → K17 () κ29) ∧ ((¬ z30.toInt = 0) → (0 ≤ (0 : Int32).toInt ∧ (0 : Int32).toInt ≤ 1) ∧ post 0 κ29)) κ23))) (fun (x15 : Unit) (κ16 : CS) => ∀ z20 : Int32, z20 = x1 + 1 → K3 z20 κ16)) κ6)) κ2) 0 κ
theorem dX11_canBe_0 : decode cX11_canBe 0 = .ok (.iconst 0, 1) := by decide +kernel
theorem dX11_canBe_1 : decode cX11_canBe 1 = .ok (.istore_n 2, 1) := by decide +kernel
theorem dX11_canBe_2 : decode cX11_canBe 2 = .ok (.iload_n 2, 1) := by decide +kernel
theorem dX11_canBe_3 : decode cX11_canBe 3 = .ok (.aload_n 0, 1) := by decide +kernel
theorem dX11_canBe_4 : decode cX11_canBe 4 = .ok (.getfield 55, 3) := by decide +kernel
theorem dX11_canBe_7 : decode cX11_canBe 7 = .ok (.invokevirtual 161, 3) := by decide +kernel
theorem dX11_canBe_10 : decode cX11_canBe 10 = .ok (.if_icmp .ge 69, 3) := by decide +kernel
theorem dX11_canBe_13 : decode cX11_canBe 13 = .ok (.aload_n 0, 1) := by decide +kernel
theorem dX11_canBe_14 : decode cX11_canBe 14 = .ok (.getfield 55, 3) := by decide +kernel
theorem dX11_canBe_17 : decode cX11_canBe 17 = .ok (.iload_n 2, 1) := by decide +kernel
theorem dX11_canBe_18 : decode cX11_canBe 18 = .ok (.invokevirtual 164, 3) := by decide +kernel
theorem dX11_canBe_21 : decode cX11_canBe 21 = .ok (.checkcast 561, 3) := by decide +kernel
theorem dX11_canBe_24 : decode cX11_canBe 24 = .ok (.astore_n 3, 1) := by decide +kernel
theorem dX11_canBe_25 : decode cX11_canBe 25 = .ok (.aload_n 3, 1) := by decide +kernel
theorem dX11_canBe_26 : decode cX11_canBe 26 = .ok (.getfield 563, 3) := by decide +kernel
theorem dX11_canBe_29 : decode cX11_canBe 29 = .ok (.getfield 564, 3) := by decide +kernel
theorem dX11_canBe_32 : decode cX11_canBe 32 = .ok (.aload_n 1, 1) := by decide +kernel
theorem dX11_canBe_33 : decode cX11_canBe 33 = .ok (.getfield 563, 3) := by decide +kernel
theorem dX11_canBe_36 : decode cX11_canBe 36 = .ok (.getfield 564, 3) := by decide +kernel
theorem dX11_canBe_39 : decode cX11_canBe 39 = .ok (.if_acmp .ne 34, 3) := by decide +kernel
theorem dX11_canBe_42 : decode cX11_canBe 42 = .ok (.aload_n 3, 1) := by decide +kernel
theorem dX11_canBe_43 : decode cX11_canBe 43 = .ok (.getfield 859, 3) := by decide +kernel
theorem dX11_canBe_46 : decode cX11_canBe 46 = .ok (.ifCond .eq 10, 3) := by decide +kernel
theorem dX11_canBe_49 : decode cX11_canBe 49 = .ok (.aload_n 1, 1) := by decide +kernel
theorem dX11_canBe_50 : decode cX11_canBe 50 = .ok (.getfield 859, 3) := by decide +kernel
theorem dX11_canBe_53 : decode cX11_canBe 53 = .ok (.ifCond .ne 20, 3) := by decide +kernel
theorem dX11_canBe_56 : decode cX11_canBe 56 = .ok (.aload_n 3, 1) := by decide +kernel
theorem dX11_canBe_57 : decode cX11_canBe 57 = .ok (.aload_n 1, 1) := by decide +kernel
theorem dX11_canBe_58 : decode cX11_canBe 58 = .ok (.getfield 846, 3) := by decide +kernel
theorem dX11_canBe_61 : decode cX11_canBe 61 = .ok (.aload_n 1, 1) := by decide +kernel
theorem dX11_canBe_62 : decode cX11_canBe 62 = .ok (.getfield 849, 3) := by decide +kernel
theorem dX11_canBe_65 : decode cX11_canBe 65 = .ok (.invokevirtual 862, 3) := by decide +kernel
theorem dX11_canBe_68 : decode cX11_canBe 68 = .ok (.ifCond .eq 5, 3) := by decide +kernel
theorem dX11_canBe_71 : decode cX11_canBe 71 = .ok (.iconst 0, 1) := by decide +kernel
theorem dX11_canBe_72 : decode cX11_canBe 72 = .ok (.ireturn, 1) := by decide +kernel
theorem dX11_canBe_73 : decode cX11_canBe 73 = .ok (.iinc 2 1, 3) := by decide +kernel
theorem dX11_canBe_76 : decode cX11_canBe 76 = .ok (.goto (-74), 3) := by decide +kernel
theorem dX11_canBe_79 : decode cX11_canBe 79 = .ok (.iconst 1, 1) := by decide +kernel
theorem dX11_canBe_80 : decode cX11_canBe 80 = .ok (.ireturn, 1) := by decide +kernel
set_option maxRecDepth 100000 in
set_option maxHeartbeats 4000000 in
theorem c_X11_canBe (l : Launch) (D : va_G) (t : Nat → ClassId) (G : GE) (κ : CS) (h : Nat) (a1 : Option Nat) (post : Int32 → CS → Prop) (hw : F_X11_canBe G h a1 post κ) (sz : Nat) : CMi l D t yX11_canBe cX11_canBe 4 (some .boolean) 3 78 G κ sz [.ref h, va_rf a1] post := by
  refine c_go (by decide) (by cases a1 <;> exact Nat.le_of_ble_eq_true rfl) ?_
  intro p e s m below meth c ls A hF hr hlk hin hAe hH hA hE hl
  unfold cB
  rw [hAe]
  clear hAe
  have hF : FX p m c cX11_canBe 4 s _ RX11 D t := hF
  have hx := hF.1.1
  have hb := hF.1.2.1
  have hl : lv_has ls 4 [(0, .ref h), (1, va_rf a1)] := (by have h2 := hl; clear hw; revert h2; cases a1 <;> exact id)
  unfold F_X11_canBe at hw
  refine lv_iconst (v := 0) hx hb dX11_canBe_0 (by decide) ?_
  refine lv_istore_n (lv' := [(2, .int 0), (0, .ref h), (1, va_rf a1)]) hx hb dX11_canBe_1 rfl hl (by decide) (by generalize a1 = y; cases y <;> rfl) (fun ls hl => ?_)
  have hl : lv_has ls 4 [(2, .int 0), (1, va_rf a1), (0, .ref h)] := lv_sub hl [0, 2, 1] rfl
  refine cw_loop (β := Int32) (fun x1 => [(2, .int x1), (1, va_rf a1), (0, .ref h)]) 0 hl hw hH (fun K3 x1 κ2 ls H locs cells slots hl hw hH ih4 => ?_)
  have hl : lv_has ls 4 [(2, .int x1), (1, va_rf a1), (0, .ref h)] := hl
  refine lv_iload_n hx hb dX11_canBe_2 rfl (lv_at hl 0 rfl) ?_
  refine lv_aload_n hx hb dX11_canBe_3 rfl (lv_at hl 2 rfl) ?_
  refine cw_getPr (a := h) hF hH fk_X11_55 dX11_canBe_4 hw (fun z5 hw => ?_)
  refine cw_cViq (q := z5) (As := []) (rest := [.int x1]) hF hH hA hE mv_X11_161 ci_Jx4a65c (by decide) hw (fun b hw sz => c_Jx4a65c_size_8abf5 l D t G _ b  _ hw sz) dX11_canBe_7 ⟨Nat.le_of_ble_eq_true rfl, Nat.le_of_ble_eq_true rfl⟩ rfl hl.1 (Nat.le_of_ble_eq_true rfl) rfl (fun z7 κ6 H locs cells slots hw hH => ?_)
  refine w_icmp_ge (tgt := 79) hF dX11_canBe_10 rfl hw (fun hw => ?_) (fun hw => ?_)
  · refine lv_iconst (v := 1) hx hb dX11_canBe_79 (by decide) ?_
    exact cw_retz hF hH ⟨rfl, rfl⟩ hr hlk dX11_canBe_80 hw
  · refine lv_aload_n hx hb dX11_canBe_13 rfl (lv_at hl 2 rfl) ?_
    refine cw_getPr (a := h) hF hH fk_X11_55 dX11_canBe_14 hw (fun z8 hw => ?_)
    refine lv_iload_n hx hb dX11_canBe_17 rfl (lv_at hl 0 rfl) ?_
    refine cw_cVqq (q := z8) (As := [.int x1]) (rest := []) hF hH hA hE mv_X11_164 ci_Jx4a65c (by decide) hw (fun b hw sz => c_Jx4a65c_get_915e3 l D t G _ b x1 _ hw sz) dX11_canBe_18 ⟨Nat.le_of_ble_eq_true rfl, Nat.le_of_ble_eq_true rfl⟩ rfl hl.1 (Nat.le_of_ble_eq_true rfl) rfl (fun z10 κ9 H locs cells slots hw hH => ?_)
    refine cw_cast (q := z10) hF hH ci_X3 (by decide) (wc_17 27 rfl) (by decide) dX11_canBe_21 hw (fun hw => ?_)
    refine w_astoreq_n (lv' := [(3, va_rf z10), (2, .int x1), (1, va_rf a1), (0, .ref h)]) hF dX11_canBe_24 rfl hl (by decide) rfl (fun ls hl => ?_)
    refine w_aloadq_n hF dX11_canBe_25 rfl (lv_at hl 0 rfl) ?_
    refine cw_getP (q := z10) hF hH fk_X11_563 dX11_canBe_26 hw (fun z11 hw => ?_)
    refine cw_getP (q := z11) hF hH fk_X11_564 dX11_canBe_29 hw (fun z12 hw => ?_)
    refine w_aloadq_n hF dX11_canBe_32 rfl (lv_at hl 2 rfl) ?_
    refine cw_getP (q := a1) hF hH fk_X11_563 dX11_canBe_33 hw (fun z13 hw => ?_)
    refine cw_getP (q := z13) hF hH fk_X11_564 dX11_canBe_36 hw (fun z14 hw => ?_)
    obtain ⟨K17, hK18, hw⟩ := jc_open hw
    refine cw_join (K := K17) 73 (fun (x15 : Unit) => [(2, .int x1), (1, va_rf a1), (0, .ref h)]) (fun (x15 : Unit) => []) hl hH (fun x15 κ16 ls H locs cells slots hl hw hH => ?_) (fun jn19 => ?_)
    · have hw := hK18 x15 κ16 hw
      have hl : lv_has ls 4 [(2, .int x1), (1, va_rf a1), (0, .ref h)] := hl
      obtain ⟨z20, ez20⟩ : ∃ z : Int32, z = x1 + 1 := ⟨_, rfl⟩
      have hw := hw z20 ez20
      refine lv_iinc (lv' := [(2, .int z20), (1, va_rf a1), (0, .ref h)]) (k := 0) (v := z20) hx hb dX11_canBe_73 hl rfl ez20.symm (by decide) (by generalize a1 = y; cases y <;> rfl) (fun ls hl => ?_)
      refine lv_goto (tgt := 2) hx hb dX11_canBe_76 rfl ?_
      exact ih4 z20 κ16 ls _ _ _ _ hl hw hH
    · skip
      refine cw_acmp_ne (rx := z12) (ry := z14) (tgt := 73) hF dX11_canBe_39 rfl hw (fun hw => ?_) (fun hw => ?_)
      · have hl : lv_has ls 4 [(2, .int x1), (1, va_rf a1), (0, .ref h)] := lv_sub hl [1, 2, 3] rfl
        exact jn19 () κ9 ls _ _ _ _ hl hw hH
      · refine w_aloadq_n hF dX11_canBe_42 rfl (lv_at hl 0 rfl) ?_
        refine cw_getI (q := z10) hF hH fk_X11_859 dX11_canBe_43 hw (fun z21 hw => ?_)
        obtain ⟨K24, hK25, hw⟩ := jc_open hw
        refine cw_join (K := K24) 56 (fun (x22 : Unit) => [(3, va_rf z10), (2, .int x1), (1, va_rf a1), (0, .ref h)]) (fun (x22 : Unit) => []) hl hH (fun x22 κ23 ls H locs cells slots hl hw hH => ?_) (fun jn26 => ?_)
        · have hw := hK25 x22 κ23 hw
          have hl : lv_has ls 4 [(3, va_rf z10), (2, .int x1), (1, va_rf a1), (0, .ref h)] := hl
          refine w_aloadq_n hF dX11_canBe_56 rfl (lv_at hl 0 rfl) ?_
          refine w_aloadq_n hF dX11_canBe_57 rfl (lv_at hl 2 rfl) ?_
          refine cw_getJ (q := a1) hF hH fk_X11_846 dX11_canBe_58 hw (fun z27 hw => ?_)
          refine w_aloadq_n hF dX11_canBe_61 rfl (lv_at hl 2 rfl) ?_
          refine cw_getJ (q := a1) hF hH fk_X11_849 dX11_canBe_62 hw (fun z28 hw => ?_)
          refine cw_cViq (q := z10) (As := [.long z27, .long z28]) (rest := []) hF hH hA hE mv_X11_862 ci_X3 (by decide) hw (fun b hw sz => c_X3_meets l D t G _ b z27 z28 _ hw sz) dX11_canBe_65 ⟨Nat.le_of_ble_eq_true rfl, Nat.le_of_ble_eq_true rfl⟩ rfl hl.1 (Nat.le_of_ble_eq_true rfl) rfl (fun z30 κ29 H locs cells slots hw hH => ?_)
          refine w_if_eq (tgt := 73) hF dX11_canBe_68 rfl hw (fun hw => ?_) (fun hw => ?_)
          · have hl : lv_has ls 4 [(2, .int x1), (1, va_rf a1), (0, .ref h)] := lv_sub hl [1, 2, 3] rfl
            exact jn19 () κ29 ls _ _ _ _ hl hw hH
          · refine lv_iconst (v := 0) hx hb dX11_canBe_71 (by decide) ?_
            exact cw_retz hF hH ⟨rfl, rfl⟩ hr hlk dX11_canBe_72 hw
        · skip
          refine w_if_eq (tgt := 56) hF dX11_canBe_46 rfl hw (fun hw => ?_) (fun hw => ?_)
          · exact jn26 () κ9 ls _ _ _ _ hl hw hH
          · refine w_aloadq_n hF dX11_canBe_49 rfl (lv_at hl 2 rfl) ?_
            refine cw_getI (q := a1) hF hH fk_X11_859 dX11_canBe_50 hw (fun z31 hw => ?_)
            refine w_if_ne (tgt := 73) hF dX11_canBe_53 rfl hw (fun hw => ?_) (fun hw => ?_)
            · have hl : lv_has ls 4 [(2, .int x1), (1, va_rf a1), (0, .ref h)] := lv_sub hl [1, 2, 3] rfl
              exact jn19 () κ9 ls _ _ _ _ hl hw hH
            · exact jn26 () κ9 ls _ _ _ _ hl hw hH
set_option maxRecDepth 100000 in
def F_J8_hugeLength_7cf53 (G : GE) (a0 : Int32) (a1 : Int32) (post : Int32 → CS → Prop) (κ : CS) : Prop := ∀ z1 : Int32, z1 = a0 + a1 → ((0 ≤ z1.toInt) → (((2147483639 : Int32).toInt < z1.toInt) → post z1 κ) ∧ ((z1.toInt ≤ (2147483639 : Int32).toInt) → post 2147483639 κ)) ∧ ((z1.toInt < 0) → False)
theorem dJ8_hugeLength_7cf53_0 : decode cJ8_hugeLength_7cf53 0 = .ok (.iload_n 0, 1) := by decide +kernel
theorem dJ8_hugeLength_7cf53_1 : decode cJ8_hugeLength_7cf53 1 = .ok (.iload_n 1, 1) := by decide +kernel
theorem dJ8_hugeLength_7cf53_2 : decode cJ8_hugeLength_7cf53 2 = .ok (.iadd, 1) := by decide +kernel
theorem dJ8_hugeLength_7cf53_3 : decode cJ8_hugeLength_7cf53 3 = .ok (.istore_n 2, 1) := by decide +kernel
theorem dJ8_hugeLength_7cf53_4 : decode cJ8_hugeLength_7cf53 4 = .ok (.iload_n 2, 1) := by decide +kernel
theorem dJ8_hugeLength_7cf53_5 : decode cJ8_hugeLength_7cf53 5 = .ok (.ifCond .ge 44, 3) := by decide +kernel
theorem dJ8_hugeLength_7cf53_8 : decode cJ8_hugeLength_7cf53 8 = .ok (.new 204, 3) := by decide +kernel
theorem dJ8_hugeLength_7cf53_11 : decode cJ8_hugeLength_7cf53 11 = .ok (.dup, 1) := by decide +kernel
theorem dJ8_hugeLength_7cf53_12 : decode cJ8_hugeLength_7cf53 12 = .ok (.new 89, 3) := by decide +kernel
theorem dJ8_hugeLength_7cf53_15 : decode cJ8_hugeLength_7cf53 15 = .ok (.dup, 1) := by decide +kernel
theorem dJ8_hugeLength_7cf53_16 : decode cJ8_hugeLength_7cf53 16 = .ok (.invokespecial 91, 3) := by decide +kernel
theorem dJ8_hugeLength_7cf53_19 : decode cJ8_hugeLength_7cf53 19 = .ok (.ldc 206, 2) := by decide +kernel
theorem dJ8_hugeLength_7cf53_21 : decode cJ8_hugeLength_7cf53 21 = .ok (.invokevirtual 94, 3) := by decide +kernel
theorem dJ8_hugeLength_7cf53_24 : decode cJ8_hugeLength_7cf53 24 = .ok (.iload_n 0, 1) := by decide +kernel
theorem dJ8_hugeLength_7cf53_25 : decode cJ8_hugeLength_7cf53 25 = .ok (.invokevirtual 98, 3) := by decide +kernel
theorem dJ8_hugeLength_7cf53_28 : decode cJ8_hugeLength_7cf53 28 = .ok (.ldc 208, 2) := by decide +kernel
theorem dJ8_hugeLength_7cf53_30 : decode cJ8_hugeLength_7cf53 30 = .ok (.invokevirtual 94, 3) := by decide +kernel
theorem dJ8_hugeLength_7cf53_33 : decode cJ8_hugeLength_7cf53 33 = .ok (.iload_n 1, 1) := by decide +kernel
theorem dJ8_hugeLength_7cf53_34 : decode cJ8_hugeLength_7cf53 34 = .ok (.invokevirtual 98, 3) := by decide +kernel
theorem dJ8_hugeLength_7cf53_37 : decode cJ8_hugeLength_7cf53 37 = .ok (.ldc 210, 2) := by decide +kernel
theorem dJ8_hugeLength_7cf53_39 : decode cJ8_hugeLength_7cf53 39 = .ok (.invokevirtual 94, 3) := by decide +kernel
theorem dJ8_hugeLength_7cf53_42 : decode cJ8_hugeLength_7cf53 42 = .ok (.invokevirtual 101, 3) := by decide +kernel
theorem dJ8_hugeLength_7cf53_45 : decode cJ8_hugeLength_7cf53 45 = .ok (.invokespecial 212, 3) := by decide +kernel
theorem dJ8_hugeLength_7cf53_48 : decode cJ8_hugeLength_7cf53 48 = .ok (.athrow, 1) := by decide +kernel
theorem dJ8_hugeLength_7cf53_49 : decode cJ8_hugeLength_7cf53 49 = .ok (.iload_n 2, 1) := by decide +kernel
theorem dJ8_hugeLength_7cf53_50 : decode cJ8_hugeLength_7cf53 50 = .ok (.ldc 200, 2) := by decide +kernel
theorem dJ8_hugeLength_7cf53_52 : decode cJ8_hugeLength_7cf53 52 = .ok (.if_icmp .gt 6, 3) := by decide +kernel
theorem dJ8_hugeLength_7cf53_55 : decode cJ8_hugeLength_7cf53 55 = .ok (.ldc 200, 2) := by decide +kernel
theorem dJ8_hugeLength_7cf53_57 : decode cJ8_hugeLength_7cf53 57 = .ok (.ireturn, 1) := by decide +kernel
theorem dJ8_hugeLength_7cf53_58 : decode cJ8_hugeLength_7cf53 58 = .ok (.iload_n 2, 1) := by decide +kernel
theorem dJ8_hugeLength_7cf53_59 : decode cJ8_hugeLength_7cf53 59 = .ok (.ireturn, 1) := by decide +kernel
set_option maxRecDepth 100000 in
set_option maxHeartbeats 4000000 in
theorem c_J8_hugeLength_7cf53 (l : Launch) (D : va_G) (t : Nat → ClassId) (G : GE) (κ : CS) (a0 : Int32) (a1 : Int32) (post : Int32 → CS → Prop) (hw : F_J8_hugeLength_7cf53 G a0 a1 post κ) (sz : Nat) : CMi l D t yJ8_hugeLength_7cf53 cJ8_hugeLength_7cf53 3 (some .int) 0 14 G κ sz [.int a0, .int a1] post := by
  refine c_go (by decide) (Nat.le_of_ble_eq_true rfl) ?_
  intro p e s m below meth c ls A hF hr hlk hin hAe hH hA hE hl
  unfold cB
  rw [hAe]
  clear hAe
  have hF : FX p m c cJ8_hugeLength_7cf53 3 s _ RJ8 D t := hF
  have hx := hF.1.1
  have hb := hF.1.2.1
  have hl : lv_has ls 3 [(0, .int a0), (1, .int a1)] := hl
  unfold F_J8_hugeLength_7cf53 at hw
  refine lv_iload_n hx hb dJ8_hugeLength_7cf53_0 rfl (lv_at hl 0 rfl) ?_
  refine lv_iload_n hx hb dJ8_hugeLength_7cf53_1 rfl (lv_at hl 1 rfl) ?_
  refine lv_iadd hx hb dJ8_hugeLength_7cf53_2 ?_
  refine w_nmi hw (fun z1 hw => ?_)
  refine lv_istore_n (lv' := [(2, .int z1), (0, .int a0), (1, .int a1)]) hx hb dJ8_hugeLength_7cf53_3 rfl hl (by decide) rfl (fun ls hl => ?_)
  refine lv_iload_n hx hb dJ8_hugeLength_7cf53_4 rfl (lv_at hl 0 rfl) ?_
  refine w_if_ge (tgt := 49) hF dJ8_hugeLength_7cf53_5 rfl hw (fun hw => ?_) (fun hw => ?_)
  · refine lv_iload_n hx hb dJ8_hugeLength_7cf53_49 rfl (lv_at hl 0 rfl) ?_
    refine lv_ldc (v := 2147483639) hx hb hF.1.2.2.2.1 (hF.1.2.2.2.2 _ (wc_19 24 rfl)) dJ8_hugeLength_7cf53_50 ?_
    refine w_icmp_gt (tgt := 58) hF dJ8_hugeLength_7cf53_52 rfl hw (fun hw => ?_) (fun hw => ?_)
    · refine lv_iload_n hx hb dJ8_hugeLength_7cf53_58 rfl (lv_at hl 0 rfl) ?_
      exact cw_reti hF hH ⟨rfl, rfl⟩ hr rfl hlk dJ8_hugeLength_7cf53_59 hw
    · refine lv_ldc (v := 2147483639) hx hb hF.1.2.2.2.1 (hF.1.2.2.2.2 _ (wc_19 24 rfl)) dJ8_hugeLength_7cf53_55 ?_
      exact cw_reti hF hH ⟨rfl, rfl⟩ hr rfl hlk dJ8_hugeLength_7cf53_57 hw
  · exact hw.elim
set_option maxRecDepth 100000 in
def F_J8_newLength_cabcc (G : GE) (a0 : Int32) (a1 : Int32) (a2 : Int32) (post : Int32 → CS → Prop) (κ : CS) : Prop := ∀ z2 : Int32, z2.toInt = max a1.toInt a2.toInt → ∀ z3 : Int32, z3 = a0 + z2 → jc (fun (K6 : Unit → CS → Prop) => ((z3.toInt ≤ (0 : Int32).toInt) → K6 () κ) ∧ (((0 : Int32).toInt < z3.toInt) → (((2147483639 : Int32).toInt < z3.toInt) → K6 () κ) ∧ ((z3.toInt ≤ (2147483639 : Int32).toInt) → post z3 κ))) (fun (x4 : Unit) (κ5 : CS) => F_J8_hugeLength_7cf53 G a0 a1 (fun (z10 : Int32) (κ9 : CS) => post z10 κ9) κ5)
theorem dJ8_newLength_cabcc_0 : decode cJ8_newLength_cabcc 0 = .ok (.iload_n 0, 1) := by decide +kernel
theorem dJ8_newLength_cabcc_1 : decode cJ8_newLength_cabcc 1 = .ok (.iload_n 1, 1) := by decide +kernel
theorem dJ8_newLength_cabcc_2 : decode cJ8_newLength_cabcc 2 = .ok (.iload_n 2, 1) := by decide +kernel
theorem dJ8_newLength_cabcc_3 : decode cJ8_newLength_cabcc 3 = .ok (.invokestatic 194, 3) := by decide +kernel
theorem dJ8_newLength_cabcc_6 : decode cJ8_newLength_cabcc 6 = .ok (.iadd, 1) := by decide +kernel
theorem dJ8_newLength_cabcc_7 : decode cJ8_newLength_cabcc 7 = .ok (.istore_n 3, 1) := by decide +kernel
theorem dJ8_newLength_cabcc_8 : decode cJ8_newLength_cabcc 8 = .ok (.iconst 0, 1) := by decide +kernel
theorem dJ8_newLength_cabcc_9 : decode cJ8_newLength_cabcc 9 = .ok (.iload_n 3, 1) := by decide +kernel
theorem dJ8_newLength_cabcc_10 : decode cJ8_newLength_cabcc 10 = .ok (.if_icmp .ge 11, 3) := by decide +kernel
theorem dJ8_newLength_cabcc_13 : decode cJ8_newLength_cabcc 13 = .ok (.iload_n 3, 1) := by decide +kernel
theorem dJ8_newLength_cabcc_14 : decode cJ8_newLength_cabcc 14 = .ok (.ldc 200, 2) := by decide +kernel
theorem dJ8_newLength_cabcc_16 : decode cJ8_newLength_cabcc 16 = .ok (.if_icmp .gt 5, 3) := by decide +kernel
theorem dJ8_newLength_cabcc_19 : decode cJ8_newLength_cabcc 19 = .ok (.iload_n 3, 1) := by decide +kernel
theorem dJ8_newLength_cabcc_20 : decode cJ8_newLength_cabcc 20 = .ok (.ireturn, 1) := by decide +kernel
theorem dJ8_newLength_cabcc_21 : decode cJ8_newLength_cabcc 21 = .ok (.iload_n 0, 1) := by decide +kernel
theorem dJ8_newLength_cabcc_22 : decode cJ8_newLength_cabcc 22 = .ok (.iload_n 1, 1) := by decide +kernel
theorem dJ8_newLength_cabcc_23 : decode cJ8_newLength_cabcc 23 = .ok (.invokestatic 201, 3) := by decide +kernel
theorem dJ8_newLength_cabcc_26 : decode cJ8_newLength_cabcc 26 = .ok (.ireturn, 1) := by decide +kernel
set_option maxRecDepth 100000 in
set_option maxHeartbeats 4000000 in
theorem c_J8_newLength_cabcc (l : Launch) (D : va_G) (t : Nat → ClassId) (G : GE) (κ : CS) (a0 : Int32) (a1 : Int32) (a2 : Int32) (post : Int32 → CS → Prop) (hw : F_J8_newLength_cabcc G a0 a1 a2 post κ) (sz : Nat) : CMi l D t yJ8_newLength_cabcc cJ8_newLength_cabcc 4 (some .int) 1 40 G κ sz [.int a0, .int a1, .int a2] post := by
  refine c_go (by decide) (Nat.le_of_ble_eq_true rfl) ?_
  intro p e s m below meth c ls A hF hr hlk hin hAe hH hA hE hl
  unfold cB
  rw [hAe]
  clear hAe
  have hF : FX p m c cJ8_newLength_cabcc 4 s _ RJ8 D t := hF
  have hx := hF.1.1
  have hb := hF.1.2.1
  have hl : lv_has ls 4 [(0, .int a0), (1, .int a1), (2, .int a2)] := hl
  unfold F_J8_newLength_cabcc at hw
  refine lv_iload_n hx hb dJ8_newLength_cabcc_0 rfl (lv_at hl 0 rfl) ?_
  refine lv_iload_n hx hb dJ8_newLength_cabcc_1 rfl (lv_at hl 1 rfl) ?_
  refine lv_iload_n hx hb dJ8_newLength_cabcc_2 rfl (lv_at hl 2 rfl) ?_
  refine cw_mmax hF hH hl.1 (wc_19 23 rfl) (wc_10 1 rfl) (wc_5 5 rfl) (wc_10 0 rfl) (Nat.le_of_ble_eq_true rfl) (Nat.le_of_ble_eq_true rfl) dJ8_newLength_cabcc_3 hw (fun z2 hw => ?_)
  refine lv_iadd hx hb dJ8_newLength_cabcc_6 ?_
  refine w_nmi hw (fun z3 hw => ?_)
  refine lv_istore_n (lv' := [(3, .int z3), (0, .int a0), (1, .int a1), (2, .int a2)]) hx hb dJ8_newLength_cabcc_7 rfl hl (by decide) rfl (fun ls hl => ?_)
  refine lv_iconst (v := 0) hx hb dJ8_newLength_cabcc_8 (by decide) ?_
  refine lv_iload_n hx hb dJ8_newLength_cabcc_9 rfl (lv_at hl 0 rfl) ?_
  obtain ⟨K6, hK7, hw⟩ := jc_open hw
  refine cw_join (K := K6) 21 (fun (x4 : Unit) => [(1, .int a1), (0, .int a0)]) (fun (x4 : Unit) => []) hl hH (fun x4 κ5 ls H locs cells slots hl hw hH => ?_) (fun jn8 => ?_)
  · have hw := hK7 x4 κ5 hw
    have hl : lv_has ls 4 [(1, .int a1), (0, .int a0)] := hl
    refine lv_iload_n hx hb dJ8_newLength_cabcc_21 rfl (lv_at hl 1 rfl) ?_
    refine lv_iload_n hx hb dJ8_newLength_cabcc_22 rfl (lv_at hl 0 rfl) ?_
    refine cw_cSi (As := [.int a0, .int a1]) (rest := []) hF hH hA hE ms_J8_201 (fun sz => c_J8_hugeLength_7cf53 l D t G _ a0 a1 _ hw sz) dJ8_newLength_cabcc_23 ⟨Nat.le_of_ble_eq_true rfl, Nat.le_of_ble_eq_true rfl⟩ rfl hl.1 (Nat.le_of_ble_eq_true rfl) rfl (fun z10 κ9 H locs cells slots hw hH => ?_)
    exact cw_reti hF hH ⟨rfl, rfl⟩ hr rfl hlk dJ8_newLength_cabcc_26 hw
  · skip
    refine w_icmp_ge (tgt := 21) hF dJ8_newLength_cabcc_10 rfl hw (fun hw => ?_) (fun hw => ?_)
    · have hl : lv_has ls 4 [(1, .int a1), (0, .int a0)] := lv_sub hl [2, 1] rfl
      exact jn8 () κ ls _ _ _ _ hl hw hH
    · refine lv_iload_n hx hb dJ8_newLength_cabcc_13 rfl (lv_at hl 0 rfl) ?_
      refine lv_ldc (v := 2147483639) hx hb hF.1.2.2.2.1 (hF.1.2.2.2.2 _ (wc_19 24 rfl)) dJ8_newLength_cabcc_14 ?_
      refine w_icmp_gt (tgt := 21) hF dJ8_newLength_cabcc_16 rfl hw (fun hw => ?_) (fun hw => ?_)
      · have hl : lv_has ls 4 [(1, .int a1), (0, .int a0)] := lv_sub hl [2, 1] rfl
        exact jn8 () κ ls _ _ _ _ hl hw hH
      · refine lv_iload_n hx hb dJ8_newLength_cabcc_19 rfl (lv_at hl 0 rfl) ?_
        exact cw_reti hF hH ⟨rfl, rfl⟩ hr rfl hlk dJ8_newLength_cabcc_20 hw
set_option maxRecDepth 100000 in
def F_J7_copyOf_6403c (G : GE) (a0 : Option Nat) (a1 : Int32) (a2 : Option Nat) (post : Option Nat → CS → Prop) (κ : CS) : Prop := jc (fun (K3 : (Option Nat) → CS → Prop) => ((¬ a2 = (some G.2.2.2.2.1)) → False) ∧ ((a2 = (some G.2.2.2.2.1)) → (0 ≤ a1.toInt ∧ a1.toInt ≤ 1000000) ∧ (a1.toInt.toNat + 12 ≤ κ.2) ∧ ∀ o11 : Nat, o11 ∉ sL κ.1 → ∀ κ12 : CS, κ12 = (h_uN κ.1 o11 27 a1.toInt.toNat, κ.2 - (a1.toInt.toNat + 12)) → K3 (some o11) κ12)) (fun (x1 : Option Nat) (κ2 : CS) => ∃ n : Nat, AL G κ2 a0 n ∧ ∀ z6 : Int32, z6 = nI n → ∀ z8 : Int32, z8.toInt = min z6.toInt a1.toInt → ∃ u0 : Nat, a0 = some u0 ∧ ∃ u1 : Nat, x1 = some u1 ∧ (u0 ∈ sL κ2.1 ∧ sK κ2.1 u0 = 27) ∧ (u1 ∈ sL κ2.1 ∧ sK κ2.1 u1 = 27) ∧ (0 ≤ (0 : Int32).toInt ∧ 0 ≤ (0 : Int32).toInt ∧ 0 ≤ z8.toInt ∧ (0 : Int32).toInt + z8.toInt ≤ (sN κ2.1 u0 : Int) ∧ (0 : Int32).toInt + z8.toInt ≤ (sN κ2.1 u1 : Int)) ∧ (∃ kb : Nat, (8 ≤ kb ∧ kb ≤ 12) ∧ ∀ j : Nat, j < z8.toInt.toNat → ∀ y : Nat, sP κ2.1 u0 ((0 : Int32).toInt.toNat + j) = some y → y ∈ sL κ2.1 ∧ sK κ2.1 y = kb) ∧ ∀ κ9 : CS, κ9 = (h_cpP κ2.1 u0 u1 (0 : Int32).toInt.toNat (0 : Int32).toInt.toNat z8.toInt.toNat, κ2.2) → post x1 κ9)
theorem dJ7_copyOf_6403c_0 : decode cJ7_copyOf_6403c 0 = .ok (.aload_n 2, 1) := by decide +kernel
theorem dJ7_copyOf_6403c_1 : decode cJ7_copyOf_6403c 1 = .ok (.ldc 110, 2) := by decide +kernel
theorem dJ7_copyOf_6403c_3 : decode cJ7_copyOf_6403c 3 = .ok (.if_acmp .ne 10, 3) := by decide +kernel
theorem dJ7_copyOf_6403c_6 : decode cJ7_copyOf_6403c 6 = .ok (.iload_n 1, 1) := by decide +kernel
theorem dJ7_copyOf_6403c_7 : decode cJ7_copyOf_6403c 7 = .ok (.anewarray 2, 3) := by decide +kernel
theorem dJ7_copyOf_6403c_10 : decode cJ7_copyOf_6403c 10 = .ok (.goto 14, 3) := by decide +kernel
theorem dJ7_copyOf_6403c_13 : decode cJ7_copyOf_6403c 13 = .ok (.aload_n 2, 1) := by decide +kernel
theorem dJ7_copyOf_6403c_14 : decode cJ7_copyOf_6403c 14 = .ok (.invokevirtual 90, 3) := by decide +kernel
theorem dJ7_copyOf_6403c_17 : decode cJ7_copyOf_6403c 17 = .ok (.iload_n 1, 1) := by decide +kernel
theorem dJ7_copyOf_6403c_18 : decode cJ7_copyOf_6403c 18 = .ok (.invokestatic 95, 3) := by decide +kernel
theorem dJ7_copyOf_6403c_21 : decode cJ7_copyOf_6403c 21 = .ok (.checkcast 110, 3) := by decide +kernel
theorem dJ7_copyOf_6403c_24 : decode cJ7_copyOf_6403c 24 = .ok (.astore_n 3, 1) := by decide +kernel
theorem dJ7_copyOf_6403c_25 : decode cJ7_copyOf_6403c 25 = .ok (.aload_n 0, 1) := by decide +kernel
theorem dJ7_copyOf_6403c_26 : decode cJ7_copyOf_6403c 26 = .ok (.iconst 0, 1) := by decide +kernel
theorem dJ7_copyOf_6403c_27 : decode cJ7_copyOf_6403c 27 = .ok (.aload_n 3, 1) := by decide +kernel
theorem dJ7_copyOf_6403c_28 : decode cJ7_copyOf_6403c 28 = .ok (.iconst 0, 1) := by decide +kernel
theorem dJ7_copyOf_6403c_29 : decode cJ7_copyOf_6403c 29 = .ok (.aload_n 0, 1) := by decide +kernel
theorem dJ7_copyOf_6403c_30 : decode cJ7_copyOf_6403c 30 = .ok (.arraylength, 1) := by decide +kernel
theorem dJ7_copyOf_6403c_31 : decode cJ7_copyOf_6403c 31 = .ok (.iload_n 1, 1) := by decide +kernel
theorem dJ7_copyOf_6403c_32 : decode cJ7_copyOf_6403c 32 = .ok (.invokestatic 304, 3) := by decide +kernel
theorem dJ7_copyOf_6403c_35 : decode cJ7_copyOf_6403c 35 = .ok (.invokestatic 150, 3) := by decide +kernel
theorem dJ7_copyOf_6403c_38 : decode cJ7_copyOf_6403c 38 = .ok (.aload_n 3, 1) := by decide +kernel
theorem dJ7_copyOf_6403c_39 : decode cJ7_copyOf_6403c 39 = .ok (.areturn, 1) := by decide +kernel
set_option maxRecDepth 100000 in
set_option maxHeartbeats 4000000 in
theorem c_J7_copyOf_6403c (l : Launch) (D : va_G) (t : Nat → ClassId) (G : GE) (κ : CS) (a0 : Option Nat) (a1 : Int32) (a2 : Option Nat) (post : Option Nat → CS → Prop) (hw : F_J7_copyOf_6403c G a0 a1 a2 post κ) (sz : Nat) : CMq l D t yJ7_copyOf_6403c cJ7_copyOf_6403c 4 (some (.array (.object "java/lang/Object"))) 1 40 G κ sz [va_rf a0, .int a1, va_rf a2] post := by
  refine c_go (by decide) (by cases a0 <;> cases a2 <;> exact Nat.le_of_ble_eq_true rfl) ?_
  intro p e s m below meth c ls A hF hr hlk hin hAe hH hA hE hl
  unfold cB
  rw [hAe]
  clear hAe
  have hF : FX p m c cJ7_copyOf_6403c 4 s _ RJ7 D t := hF
  have hx := hF.1.1
  have hb := hF.1.2.1
  have hl : lv_has ls 4 [(0, va_rf a0), (1, .int a1), (2, va_rf a2)] := (by have h2 := hl; clear hw; revert h2; cases a0 <;> cases a2 <;> exact id)
  unfold F_J7_copyOf_6403c at hw
  refine w_aloadq_n hF dJ7_copyOf_6403c_0 rfl (lv_at hl 2 rfl) ?_
  refine cw_ldcM hF hH hE (wc_19 19 rfl) dJ7_copyOf_6403c_1 ?_
  obtain ⟨K3, hK4, hw⟩ := jc_open hw
  refine cw_join (K := K3) 24 (fun (x1 : Option Nat) => [(1, .int a1), (0, va_rf a0)]) (fun (x1 : Option Nat) => [va_rf x1]) hl hH (fun x1 κ2 ls H locs cells slots hl hw hH => ?_) (fun jn5 => ?_)
  · have hw := hK4 x1 κ2 hw
    have hl : lv_has ls 4 [(1, .int a1), (0, va_rf a0)] := hl
    refine w_astoreq_n (lv' := [(3, va_rf x1), (1, .int a1), (0, va_rf a0)]) hF dJ7_copyOf_6403c_24 rfl hl (by decide) rfl (fun ls hl => ?_)
    refine w_aloadq_n hF dJ7_copyOf_6403c_25 rfl (lv_at hl 2 rfl) ?_
    refine lv_iconst (v := 0) hx hb dJ7_copyOf_6403c_26 (by decide) ?_
    refine w_aloadq_n hF dJ7_copyOf_6403c_27 rfl (lv_at hl 0 rfl) ?_
    refine lv_iconst (v := 0) hx hb dJ7_copyOf_6403c_28 (by decide) ?_
    refine w_aloadq_n hF dJ7_copyOf_6403c_29 rfl (lv_at hl 2 rfl) ?_
    refine cw_alen (q := a0) hF hH hE dJ7_copyOf_6403c_30 hw (fun z6 hw => ?_)
    refine lv_iload_n hx hb dJ7_copyOf_6403c_31 rfl (lv_at hl 1 rfl) ?_
    refine cw_mmin hF hH hl.1 (wc_13 17 rfl) (wc_10 25 rfl) (wc_5 5 rfl) (wc_10 24 rfl) (Nat.le_of_ble_eq_true rfl) (by simp only [List.map_cons, List.map_nil, cat_rf]; exact Nat.le_of_ble_eq_true rfl) dJ7_copyOf_6403c_32 hw (fun z8 hw => ?_)
    refine cw_copyQ (q0 := a0) (q1 := x1) hF hH (wc_13 18 rfl) (wc_10 14 rfl) (wc_10 15 rfl) (wc_5 17 rfl) (Nat.le_of_ble_eq_true rfl) (Nat.le_of_ble_eq_true rfl) hl.1 dJ7_copyOf_6403c_35 hw (fun κ9 H locs cells slots hw hH => ?_)
    refine w_aloadq_n hF dJ7_copyOf_6403c_38 rfl (lv_at hl 0 rfl) ?_
    exact cw_retq (v := x1) hF hH ⟨rfl, rfl⟩ hr (by first | exact Or.inl ⟨_, rfl⟩ | exact Or.inr ⟨_, rfl⟩) hlk dJ7_copyOf_6403c_39 hw
  · skip
    refine cw_acmp_ne (rx := a2) (ry := (some G.2.2.2.2.1)) (tgt := 13) hF dJ7_copyOf_6403c_3 rfl hw (fun hw => ?_) (fun hw => ?_)
    · refine w_aloadq_n hF dJ7_copyOf_6403c_13 rfl (lv_at hl 2 rfl) ?_
      exact hw.elim
    · refine lv_iload_n hx hb dJ7_copyOf_6403c_6 rfl (lv_at hl 1 rfl) ?_
      refine cw_anew 27 (by decide) hF hH hA (wc_19 18 rfl) (by decide) rfl dJ7_copyOf_6403c_7 hw (fun o11 κ12 H locs cells slots hw hH => ?_)
      refine lv_goto (tgt := 24) hx hb dJ7_copyOf_6403c_10 rfl ?_
      have hl : lv_has ls 4 [(1, .int a1), (0, va_rf a0)] := lv_sub hl [1, 0] rfl
      exact jn5 (some o11) κ12 ls _ _ _ _ hl hw hH
set_option maxRecDepth 100000 in
def F_J7_copyOf_1904c (G : GE) (a0 : Option Nat) (a1 : Int32) (post : Option Nat → CS → Prop) (κ : CS) : Prop := ∃ b : Nat, a0 = some b ∧ (b ∈ sL κ.1 ∧ sK κ.1 b = 27) ∧ F_J7_copyOf_6403c G a0 a1 (some G.2.2.2.2.1) (fun (z3 : Option Nat) (κ2 : CS) => post z3 κ2) κ
theorem dJ7_copyOf_1904c_0 : decode cJ7_copyOf_1904c 0 = .ok (.aload_n 0, 1) := by decide +kernel
theorem dJ7_copyOf_1904c_1 : decode cJ7_copyOf_1904c 1 = .ok (.iload_n 1, 1) := by decide +kernel
theorem dJ7_copyOf_1904c_2 : decode cJ7_copyOf_1904c 2 = .ok (.aload_n 0, 1) := by decide +kernel
theorem dJ7_copyOf_1904c_3 : decode cJ7_copyOf_1904c 3 = .ok (.invokevirtual 86, 3) := by decide +kernel
theorem dJ7_copyOf_1904c_6 : decode cJ7_copyOf_1904c 6 = .ok (.invokestatic 300, 3) := by decide +kernel
theorem dJ7_copyOf_1904c_9 : decode cJ7_copyOf_1904c 9 = .ok (.areturn, 1) := by decide +kernel
set_option maxRecDepth 100000 in
set_option maxHeartbeats 4000000 in
theorem c_J7_copyOf_1904c (l : Launch) (D : va_G) (t : Nat → ClassId) (G : GE) (κ : CS) (a0 : Option Nat) (a1 : Int32) (post : Option Nat → CS → Prop) (hw : F_J7_copyOf_1904c G a0 a1 post κ) (sz : Nat) : CMq l D t yJ7_copyOf_1904c cJ7_copyOf_1904c 2 (some (.array (.object "java/lang/Object"))) 2 63 G κ sz [va_rf a0, .int a1] post := by
  refine c_go (by decide) (by cases a0 <;> exact Nat.le_of_ble_eq_true rfl) ?_
  intro p e s m below meth c ls A hF hr hlk hin hAe hH hA hE hl
  unfold cB
  rw [hAe]
  clear hAe
  have hF : FX p m c cJ7_copyOf_1904c 2 s _ RJ7 D t := hF
  have hx := hF.1.1
  have hb := hF.1.2.1
  have hl : lv_has ls 2 [(0, va_rf a0), (1, .int a1)] := (by have h2 := hl; clear hw; revert h2; cases a0 <;> exact id)
  unfold F_J7_copyOf_1904c at hw
  refine w_aloadq_n hF dJ7_copyOf_1904c_0 rfl (lv_at hl 0 rfl) ?_
  refine lv_iload_n hx hb dJ7_copyOf_1904c_1 rfl (lv_at hl 1 rfl) ?_
  refine w_aloadq_n hF dJ7_copyOf_1904c_2 rfl (lv_at hl 0 rfl) ?_
  refine cw_getC (q := a0) hF hH hE hl.1 (wc_19 14 rfl) (Nat.le_of_ble_eq_true rfl) (by simp only [List.map_cons, List.map_nil, cat_rf]; exact Nat.le_of_ble_eq_true rfl) dJ7_copyOf_1904c_3 hw (fun hw => ?_)
  refine cw_cSq (As := [va_rf a0, .int a1, .ref G.2.2.2.2.1]) (rest := []) hF hH hA hE ms_J7_300 (fun sz => c_J7_copyOf_6403c l D t G _ a0 a1 (some G.2.2.2.2.1) _ hw sz) dJ7_copyOf_1904c_6 ⟨Nat.le_of_ble_eq_true rfl, Nat.le_of_ble_eq_true rfl⟩ rfl hl.1 (Nat.le_of_ble_eq_true rfl) rfl (fun z3 κ2 H locs cells slots hw hH => ?_)
  exact cw_retq (v := z3) hF hH ⟨rfl, rfl⟩ hr (by first | exact Or.inl ⟨_, rfl⟩ | exact Or.inr ⟨_, rfl⟩) hlk dJ7_copyOf_1904c_9 hw
set_option maxRecDepth 100000 in
def F_Jx4a65c_grow_92f84 (G : GE) (h : Nat) (a1 : Int32) (post : Option Nat → CS → Prop) (κ : CS) : Prop := (h ∈ sL κ.1 ∧ sK κ.1 h = 7) ∧ ∀ z1 : Option Nat, z1 = sP κ.1 h 1 → ∃ n : Nat, AL G κ z1 n ∧ ∀ z2 : Int32, z2 = nI n → jc (fun (K5 : Unit → CS → Prop) => ((0 < z2.toInt) → K5 () κ) ∧ ((z2.toInt ≤ 0) → (h ∈ sL κ.1 ∧ sK κ.1 h = 7) ∧ ∀ z16 : Option Nat, z16 = sP κ.1 h 1 → ((z16 = (some G.1)) → ∀ z18 : Int32, z18.toInt = max ((10 : Int32).toInt) a1.toInt → (0 ≤ z18.toInt ∧ z18.toInt ≤ 1000000) ∧ (z18.toInt.toNat + 12 ≤ κ.2) ∧ ∀ o19 : Nat, o19 ∉ sL κ.1 → ∀ κ20 : CS, κ20 = (h_uN κ.1 o19 27 z18.toInt.toNat, κ.2 - (z18.toInt.toNat + 12)) → (h ∈ sL κ20.1 ∧ sK κ20.1 h = 7) ∧ ∀ κ21 : CS, κ21 = (h_uP κ20.1 h 1 (some o19), κ20.2) → post (some o19) κ21) ∧ ((¬ z16 = (some G.1)) → K5 () κ))) (fun (x3 : Unit) (κ4 : CS) => ∀ z8 : Int32, z8 = a1 - z2 → ∀ z9 : Int32, z9 = z2 >>> (1 &&& 31) → F_J8_newLength_cabcc G z2 z8 z9 (fun (z11 : Int32) (κ10 : CS) => (h ∈ sL κ10.1 ∧ sK κ10.1 h = 7) ∧ ∀ z12 : Option Nat, z12 = sP κ10.1 h 1 → F_J7_copyOf_1904c G z12 z11 (fun (z14 : Option Nat) (κ13 : CS) => (h ∈ sL κ13.1 ∧ sK κ13.1 h = 7) ∧ ∀ κ15 : CS, κ15 = (h_uP κ13.1 h 1 z14, κ13.2) → post z14 κ15) κ10) κ4)
theorem dJx4a65c_grow_92f84_0 : decode cJx4a65c_grow_92f84 0 = .ok (.aload_n 0, 1) := by decide +kernel
theorem dJx4a65c_grow_92f84_1 : decode cJx4a65c_grow_92f84 1 = .ok (.getfield 9, 3) := by decide +kernel
theorem dJx4a65c_grow_92f84_4 : decode cJx4a65c_grow_92f84 4 = .ok (.arraylength, 1) := by decide +kernel
theorem dJx4a65c_grow_92f84_5 : decode cJx4a65c_grow_92f84 5 = .ok (.istore_n 2, 1) := by decide +kernel
theorem dJx4a65c_grow_92f84_6 : decode cJx4a65c_grow_92f84 6 = .ok (.iload_n 2, 1) := by decide +kernel
theorem dJx4a65c_grow_92f84_7 : decode cJx4a65c_grow_92f84 7 = .ok (.ifCond .gt 13, 3) := by decide +kernel
theorem dJx4a65c_grow_92f84_10 : decode cJx4a65c_grow_92f84 10 = .ok (.aload_n 0, 1) := by decide +kernel
theorem dJx4a65c_grow_92f84_11 : decode cJx4a65c_grow_92f84 11 = .ok (.getfield 9, 3) := by decide +kernel
theorem dJx4a65c_grow_92f84_14 : decode cJx4a65c_grow_92f84 14 = .ok (.getstatic 39, 3) := by decide +kernel
theorem dJx4a65c_grow_92f84_17 : decode cJx4a65c_grow_92f84 17 = .ok (.if_acmp .eq 28, 3) := by decide +kernel
theorem dJx4a65c_grow_92f84_20 : decode cJx4a65c_grow_92f84 20 = .ok (.iload_n 2, 1) := by decide +kernel
theorem dJx4a65c_grow_92f84_21 : decode cJx4a65c_grow_92f84 21 = .ok (.iload_n 1, 1) := by decide +kernel
theorem dJx4a65c_grow_92f84_22 : decode cJx4a65c_grow_92f84 22 = .ok (.iload_n 2, 1) := by decide +kernel
theorem dJx4a65c_grow_92f84_23 : decode cJx4a65c_grow_92f84 23 = .ok (.isub, 1) := by decide +kernel
theorem dJx4a65c_grow_92f84_24 : decode cJx4a65c_grow_92f84 24 = .ok (.iload_n 2, 1) := by decide +kernel
theorem dJx4a65c_grow_92f84_25 : decode cJx4a65c_grow_92f84 25 = .ok (.iconst 1, 1) := by decide +kernel
theorem dJx4a65c_grow_92f84_26 : decode cJx4a65c_grow_92f84 26 = .ok (.ishr, 1) := by decide +kernel
theorem dJx4a65c_grow_92f84_27 : decode cJx4a65c_grow_92f84 27 = .ok (.invokestatic 73, 3) := by decide +kernel
theorem dJx4a65c_grow_92f84_30 : decode cJx4a65c_grow_92f84 30 = .ok (.istore_n 3, 1) := by decide +kernel
theorem dJx4a65c_grow_92f84_31 : decode cJx4a65c_grow_92f84 31 = .ok (.aload_n 0, 1) := by decide +kernel
theorem dJx4a65c_grow_92f84_32 : decode cJx4a65c_grow_92f84 32 = .ok (.aload_n 0, 1) := by decide +kernel
theorem dJx4a65c_grow_92f84_33 : decode cJx4a65c_grow_92f84 33 = .ok (.getfield 9, 3) := by decide +kernel
theorem dJx4a65c_grow_92f84_36 : decode cJx4a65c_grow_92f84 36 = .ok (.iload_n 3, 1) := by decide +kernel
theorem dJx4a65c_grow_92f84_37 : decode cJx4a65c_grow_92f84 37 = .ok (.invokestatic 66, 3) := by decide +kernel
theorem dJx4a65c_grow_92f84_40 : decode cJx4a65c_grow_92f84 40 = .ok (.dup_x1, 1) := by decide +kernel
theorem dJx4a65c_grow_92f84_41 : decode cJx4a65c_grow_92f84 41 = .ok (.putfield 9, 3) := by decide +kernel
theorem dJx4a65c_grow_92f84_44 : decode cJx4a65c_grow_92f84 44 = .ok (.areturn, 1) := by decide +kernel
theorem dJx4a65c_grow_92f84_45 : decode cJx4a65c_grow_92f84 45 = .ok (.aload_n 0, 1) := by decide +kernel
theorem dJx4a65c_grow_92f84_46 : decode cJx4a65c_grow_92f84 46 = .ok (.bipush 10, 2) := by decide +kernel
theorem dJx4a65c_grow_92f84_48 : decode cJx4a65c_grow_92f84 48 = .ok (.iload_n 1, 1) := by decide +kernel
theorem dJx4a65c_grow_92f84_49 : decode cJx4a65c_grow_92f84 49 = .ok (.invokestatic 79, 3) := by decide +kernel
theorem dJx4a65c_grow_92f84_52 : decode cJx4a65c_grow_92f84 52 = .ok (.anewarray 7, 3) := by decide +kernel
theorem dJx4a65c_grow_92f84_55 : decode cJx4a65c_grow_92f84 55 = .ok (.dup_x1, 1) := by decide +kernel
theorem dJx4a65c_grow_92f84_56 : decode cJx4a65c_grow_92f84 56 = .ok (.putfield 9, 3) := by decide +kernel
theorem dJx4a65c_grow_92f84_59 : decode cJx4a65c_grow_92f84 59 = .ok (.areturn, 1) := by decide +kernel
set_option maxRecDepth 100000 in
set_option maxHeartbeats 4000000 in
theorem c_Jx4a65c_grow_92f84 (l : Launch) (D : va_G) (t : Nat → ClassId) (G : GE) (κ : CS) (h : Nat) (a1 : Int32) (post : Option Nat → CS → Prop) (hw : F_Jx4a65c_grow_92f84 G h a1 post κ) (sz : Nat) : CMq l D t yJx4a65c_grow_92f84 cJx4a65c_grow_92f84 4 (some (.array (.object "java/lang/Object"))) 3 84 G κ sz [.ref h, .int a1] post := by
  refine c_go (by decide) (Nat.le_of_ble_eq_true rfl) ?_
  intro p e s m below meth c ls A hF hr hlk hin hAe hH hA hE hl
  unfold cB
  rw [hAe]
  clear hAe
  have hF : FX p m c cJx4a65c_grow_92f84 4 s _ RJx4a65c D t := hF
  have hx := hF.1.1
  have hb := hF.1.2.1
  have hl : lv_has ls 4 [(0, .ref h), (1, .int a1)] := hl
  unfold F_Jx4a65c_grow_92f84 at hw
  refine lv_aload_n hx hb dJx4a65c_grow_92f84_0 rfl (lv_at hl 0 rfl) ?_
  refine cw_getPr (a := h) hF hH fk_Jx4a65c_9 dJx4a65c_grow_92f84_1 hw (fun z1 hw => ?_)
  refine cw_alen (q := z1) hF hH hE dJx4a65c_grow_92f84_4 hw (fun z2 hw => ?_)
  refine lv_istore_n (lv' := [(2, .int z2), (0, .ref h), (1, .int a1)]) hx hb dJx4a65c_grow_92f84_5 rfl hl (by decide) rfl (fun ls hl => ?_)
  refine lv_iload_n hx hb dJx4a65c_grow_92f84_6 rfl (lv_at hl 0 rfl) ?_
  obtain ⟨K5, hK6, hw⟩ := jc_open hw
  refine cw_join (K := K5) 20 (fun (x3 : Unit) => [(2, .int z2), (1, .int a1), (0, .ref h)]) (fun (x3 : Unit) => []) hl hH (fun x3 κ4 ls H locs cells slots hl hw hH => ?_) (fun jn7 => ?_)
  · have hw := hK6 x3 κ4 hw
    have hl : lv_has ls 4 [(2, .int z2), (1, .int a1), (0, .ref h)] := hl
    refine lv_iload_n hx hb dJx4a65c_grow_92f84_20 rfl (lv_at hl 0 rfl) ?_
    refine lv_iload_n hx hb dJx4a65c_grow_92f84_21 rfl (lv_at hl 1 rfl) ?_
    refine lv_iload_n hx hb dJx4a65c_grow_92f84_22 rfl (lv_at hl 0 rfl) ?_
    refine lv_isub hx hb dJx4a65c_grow_92f84_23 ?_
    refine w_nmi hw (fun z8 hw => ?_)
    refine lv_iload_n hx hb dJx4a65c_grow_92f84_24 rfl (lv_at hl 0 rfl) ?_
    refine lv_iconst (v := 1) hx hb dJx4a65c_grow_92f84_25 (by decide) ?_
    refine lv_ishr hx hb dJx4a65c_grow_92f84_26 ?_
    refine w_nmi hw (fun z9 hw => ?_)
    refine cw_cSi (As := [.int z2, .int z8, .int z9]) (rest := []) hF hH hA hE ms_Jx4a65c_73 (fun sz => c_J8_newLength_cabcc l D t G _ z2 z8 z9 _ hw sz) dJx4a65c_grow_92f84_27 ⟨Nat.le_of_ble_eq_true rfl, Nat.le_of_ble_eq_true rfl⟩ rfl hl.1 (Nat.le_of_ble_eq_true rfl) rfl (fun z11 κ10 H locs cells slots hw hH => ?_)
    refine lv_istore_n (lv' := [(3, .int z11), (2, .int z2), (1, .int a1), (0, .ref h)]) hx hb dJx4a65c_grow_92f84_30 rfl hl (by decide) rfl (fun ls hl => ?_)
    refine lv_aload_n hx hb dJx4a65c_grow_92f84_31 rfl (lv_at hl 3 rfl) ?_
    refine lv_aload_n hx hb dJx4a65c_grow_92f84_32 rfl (lv_at hl 3 rfl) ?_
    refine cw_getPr (a := h) hF hH fk_Jx4a65c_9 dJx4a65c_grow_92f84_33 hw (fun z12 hw => ?_)
    refine lv_iload_n hx hb dJx4a65c_grow_92f84_36 rfl (lv_at hl 0 rfl) ?_
    refine cw_cSq (As := [va_rf z12, .int z11]) (rest := [.ref h]) hF hH hA hE ms_Jx4a65c_66 (fun sz => c_J7_copyOf_1904c l D t G _ z12 z11 _ hw sz) dJx4a65c_grow_92f84_37 ⟨Nat.le_of_ble_eq_true rfl, Nat.le_of_ble_eq_true rfl⟩ rfl hl.1 (Nat.le_of_ble_eq_true rfl) rfl (fun z14 κ13 H locs cells slots hw hH => ?_)
    refine lv_dup_x1 hx hb dJx4a65c_grow_92f84_40 (cat_rf _) rfl ?_
    refine cw_putPr (a := h) (v := z14) hF hH fk_Jx4a65c_9 dJx4a65c_grow_92f84_41 rfl rfl hw (fun κ15 H locs cells slots hw hH => ?_)
    exact cw_retq (v := z14) hF hH ⟨rfl, rfl⟩ hr (by first | exact Or.inl ⟨_, rfl⟩ | exact Or.inr ⟨_, rfl⟩) hlk dJx4a65c_grow_92f84_44 hw
  · skip
    refine w_if_gt (tgt := 20) hF dJx4a65c_grow_92f84_7 rfl hw (fun hw => ?_) (fun hw => ?_)
    · have hl : lv_has ls 4 [(2, .int z2), (1, .int a1), (0, .ref h)] := lv_sub hl [0, 2, 1] rfl
      exact jn7 () κ ls _ _ _ _ hl hw hH
    · refine lv_aload_n hx hb dJx4a65c_grow_92f84_10 rfl (lv_at hl 1 rfl) ?_
      refine cw_getPr (a := h) hF hH fk_Jx4a65c_9 dJx4a65c_grow_92f84_11 hw (fun z16 hw => ?_)
      refine cw_getsE hF hH hE (wc_8 31 rfl) dJx4a65c_grow_92f84_14 ?_
      refine cw_acmp_eq (rx := z16) (ry := (some G.1)) (tgt := 45) hF dJx4a65c_grow_92f84_17 rfl hw (fun hw => ?_) (fun hw => ?_)
      · refine lv_aload_n hx hb dJx4a65c_grow_92f84_45 rfl (lv_at hl 1 rfl) ?_
        refine lv_bipush (v := 10) hx hb dJx4a65c_grow_92f84_46 (by decide) ?_
        refine lv_iload_n hx hb dJx4a65c_grow_92f84_48 rfl (lv_at hl 2 rfl) ?_
        refine cw_mmax hF hH hl.1 (wc_18 32 rfl) (wc_10 1 rfl) (wc_5 5 rfl) (wc_10 0 rfl) (Nat.le_of_ble_eq_true rfl) (Nat.le_of_ble_eq_true rfl) dJx4a65c_grow_92f84_49 hw (fun z18 hw => ?_)
        refine cw_anew 27 (by decide) hF hH hA (wc_18 33 rfl) (by decide) rfl dJx4a65c_grow_92f84_52 hw (fun o19 κ20 H locs cells slots hw hH => ?_)
        refine lv_dup_x1 hx hb dJx4a65c_grow_92f84_55 rfl rfl ?_
        refine cw_putPr (a := h) (v := (some o19)) hF hH fk_Jx4a65c_9 dJx4a65c_grow_92f84_56 rfl rfl hw (fun κ21 H locs cells slots hw hH => ?_)
        exact cw_retq (v := (some o19)) hF hH ⟨rfl, rfl⟩ hr (by first | exact Or.inl ⟨_, rfl⟩ | exact Or.inr ⟨_, rfl⟩) hlk dJx4a65c_grow_92f84_59 hw
      · have hl : lv_has ls 4 [(2, .int z2), (1, .int a1), (0, .ref h)] := lv_sub hl [0, 2, 1] rfl
        exact jn7 () κ ls _ _ _ _ hl hw hH
set_option maxRecDepth 100000 in
def F_Jx4a65c_grow_d5877 (G : GE) (h : Nat) (post : Option Nat → CS → Prop) (κ : CS) : Prop := (h ∈ sL κ.1 ∧ sK κ.1 h = 7) ∧ ∀ z1 : Int32, z1 = sI κ.1 h 2 → ∀ z2 : Int32, z2 = z1 + 1 → (h ∈ sL κ.1 ∧ sK κ.1 h = 7) ∧ F_Jx4a65c_grow_92f84 G h z2 (fun (z4 : Option Nat) (κ3 : CS) => post z4 κ3) κ
theorem dJx4a65c_grow_d5877_0 : decode cJx4a65c_grow_d5877 0 = .ok (.aload_n 0, 1) := by decide +kernel
theorem dJx4a65c_grow_d5877_1 : decode cJx4a65c_grow_d5877 1 = .ok (.aload_n 0, 1) := by decide +kernel
theorem dJx4a65c_grow_d5877_2 : decode cJx4a65c_grow_d5877 2 = .ok (.getfield 48, 3) := by decide +kernel
theorem dJx4a65c_grow_d5877_5 : decode cJx4a65c_grow_d5877 5 = .ok (.iconst 1, 1) := by decide +kernel
theorem dJx4a65c_grow_d5877_6 : decode cJx4a65c_grow_d5877 6 = .ok (.iadd, 1) := by decide +kernel
theorem dJx4a65c_grow_d5877_7 : decode cJx4a65c_grow_d5877 7 = .ok (.invokevirtual 69, 3) := by decide +kernel
theorem dJx4a65c_grow_d5877_10 : decode cJx4a65c_grow_d5877 10 = .ok (.areturn, 1) := by decide +kernel
set_option maxRecDepth 100000 in
set_option maxHeartbeats 4000000 in
theorem c_Jx4a65c_grow_d5877 (l : Launch) (D : va_G) (t : Nat → ClassId) (G : GE) (κ : CS) (h : Nat) (post : Option Nat → CS → Prop) (hw : F_Jx4a65c_grow_d5877 G h post κ) (sz : Nat) : CMq l D t yJx4a65c_grow_d5877 cJx4a65c_grow_d5877 1 (some (.array (.object "java/lang/Object"))) 4 107 G κ sz [.ref h] post := by
  refine c_go (by decide) (Nat.le_of_ble_eq_true rfl) ?_
  intro p e s m below meth c ls A hF hr hlk hin hAe hH hA hE hl
  unfold cB
  rw [hAe]
  clear hAe
  have hF : FX p m c cJx4a65c_grow_d5877 1 s _ RJx4a65c D t := hF
  have hx := hF.1.1
  have hb := hF.1.2.1
  have hl : lv_has ls 1 [(0, .ref h)] := hl
  unfold F_Jx4a65c_grow_d5877 at hw
  refine lv_aload_n hx hb dJx4a65c_grow_d5877_0 rfl (lv_at hl 0 rfl) ?_
  refine lv_aload_n hx hb dJx4a65c_grow_d5877_1 rfl (lv_at hl 0 rfl) ?_
  refine cw_getIr (a := h) hF hH fk_Jx4a65c_48 dJx4a65c_grow_d5877_2 hw (fun z1 hw => ?_)
  refine lv_iconst (v := 1) hx hb dJx4a65c_grow_d5877_5 (by decide) ?_
  refine lv_iadd hx hb dJx4a65c_grow_d5877_6 ?_
  refine w_nmi hw (fun z2 hw => ?_)
  refine cw_cVq (b := h) (As := [.int z2]) (rest := []) hF hH hA hE mv_Jx4a65c_69 ci_Jx4a65c (by decide) (fun sz => c_Jx4a65c_grow_92f84 l D t G _ h z2 _ hw.2 sz) dJx4a65c_grow_d5877_7 hw.1 ⟨Nat.le_of_ble_eq_true rfl, Nat.le_of_ble_eq_true rfl⟩ rfl hl.1 (Nat.le_of_ble_eq_true rfl) rfl (fun z4 κ3 H locs cells slots hw hH => ?_)
  exact cw_retq (v := z4) hF hH ⟨rfl, rfl⟩ hr (by first | exact Or.inl ⟨_, rfl⟩ | exact Or.inr ⟨_, rfl⟩) hlk dJx4a65c_grow_d5877_10 hw
set_option maxRecDepth 100000 in
def F_Jx4a65c_add_72be8 (G : GE) (h : Nat) (a1 : Option Nat) (a2 : Option Nat) (a3 : Int32) (post : CS → Prop) (κ : CS) : Prop := ∃ n : Nat, AL G κ a2 n ∧ ∀ z1 : Int32, z1 = nI n → jc (fun (K4 : (Option Nat) → CS → Prop) => ((¬ a3.toInt = z1.toInt) → K4 a2 κ) ∧ ((a3.toInt = z1.toInt) → (h ∈ sL κ.1 ∧ sK κ.1 h = 7) ∧ F_Jx4a65c_grow_d5877 G h  (fun (z11 : Option Nat) (κ10 : CS) => K4 z11 κ10) κ)) (fun (x2 : Option Nat) (κ3 : CS) => ∃ b : Nat, x2 = some b ∧ (b ∈ sL κ3.1 ∧ 24 ≤ sK κ3.1 b ∧ sK κ3.1 b < 28) ∧ (0 ≤ a3.toInt ∧ a3.toInt < (sN κ3.1 b : Int)) ∧ (a1 = none ∨ ∃ e : Nat, a1 = some e ∧ e ∈ sL κ3.1 ∧ stOk (sK κ3.1 b) (sK κ3.1 e) = true) ∧ ∀ κ7 : CS, κ7 = (h_uP κ3.1 b a3.toInt.toNat a1, κ3.2) → ∀ z8 : Int32, z8 = a3 + 1 → (h ∈ sL κ7.1 ∧ sK κ7.1 h = 7) ∧ ∀ κ9 : CS, κ9 = (h_uI κ7.1 h 2 z8, κ7.2) → post κ9)
theorem dJx4a65c_add_72be8_0 : decode cJx4a65c_add_72be8 0 = .ok (.iload_n 3, 1) := by decide +kernel
theorem dJx4a65c_add_72be8_1 : decode cJx4a65c_add_72be8 1 = .ok (.aload_n 2, 1) := by decide +kernel
theorem dJx4a65c_add_72be8_2 : decode cJx4a65c_add_72be8 2 = .ok (.arraylength, 1) := by decide +kernel
theorem dJx4a65c_add_72be8_3 : decode cJx4a65c_add_72be8 3 = .ok (.if_icmp .ne 8, 3) := by decide +kernel
theorem dJx4a65c_add_72be8_6 : decode cJx4a65c_add_72be8 6 = .ok (.aload_n 0, 1) := by decide +kernel
theorem dJx4a65c_add_72be8_7 : decode cJx4a65c_add_72be8 7 = .ok (.invokevirtual 129, 3) := by decide +kernel
theorem dJx4a65c_add_72be8_10 : decode cJx4a65c_add_72be8 10 = .ok (.astore_n 2, 1) := by decide +kernel
theorem dJx4a65c_add_72be8_11 : decode cJx4a65c_add_72be8 11 = .ok (.aload_n 2, 1) := by decide +kernel
theorem dJx4a65c_add_72be8_12 : decode cJx4a65c_add_72be8 12 = .ok (.iload_n 3, 1) := by decide +kernel
theorem dJx4a65c_add_72be8_13 : decode cJx4a65c_add_72be8 13 = .ok (.aload_n 1, 1) := by decide +kernel
theorem dJx4a65c_add_72be8_14 : decode cJx4a65c_add_72be8 14 = .ok (.aastore, 1) := by decide +kernel
theorem dJx4a65c_add_72be8_15 : decode cJx4a65c_add_72be8 15 = .ok (.aload_n 0, 1) := by decide +kernel
theorem dJx4a65c_add_72be8_16 : decode cJx4a65c_add_72be8 16 = .ok (.iload_n 3, 1) := by decide +kernel
theorem dJx4a65c_add_72be8_17 : decode cJx4a65c_add_72be8 17 = .ok (.iconst 1, 1) := by decide +kernel
theorem dJx4a65c_add_72be8_18 : decode cJx4a65c_add_72be8 18 = .ok (.iadd, 1) := by decide +kernel
theorem dJx4a65c_add_72be8_19 : decode cJx4a65c_add_72be8 19 = .ok (.putfield 48, 3) := by decide +kernel
theorem dJx4a65c_add_72be8_22 : decode cJx4a65c_add_72be8 22 = .ok (.return_, 1) := by decide +kernel
set_option maxRecDepth 100000 in
set_option maxHeartbeats 4000000 in
theorem c_Jx4a65c_add_72be8 (l : Launch) (D : va_G) (t : Nat → ClassId) (G : GE) (κ : CS) (h : Nat) (a1 : Option Nat) (a2 : Option Nat) (a3 : Int32) (post : CS → Prop) (hw : F_Jx4a65c_add_72be8 G h a1 a2 a3 post κ) (sz : Nat) : CMv l D t yJx4a65c_add_72be8 cJx4a65c_add_72be8 4 5 127 G κ sz [.ref h, va_rf a1, va_rf a2, .int a3] post := by
  refine c_go (by decide) (by cases a1 <;> cases a2 <;> exact Nat.le_of_ble_eq_true rfl) ?_
  intro p e s m below meth c ls A hF hr hlk hin hAe hH hA hE hl
  unfold cB
  rw [hAe]
  clear hAe
  have hF : FX p m c cJx4a65c_add_72be8 4 s _ RJx4a65c D t := hF
  have hx := hF.1.1
  have hb := hF.1.2.1
  have hl : lv_has ls 4 [(0, .ref h), (1, va_rf a1), (2, va_rf a2), (3, .int a3)] := (by have h2 := hl; clear hw; revert h2; cases a1 <;> cases a2 <;> exact id)
  unfold F_Jx4a65c_add_72be8 at hw
  refine lv_iload_n hx hb dJx4a65c_add_72be8_0 rfl (lv_at hl 3 rfl) ?_
  refine w_aloadq_n hF dJx4a65c_add_72be8_1 rfl (lv_at hl 2 rfl) ?_
  refine cw_alen (q := a2) hF hH hE dJx4a65c_add_72be8_2 hw (fun z1 hw => ?_)
  obtain ⟨K4, hK5, hw⟩ := jc_open hw
  refine cw_join (K := K4) 11 (fun (x2 : Option Nat) => [(3, .int a3), (2, va_rf x2), (1, va_rf a1), (0, .ref h)]) (fun (x2 : Option Nat) => []) hl hH (fun x2 κ3 ls H locs cells slots hl hw hH => ?_) (fun jn6 => ?_)
  · have hw := hK5 x2 κ3 hw
    have hl : lv_has ls 4 [(3, .int a3), (2, va_rf x2), (1, va_rf a1), (0, .ref h)] := hl
    refine w_aloadq_n hF dJx4a65c_add_72be8_11 rfl (lv_at hl 1 rfl) ?_
    refine lv_iload_n hx hb dJx4a65c_add_72be8_12 rfl (lv_at hl 0 rfl) ?_
    refine w_aloadq_n hF dJx4a65c_add_72be8_13 rfl (lv_at hl 2 rfl) ?_
    refine cw_aast (q := x2) (v := a1) hF hH dJx4a65c_add_72be8_14 hw (fun κ7 H locs cells slots hw hH => ?_)
    refine lv_aload_n hx hb dJx4a65c_add_72be8_15 rfl (lv_at hl 3 rfl) ?_
    refine lv_iload_n hx hb dJx4a65c_add_72be8_16 rfl (lv_at hl 0 rfl) ?_
    refine lv_iconst (v := 1) hx hb dJx4a65c_add_72be8_17 (by decide) ?_
    refine lv_iadd hx hb dJx4a65c_add_72be8_18 ?_
    refine w_nmi hw (fun z8 hw => ?_)
    refine cw_putIr (a := h) (v := z8) hF hH fk_Jx4a65c_48 dJx4a65c_add_72be8_19 rfl rfl rfl hw (fun κ9 H locs cells slots hw hH => ?_)
    exact cw_retv hF hH ⟨rfl, rfl⟩ hr hlk dJx4a65c_add_72be8_22 hw
  · skip
    refine w_icmp_ne (tgt := 11) hF dJx4a65c_add_72be8_3 rfl hw (fun hw => ?_) (fun hw => ?_)
    · have hl : lv_has ls 4 [(3, .int a3), (2, va_rf a2), (1, va_rf a1), (0, .ref h)] := lv_sub hl [3, 2, 1, 0] rfl
      exact jn6 a2 κ ls _ _ _ _ hl hw hH
    · refine lv_aload_n hx hb dJx4a65c_add_72be8_6 rfl (lv_at hl 0 rfl) ?_
      refine cw_cVq (b := h) (As := []) (rest := []) hF hH hA hE mv_Jx4a65c_129 ci_Jx4a65c (by decide) (fun sz => c_Jx4a65c_grow_d5877 l D t G _ h  _ hw.2 sz) dJx4a65c_add_72be8_7 hw.1 ⟨Nat.le_of_ble_eq_true rfl, Nat.le_of_ble_eq_true rfl⟩ rfl hl.1 (Nat.le_of_ble_eq_true rfl) rfl (fun z11 κ10 H locs cells slots hw hH => ?_)
      refine w_astoreq_n (lv' := [(2, va_rf z11), (0, .ref h), (1, va_rf a1), (3, .int a3)]) hF dJx4a65c_add_72be8_10 rfl hl (by decide) (by generalize a1 = y; cases y <;> rfl) (fun ls hl => ?_)
      have hl : lv_has ls 4 [(3, .int a3), (2, va_rf z11), (1, va_rf a1), (0, .ref h)] := lv_sub hl [3, 0, 2, 1] rfl
      exact jn6 z11 κ10 ls _ _ _ _ hl hw hH
set_option maxRecDepth 100000 in
def F_Jx4a65c_add_9ea2d (G : GE) (h : Nat) (a1 : Option Nat) (post : Int32 → CS → Prop) (κ : CS) : Prop := (h ∈ sL κ.1 ∧ sK κ.1 h = 7) ∧ ∀ z1 : Int32, z1 = sI κ.1 h 0 → ∀ z2 : Int32, z2 = z1 + 1 → (h ∈ sL κ.1 ∧ sK κ.1 h = 7) ∧ ∀ κ3 : CS, κ3 = (h_uI κ.1 h 0 z2, κ.2) → (h ∈ sL κ3.1 ∧ sK κ3.1 h = 7) ∧ ∀ z4 : Option Nat, z4 = sP κ3.1 h 1 → (h ∈ sL κ3.1 ∧ sK κ3.1 h = 7) ∧ ∀ z5 : Int32, z5 = sI κ3.1 h 2 → (h ∈ sL κ3.1 ∧ sK κ3.1 h = 7) ∧ F_Jx4a65c_add_72be8 G h a1 z4 z5 (fun (κ6 : CS) => (0 ≤ (1 : Int32).toInt ∧ (1 : Int32).toInt ≤ 1) ∧ post 1 κ6) κ3
theorem dJx4a65c_add_9ea2d_0 : decode cJx4a65c_add_9ea2d 0 = .ok (.aload_n 0, 1) := by decide +kernel
theorem dJx4a65c_add_9ea2d_1 : decode cJx4a65c_add_9ea2d 1 = .ok (.dup, 1) := by decide +kernel
theorem dJx4a65c_add_9ea2d_2 : decode cJx4a65c_add_9ea2d 2 = .ok (.getfield 63, 3) := by decide +kernel
theorem dJx4a65c_add_9ea2d_5 : decode cJx4a65c_add_9ea2d 5 = .ok (.iconst 1, 1) := by decide +kernel
theorem dJx4a65c_add_9ea2d_6 : decode cJx4a65c_add_9ea2d 6 = .ok (.iadd, 1) := by decide +kernel
theorem dJx4a65c_add_9ea2d_7 : decode cJx4a65c_add_9ea2d 7 = .ok (.putfield 63, 3) := by decide +kernel
theorem dJx4a65c_add_9ea2d_10 : decode cJx4a65c_add_9ea2d 10 = .ok (.aload_n 0, 1) := by decide +kernel
theorem dJx4a65c_add_9ea2d_11 : decode cJx4a65c_add_9ea2d 11 = .ok (.aload_n 1, 1) := by decide +kernel
theorem dJx4a65c_add_9ea2d_12 : decode cJx4a65c_add_9ea2d 12 = .ok (.aload_n 0, 1) := by decide +kernel
theorem dJx4a65c_add_9ea2d_13 : decode cJx4a65c_add_9ea2d 13 = .ok (.getfield 9, 3) := by decide +kernel
theorem dJx4a65c_add_9ea2d_16 : decode cJx4a65c_add_9ea2d 16 = .ok (.aload_n 0, 1) := by decide +kernel
theorem dJx4a65c_add_9ea2d_17 : decode cJx4a65c_add_9ea2d 17 = .ok (.getfield 48, 3) := by decide +kernel
theorem dJx4a65c_add_9ea2d_20 : decode cJx4a65c_add_9ea2d 20 = .ok (.invokevirtual 131, 3) := by decide +kernel
theorem dJx4a65c_add_9ea2d_23 : decode cJx4a65c_add_9ea2d 23 = .ok (.iconst 1, 1) := by decide +kernel
theorem dJx4a65c_add_9ea2d_24 : decode cJx4a65c_add_9ea2d 24 = .ok (.ireturn, 1) := by decide +kernel
set_option maxRecDepth 100000 in
set_option maxHeartbeats 4000000 in
theorem c_Jx4a65c_add_9ea2d (l : Launch) (D : va_G) (t : Nat → ClassId) (G : GE) (κ : CS) (h : Nat) (a1 : Option Nat) (post : Int32 → CS → Prop) (hw : F_Jx4a65c_add_9ea2d G h a1 post κ) (sz : Nat) : CMi l D t yJx4a65c_add_9ea2d cJx4a65c_add_9ea2d 2 (some .boolean) 6 150 G κ sz [.ref h, va_rf a1] post := by
  refine c_go (by decide) (by cases a1 <;> exact Nat.le_of_ble_eq_true rfl) ?_
  intro p e s m below meth c ls A hF hr hlk hin hAe hH hA hE hl
  unfold cB
  rw [hAe]
  clear hAe
  have hF : FX p m c cJx4a65c_add_9ea2d 2 s _ RJx4a65c D t := hF
  have hx := hF.1.1
  have hb := hF.1.2.1
  have hl : lv_has ls 2 [(0, .ref h), (1, va_rf a1)] := (by have h2 := hl; clear hw; revert h2; cases a1 <;> exact id)
  unfold F_Jx4a65c_add_9ea2d at hw
  refine lv_aload_n hx hb dJx4a65c_add_9ea2d_0 rfl (lv_at hl 0 rfl) ?_
  refine lv_dup hx hb dJx4a65c_add_9ea2d_1 rfl ?_
  refine cw_getM (a := h) hF hH (wc_8 36 rfl) (wc_9 2 rfl) dJx4a65c_add_9ea2d_2 hw (fun z1 hw => ?_)
  refine lv_iconst (v := 1) hx hb dJx4a65c_add_9ea2d_5 (by decide) ?_
  refine lv_iadd hx hb dJx4a65c_add_9ea2d_6 ?_
  refine w_nmi hw (fun z2 hw => ?_)
  refine cw_putM (a := h) hF hH (wc_8 36 rfl) (wc_9 2 rfl) dJx4a65c_add_9ea2d_7 hw (fun κ3 H locs cells slots hw hH => ?_)
  refine lv_aload_n hx hb dJx4a65c_add_9ea2d_10 rfl (lv_at hl 0 rfl) ?_
  refine w_aloadq_n hF dJx4a65c_add_9ea2d_11 rfl (lv_at hl 1 rfl) ?_
  refine lv_aload_n hx hb dJx4a65c_add_9ea2d_12 rfl (lv_at hl 0 rfl) ?_
  refine cw_getPr (a := h) hF hH fk_Jx4a65c_9 dJx4a65c_add_9ea2d_13 hw (fun z4 hw => ?_)
  refine lv_aload_n hx hb dJx4a65c_add_9ea2d_16 rfl (lv_at hl 0 rfl) ?_
  refine cw_getIr (a := h) hF hH fk_Jx4a65c_48 dJx4a65c_add_9ea2d_17 hw (fun z5 hw => ?_)
  refine cw_cVv (b := h) (As := [va_rf a1, va_rf z4, .int z5]) (rest := []) hF hH hA hE mv_Jx4a65c_131 ci_Jx4a65c (by decide) (fun sz => c_Jx4a65c_add_72be8 l D t G _ h a1 z4 z5 _ hw.2 sz) dJx4a65c_add_9ea2d_20 hw.1 ⟨Nat.le_of_ble_eq_true rfl, Nat.le_of_ble_eq_true rfl⟩ rfl hl.1 (Nat.le_of_ble_eq_true rfl) rfl (fun κ6 H locs cells slots hw hH => ?_)
  refine lv_iconst (v := 1) hx hb dJx4a65c_add_9ea2d_23 (by decide) ?_
  exact cw_retz hF hH ⟨rfl, rfl⟩ hr hlk dJx4a65c_add_9ea2d_24 hw
set_option maxRecDepth 100000 in
def F_X11_seal (G : GE) (h : Nat) (a1 : Option Nat) (a2 : Option Nat) (a3 : Int32) (a4 : Int32) (post : CS → Prop) (κ : CS) : Prop := jc (fun (K3 : Unit → CS → Prop) => ((a3.toInt = 0) → K3 () κ) ∧ ((¬ a3.toInt = 0) → ∃ b : Nat, a1 = some b ∧ (b ∈ sL κ.1 ∧ sK κ.1 b = 2) ∧ F_X6_begin G b 73 (fun (κ63 : CS) => ∃ b : Nat, a1 = some b ∧ (b ∈ sL κ63.1 ∧ sK κ63.1 b = 2) ∧ F_X6_put G b 64 2 9 (fun (κ65 : CS) => K3 () κ65) κ63) κ)) (fun (x1 : Unit) (κ2 : CS) => ∃ b : Nat, a2 = some b ∧ (b ∈ sL κ2.1 ∧ sK κ2.1 b = 8) ∧ F_X0_related G b  (fun (z7 : Int32) (κ6 : CS) => jc (fun (K10 : Int32 → CS → Prop) => ((z7.toInt = 0) → K10 0 κ6) ∧ ((¬ z7.toInt = 0) → K10 4 κ6)) (fun (x8 : Int32) (κ9 : CS) => ∀ z13 : Int32, z13 = 1 ||| x8 → ∃ b : Nat, a2 = some b ∧ (b ∈ sL κ9.1 ∧ sK κ9.1 b = 8) ∧ ∀ z14 : Int64, z14 = sJ κ9.1 b 16 → jc (fun (K17 : Int32 → CS → Prop) => ((z14.toInt = (0 : Int64).toInt) → K17 0 κ9) ∧ ((¬ z14.toInt = (0 : Int64).toInt) → K17 2 κ9)) (fun (x15 : Int32) (κ16 : CS) => ∀ z20 : Int32, z20 = z13 ||| x15 → ∃ b : Nat, a1 = some b ∧ (b ∈ sL κ16.1 ∧ sK κ16.1 b = 2) ∧ F_X6_put G b 0 4 1112364030 (fun (κ21 : CS) => ∃ b : Nat, a1 = some b ∧ (b ∈ sL κ21.1 ∧ sK κ21.1 b = 2) ∧ F_X6_put G b 4 2 64 (fun (κ23 : CS) => ∃ b : Nat, a2 = some b ∧ (b ∈ sL κ23.1 ∧ sK κ23.1 b = 8) ∧ ∀ z25 : Int32, z25 = sI κ23.1 b 4 → ∀ z26 : Int64, z26 = (z25 : Int32).toInt64 → ∃ b : Nat, a1 = some b ∧ (b ∈ sL κ23.1 ∧ sK κ23.1 b = 2) ∧ F_X6_put G b 6 2 z26 (fun (κ27 : CS) => ∀ z29 : Int64, z29 = (a3 : Int32).toInt64 → ∃ b : Nat, a1 = some b ∧ (b ∈ sL κ27.1 ∧ sK κ27.1 b = 2) ∧ F_X6_put G b 8 4 z29 (fun (κ30 : CS) => ∃ b : Nat, a2 = some b ∧ (b ∈ sL κ30.1 ∧ sK κ30.1 b = 8) ∧ ∀ z32 : Int32, z32 = sI κ30.1 b 5 → ∀ z33 : Int64, z33 = (z32 : Int32).toInt64 → ∃ b : Nat, a1 = some b ∧ (b ∈ sL κ30.1 ∧ sK κ30.1 b = 2) ∧ F_X6_put G b 12 2 z33 (fun (κ34 : CS) => ∀ z36 : Int64, z36 = (a4 : Int32).toInt64 → ∃ b : Nat, a1 = some b ∧ (b ∈ sL κ34.1 ∧ sK κ34.1 b = 2) ∧ F_X6_put G b 14 2 z36 (fun (κ37 : CS) => ∀ z39 : Int64, z39 = (z20 : Int32).toInt64 → ∃ b : Nat, a1 = some b ∧ (b ∈ sL κ37.1 ∧ sK κ37.1 b = 2) ∧ F_X6_put G b 16 4 z39 (fun (κ40 : CS) => ∃ b : Nat, a2 = some b ∧ (b ∈ sL κ40.1 ∧ sK κ40.1 b = 8) ∧ ∀ z42 : Int64, z42 = sJ κ40.1 b 8 → ∃ b : Nat, a1 = some b ∧ (b ∈ sL κ40.1 ∧ sK κ40.1 b = 2) ∧ F_X6_put G b 24 8 z42 (fun (κ43 : CS) => ∃ b : Nat, a2 = some b ∧ (b ∈ sL κ43.1 ∧ sK κ43.1 b = 8) ∧ ∀ z45 : Int64, z45 = sJ κ43.1 b 16 → jc (fun (K48 : Unit → CS → Prop) => ((z45.toInt = (0 : Int64).toInt) → ∃ b : Nat, a2 = some b ∧ (b ∈ sL κ43.1 ∧ sK κ43.1 b = 8) ∧ ∀ z54 : Int64, z54 = sJ κ43.1 b 9 → ∃ b : Nat, a1 = some b ∧ (b ∈ sL κ43.1 ∧ sK κ43.1 b = 2) ∧ F_X6_put G b 32 4 z54 (fun (κ55 : CS) => ∃ b : Nat, a2 = some b ∧ (b ∈ sL κ55.1 ∧ sK κ55.1 b = 8) ∧ ∀ z57 : Int64, z57 = sJ κ55.1 b 10 → ∃ b : Nat, a1 = some b ∧ (b ∈ sL κ55.1 ∧ sK κ55.1 b = 2) ∧ F_X6_put G b 36 4 z57 (fun (κ58 : CS) => K48 () κ58) κ55) κ43) ∧ ((¬ z45.toInt = (0 : Int64).toInt) → ∃ b : Nat, a2 = some b ∧ (b ∈ sL κ43.1 ∧ sK κ43.1 b = 8) ∧ ∀ z60 : Int64, z60 = sJ κ43.1 b 16 → ∃ b : Nat, a1 = some b ∧ (b ∈ sL κ43.1 ∧ sK κ43.1 b = 2) ∧ F_X6_put G b 32 8 z60 (fun (κ61 : CS) => K48 () κ61) κ43)) (fun (x46 : Unit) (κ47 : CS) => ∃ b : Nat, a2 = some b ∧ (b ∈ sL κ47.1 ∧ sK κ47.1 b = 8) ∧ ∀ z51 : Int64, z51 = sJ κ47.1 b 11 → ∃ b : Nat, a1 = some b ∧ (b ∈ sL κ47.1 ∧ sK κ47.1 b = 2) ∧ F_X6_put G b 40 8 z51 (fun (κ52 : CS) => post κ52) κ47)) κ40) κ37) κ34) κ30) κ27) κ23) κ21) κ16))) κ2)
theorem dX11_seal_0 : decode cX11_seal 0 = .ok (.iload_n 3, 1) := by decide +kernel
theorem dX11_seal_1 : decode cX11_seal 1 = .ok (.ifCond .eq 19, 3) := by decide +kernel
theorem dX11_seal_4 : decode cX11_seal 4 = .ok (.aload_n 1, 1) := by decide +kernel
theorem dX11_seal_5 : decode cX11_seal 5 = .ok (.bipush 73, 2) := by decide +kernel
theorem dX11_seal_7 : decode cX11_seal 7 = .ok (.invokevirtual 262, 3) := by decide +kernel
theorem dX11_seal_10 : decode cX11_seal 10 = .ok (.aload_n 1, 1) := by decide +kernel
theorem dX11_seal_11 : decode cX11_seal 11 = .ok (.bipush 64, 2) := by decide +kernel
theorem dX11_seal_13 : decode cX11_seal 13 = .ok (.iconst 2, 1) := by decide +kernel
theorem dX11_seal_14 : decode cX11_seal 14 = .ok (.ldc2_w 347, 3) := by decide +kernel
theorem dX11_seal_17 : decode cX11_seal 17 = .ok (.invokevirtual 349, 3) := by decide +kernel
theorem dX11_seal_20 : decode cX11_seal 20 = .ok (.iconst 1, 1) := by decide +kernel
theorem dX11_seal_21 : decode cX11_seal 21 = .ok (.aload_n 2, 1) := by decide +kernel
theorem dX11_seal_22 : decode cX11_seal 22 = .ok (.invokevirtual 353, 3) := by decide +kernel
theorem dX11_seal_25 : decode cX11_seal 25 = .ok (.ifCond .eq 7, 3) := by decide +kernel
theorem dX11_seal_28 : decode cX11_seal 28 = .ok (.iconst 4, 1) := by decide +kernel
theorem dX11_seal_29 : decode cX11_seal 29 = .ok (.goto 4, 3) := by decide +kernel
theorem dX11_seal_32 : decode cX11_seal 32 = .ok (.iconst 0, 1) := by decide +kernel
theorem dX11_seal_33 : decode cX11_seal 33 = .ok (.ior, 1) := by decide +kernel
theorem dX11_seal_34 : decode cX11_seal 34 = .ok (.aload_n 2, 1) := by decide +kernel
theorem dX11_seal_35 : decode cX11_seal 35 = .ok (.getfield 356, 3) := by decide +kernel
theorem dX11_seal_38 : decode cX11_seal 38 = .ok (.lconst 0, 1) := by decide +kernel
theorem dX11_seal_39 : decode cX11_seal 39 = .ok (.lcmp, 1) := by decide +kernel
theorem dX11_seal_40 : decode cX11_seal 40 = .ok (.ifCond .eq 7, 3) := by decide +kernel
theorem dX11_seal_43 : decode cX11_seal 43 = .ok (.iconst 2, 1) := by decide +kernel
theorem dX11_seal_44 : decode cX11_seal 44 = .ok (.goto 4, 3) := by decide +kernel
theorem dX11_seal_47 : decode cX11_seal 47 = .ok (.iconst 0, 1) := by decide +kernel
theorem dX11_seal_48 : decode cX11_seal 48 = .ok (.ior, 1) := by decide +kernel
theorem dX11_seal_49 : decode cX11_seal 49 = .ok (.istore 5, 2) := by decide +kernel
theorem dX11_seal_51 : decode cX11_seal 51 = .ok (.aload_n 1, 1) := by decide +kernel
theorem dX11_seal_52 : decode cX11_seal 52 = .ok (.iconst 0, 1) := by decide +kernel
theorem dX11_seal_53 : decode cX11_seal 53 = .ok (.iconst 4, 1) := by decide +kernel
theorem dX11_seal_54 : decode cX11_seal 54 = .ok (.ldc2_w 359, 3) := by decide +kernel
theorem dX11_seal_57 : decode cX11_seal 57 = .ok (.invokevirtual 349, 3) := by decide +kernel
theorem dX11_seal_60 : decode cX11_seal 60 = .ok (.aload_n 1, 1) := by decide +kernel
theorem dX11_seal_61 : decode cX11_seal 61 = .ok (.iconst 4, 1) := by decide +kernel
theorem dX11_seal_62 : decode cX11_seal 62 = .ok (.iconst 2, 1) := by decide +kernel
theorem dX11_seal_63 : decode cX11_seal 63 = .ok (.ldc2_w 361, 3) := by decide +kernel
theorem dX11_seal_66 : decode cX11_seal 66 = .ok (.invokevirtual 349, 3) := by decide +kernel
theorem dX11_seal_69 : decode cX11_seal 69 = .ok (.aload_n 1, 1) := by decide +kernel
theorem dX11_seal_70 : decode cX11_seal 70 = .ok (.bipush 6, 2) := by decide +kernel
theorem dX11_seal_72 : decode cX11_seal 72 = .ok (.iconst 2, 1) := by decide +kernel
theorem dX11_seal_73 : decode cX11_seal 73 = .ok (.aload_n 2, 1) := by decide +kernel
theorem dX11_seal_74 : decode cX11_seal 74 = .ok (.getfield 363, 3) := by decide +kernel
theorem dX11_seal_77 : decode cX11_seal 77 = .ok (.i2l, 1) := by decide +kernel
theorem dX11_seal_78 : decode cX11_seal 78 = .ok (.invokevirtual 349, 3) := by decide +kernel
theorem dX11_seal_81 : decode cX11_seal 81 = .ok (.aload_n 1, 1) := by decide +kernel
theorem dX11_seal_82 : decode cX11_seal 82 = .ok (.bipush 8, 2) := by decide +kernel
theorem dX11_seal_84 : decode cX11_seal 84 = .ok (.iconst 4, 1) := by decide +kernel
theorem dX11_seal_85 : decode cX11_seal 85 = .ok (.iload_n 3, 1) := by decide +kernel
theorem dX11_seal_86 : decode cX11_seal 86 = .ok (.i2l, 1) := by decide +kernel
theorem dX11_seal_87 : decode cX11_seal 87 = .ok (.invokevirtual 349, 3) := by decide +kernel
theorem dX11_seal_90 : decode cX11_seal 90 = .ok (.aload_n 1, 1) := by decide +kernel
theorem dX11_seal_91 : decode cX11_seal 91 = .ok (.bipush 12, 2) := by decide +kernel
theorem dX11_seal_93 : decode cX11_seal 93 = .ok (.iconst 2, 1) := by decide +kernel
theorem dX11_seal_94 : decode cX11_seal 94 = .ok (.aload_n 2, 1) := by decide +kernel
theorem dX11_seal_95 : decode cX11_seal 95 = .ok (.getfield 271, 3) := by decide +kernel
theorem dX11_seal_98 : decode cX11_seal 98 = .ok (.i2l, 1) := by decide +kernel
theorem dX11_seal_99 : decode cX11_seal 99 = .ok (.invokevirtual 349, 3) := by decide +kernel
theorem dX11_seal_102 : decode cX11_seal 102 = .ok (.aload_n 1, 1) := by decide +kernel
theorem dX11_seal_103 : decode cX11_seal 103 = .ok (.bipush 14, 2) := by decide +kernel
theorem dX11_seal_105 : decode cX11_seal 105 = .ok (.iconst 2, 1) := by decide +kernel
theorem dX11_seal_106 : decode cX11_seal 106 = .ok (.iload 4, 2) := by decide +kernel
theorem dX11_seal_108 : decode cX11_seal 108 = .ok (.i2l, 1) := by decide +kernel
theorem dX11_seal_109 : decode cX11_seal 109 = .ok (.invokevirtual 349, 3) := by decide +kernel
theorem dX11_seal_112 : decode cX11_seal 112 = .ok (.aload_n 1, 1) := by decide +kernel
theorem dX11_seal_113 : decode cX11_seal 113 = .ok (.bipush 16, 2) := by decide +kernel
theorem dX11_seal_115 : decode cX11_seal 115 = .ok (.iconst 4, 1) := by decide +kernel
theorem dX11_seal_116 : decode cX11_seal 116 = .ok (.iload 5, 2) := by decide +kernel
theorem dX11_seal_118 : decode cX11_seal 118 = .ok (.i2l, 1) := by decide +kernel
theorem dX11_seal_119 : decode cX11_seal 119 = .ok (.invokevirtual 349, 3) := by decide +kernel
theorem dX11_seal_122 : decode cX11_seal 122 = .ok (.aload_n 1, 1) := by decide +kernel
theorem dX11_seal_123 : decode cX11_seal 123 = .ok (.bipush 24, 2) := by decide +kernel
theorem dX11_seal_125 : decode cX11_seal 125 = .ok (.bipush 8, 2) := by decide +kernel
theorem dX11_seal_127 : decode cX11_seal 127 = .ok (.aload_n 2, 1) := by decide +kernel
theorem dX11_seal_128 : decode cX11_seal 128 = .ok (.getfield 274, 3) := by decide +kernel
theorem dX11_seal_131 : decode cX11_seal 131 = .ok (.invokevirtual 349, 3) := by decide +kernel
theorem dX11_seal_134 : decode cX11_seal 134 = .ok (.aload_n 2, 1) := by decide +kernel
theorem dX11_seal_135 : decode cX11_seal 135 = .ok (.getfield 356, 3) := by decide +kernel
theorem dX11_seal_138 : decode cX11_seal 138 = .ok (.lconst 0, 1) := by decide +kernel
theorem dX11_seal_139 : decode cX11_seal 139 = .ok (.lcmp, 1) := by decide +kernel
theorem dX11_seal_140 : decode cX11_seal 140 = .ok (.ifCond .eq 18, 3) := by decide +kernel
theorem dX11_seal_143 : decode cX11_seal 143 = .ok (.aload_n 1, 1) := by decide +kernel
theorem dX11_seal_144 : decode cX11_seal 144 = .ok (.bipush 32, 2) := by decide +kernel
theorem dX11_seal_146 : decode cX11_seal 146 = .ok (.bipush 8, 2) := by decide +kernel
theorem dX11_seal_148 : decode cX11_seal 148 = .ok (.aload_n 2, 1) := by decide +kernel
theorem dX11_seal_149 : decode cX11_seal 149 = .ok (.getfield 356, 3) := by decide +kernel
theorem dX11_seal_152 : decode cX11_seal 152 = .ok (.invokevirtual 349, 3) := by decide +kernel
theorem dX11_seal_155 : decode cX11_seal 155 = .ok (.goto 25, 3) := by decide +kernel
theorem dX11_seal_158 : decode cX11_seal 158 = .ok (.aload_n 1, 1) := by decide +kernel
theorem dX11_seal_159 : decode cX11_seal 159 = .ok (.bipush 32, 2) := by decide +kernel
theorem dX11_seal_161 : decode cX11_seal 161 = .ok (.iconst 4, 1) := by decide +kernel
theorem dX11_seal_162 : decode cX11_seal 162 = .ok (.aload_n 2, 1) := by decide +kernel
theorem dX11_seal_163 : decode cX11_seal 163 = .ok (.getfield 366, 3) := by decide +kernel
theorem dX11_seal_166 : decode cX11_seal 166 = .ok (.invokevirtual 349, 3) := by decide +kernel
theorem dX11_seal_169 : decode cX11_seal 169 = .ok (.aload_n 1, 1) := by decide +kernel
theorem dX11_seal_170 : decode cX11_seal 170 = .ok (.bipush 36, 2) := by decide +kernel
theorem dX11_seal_172 : decode cX11_seal 172 = .ok (.iconst 4, 1) := by decide +kernel
theorem dX11_seal_173 : decode cX11_seal 173 = .ok (.aload_n 2, 1) := by decide +kernel
theorem dX11_seal_174 : decode cX11_seal 174 = .ok (.getfield 341, 3) := by decide +kernel
theorem dX11_seal_177 : decode cX11_seal 177 = .ok (.invokevirtual 349, 3) := by decide +kernel
theorem dX11_seal_180 : decode cX11_seal 180 = .ok (.aload_n 1, 1) := by decide +kernel
theorem dX11_seal_181 : decode cX11_seal 181 = .ok (.bipush 40, 2) := by decide +kernel
theorem dX11_seal_183 : decode cX11_seal 183 = .ok (.bipush 8, 2) := by decide +kernel
theorem dX11_seal_185 : decode cX11_seal 185 = .ok (.aload_n 2, 1) := by decide +kernel
theorem dX11_seal_186 : decode cX11_seal 186 = .ok (.getfield 335, 3) := by decide +kernel
theorem dX11_seal_189 : decode cX11_seal 189 = .ok (.invokevirtual 349, 3) := by decide +kernel
theorem dX11_seal_192 : decode cX11_seal 192 = .ok (.return_, 1) := by decide +kernel
set_option maxRecDepth 100000 in
set_option maxHeartbeats 4000000 in
theorem c_X11_seal (l : Launch) (D : va_G) (t : Nat → ClassId) (G : GE) (κ : CS) (h : Nat) (a1 : Option Nat) (a2 : Option Nat) (a3 : Int32) (a4 : Int32) (post : CS → Prop) (hw : F_X11_seal G h a1 a2 a3 a4 post κ) (sz : Nat) : CMv l D t yX11_seal cX11_seal 6 3 82 G κ sz [.ref h, va_rf a1, va_rf a2, .int a3, .int a4] post := by
  refine c_go (by decide) (by cases a1 <;> cases a2 <;> exact Nat.le_of_ble_eq_true rfl) ?_
  intro p e s m below meth c ls A hF hr hlk hin hAe hH hA hE hl
  unfold cB
  rw [hAe]
  clear hAe
  have hF : FX p m c cX11_seal 6 s _ RX11 D t := hF
  have hx := hF.1.1
  have hb := hF.1.2.1
  have hl : lv_has ls 6 [(0, .ref h), (1, va_rf a1), (2, va_rf a2), (3, .int a3), (4, .int a4)] := (by have h2 := hl; clear hw; revert h2; cases a1 <;> cases a2 <;> exact id)
  unfold F_X11_seal at hw
  refine lv_iload_n hx hb dX11_seal_0 rfl (lv_at hl 3 rfl) ?_
  obtain ⟨K3, hK4, hw⟩ := jc_open hw
  refine cw_join (K := K3) 20 (fun (x1 : Unit) => [(4, .int a4), (3, .int a3), (2, va_rf a2), (1, va_rf a1)]) (fun (x1 : Unit) => []) hl hH (fun x1 κ2 ls H locs cells slots hl hw hH => ?_) (fun jn5 => ?_)
  · have hw := hK4 x1 κ2 hw
    have hl : lv_has ls 6 [(4, .int a4), (3, .int a3), (2, va_rf a2), (1, va_rf a1)] := hl
    refine lv_iconst (v := 1) hx hb dX11_seal_20 (by decide) ?_
    refine w_aloadq_n hF dX11_seal_21 rfl (lv_at hl 2 rfl) ?_
    refine cw_cViq (q := a2) (As := []) (rest := [.int 1]) hF hH hA hE mv_X11_353 ci_X0 (by decide) hw (fun b hw sz => c_X0_related l D t G _ b  _ hw sz) dX11_seal_22 ⟨Nat.le_of_ble_eq_true rfl, Nat.le_of_ble_eq_true rfl⟩ rfl hl.1 (Nat.le_of_ble_eq_true rfl) rfl (fun z7 κ6 H locs cells slots hw hH => ?_)
    obtain ⟨K10, hK11, hw⟩ := jc_open hw
    refine cw_join (K := K10) 33 (fun (x8 : Int32) => [(4, .int a4), (3, .int a3), (2, va_rf a2), (1, va_rf a1)]) (fun (x8 : Int32) => [.int x8, .int 1]) hl hH (fun x8 κ9 ls H locs cells slots hl hw hH => ?_) (fun jn12 => ?_)
    · have hw := hK11 x8 κ9 hw
      have hl : lv_has ls 6 [(4, .int a4), (3, .int a3), (2, va_rf a2), (1, va_rf a1)] := hl
      refine lv_ior hx hb dX11_seal_33 ?_
      refine w_nmi hw (fun z13 hw => ?_)
      refine w_aloadq_n hF dX11_seal_34 rfl (lv_at hl 2 rfl) ?_
      refine cw_getJ (q := a2) hF hH fk_X11_356 dX11_seal_35 hw (fun z14 hw => ?_)
      refine lv_lconst (v := 0) hx hb dX11_seal_38 (by decide) ?_
      obtain ⟨K17, hK18, hw⟩ := jc_open hw
      refine cw_join (K := K17) 48 (fun (x15 : Int32) => [(4, .int a4), (3, .int a3), (2, va_rf a2), (1, va_rf a1)]) (fun (x15 : Int32) => [.int x15, .int z13]) hl hH (fun x15 κ16 ls H locs cells slots hl hw hH => ?_) (fun jn19 => ?_)
      · have hw := hK18 x15 κ16 hw
        have hl : lv_has ls 6 [(4, .int a4), (3, .int a3), (2, va_rf a2), (1, va_rf a1)] := hl
        refine lv_ior hx hb dX11_seal_48 ?_
        refine w_nmi hw (fun z20 hw => ?_)
        refine lv_istore (lv' := [(5, .int z20), (4, .int a4), (3, .int a3), (2, va_rf a2), (1, va_rf a1)]) hx hb dX11_seal_49 hl (by decide) rfl (fun ls hl => ?_)
        refine w_aloadq_n hF dX11_seal_51 rfl (lv_at hl 4 rfl) ?_
        refine lv_iconst (v := 0) hx hb dX11_seal_52 (by decide) ?_
        refine lv_iconst (v := 4) hx hb dX11_seal_53 (by decide) ?_
        refine lv_ldc2 (v := 1112364030) hx hb hF.1.2.2.2.1 (hF.1.2.2.2.2 _ (wc_16 22 rfl)) dX11_seal_54 ?_
        refine cw_cVvq (q := a1) (As := [.int 0, .int 4, .long 1112364030]) (rest := []) hF hH hA hE mv_X11_349 ci_X6 (by decide) hw (fun b hw sz => c_X6_put l D t G _ b 0 4 1112364030 _ hw sz) dX11_seal_57 ⟨Nat.le_of_ble_eq_true rfl, Nat.le_of_ble_eq_true rfl⟩ rfl hl.1 (Nat.le_of_ble_eq_true rfl) rfl (fun κ21 H locs cells slots hw hH => ?_)
        refine w_aloadq_n hF dX11_seal_60 rfl (lv_at hl 4 rfl) ?_
        refine lv_iconst (v := 4) hx hb dX11_seal_61 (by decide) ?_
        refine lv_iconst (v := 2) hx hb dX11_seal_62 (by decide) ?_
        refine lv_ldc2 (v := 64) hx hb hF.1.2.2.2.1 (hF.1.2.2.2.2 _ (wc_16 23 rfl)) dX11_seal_63 ?_
        refine cw_cVvq (q := a1) (As := [.int 4, .int 2, .long 64]) (rest := []) hF hH hA hE mv_X11_349 ci_X6 (by decide) hw (fun b hw sz => c_X6_put l D t G _ b 4 2 64 _ hw sz) dX11_seal_66 ⟨Nat.le_of_ble_eq_true rfl, Nat.le_of_ble_eq_true rfl⟩ rfl hl.1 (Nat.le_of_ble_eq_true rfl) rfl (fun κ23 H locs cells slots hw hH => ?_)
        refine w_aloadq_n hF dX11_seal_69 rfl (lv_at hl 4 rfl) ?_
        refine lv_bipush (v := 6) hx hb dX11_seal_70 (by decide) ?_
        refine lv_iconst (v := 2) hx hb dX11_seal_72 (by decide) ?_
        refine w_aloadq_n hF dX11_seal_73 rfl (lv_at hl 3 rfl) ?_
        refine cw_getI (q := a2) hF hH fk_X11_363 dX11_seal_74 hw (fun z25 hw => ?_)
        refine lv_i2l hx hb dX11_seal_77 rfl ?_
        refine w_nml hw (fun z26 hw => ?_)
        refine cw_cVvq (q := a1) (As := [.int 6, .int 2, .long z26]) (rest := []) hF hH hA hE mv_X11_349 ci_X6 (by decide) hw (fun b hw sz => c_X6_put l D t G _ b 6 2 z26 _ hw sz) dX11_seal_78 ⟨Nat.le_of_ble_eq_true rfl, Nat.le_of_ble_eq_true rfl⟩ rfl hl.1 (Nat.le_of_ble_eq_true rfl) rfl (fun κ27 H locs cells slots hw hH => ?_)
        refine w_aloadq_n hF dX11_seal_81 rfl (lv_at hl 4 rfl) ?_
        refine lv_bipush (v := 8) hx hb dX11_seal_82 (by decide) ?_
        refine lv_iconst (v := 4) hx hb dX11_seal_84 (by decide) ?_
        refine lv_iload_n hx hb dX11_seal_85 rfl (lv_at hl 2 rfl) ?_
        refine lv_i2l hx hb dX11_seal_86 rfl ?_
        refine w_nml hw (fun z29 hw => ?_)
        refine cw_cVvq (q := a1) (As := [.int 8, .int 4, .long z29]) (rest := []) hF hH hA hE mv_X11_349 ci_X6 (by decide) hw (fun b hw sz => c_X6_put l D t G _ b 8 4 z29 _ hw sz) dX11_seal_87 ⟨Nat.le_of_ble_eq_true rfl, Nat.le_of_ble_eq_true rfl⟩ rfl hl.1 (Nat.le_of_ble_eq_true rfl) rfl (fun κ30 H locs cells slots hw hH => ?_)
        refine w_aloadq_n hF dX11_seal_90 rfl (lv_at hl 4 rfl) ?_
        refine lv_bipush (v := 12) hx hb dX11_seal_91 (by decide) ?_
        refine lv_iconst (v := 2) hx hb dX11_seal_93 (by decide) ?_
        refine w_aloadq_n hF dX11_seal_94 rfl (lv_at hl 3 rfl) ?_
        refine cw_getI (q := a2) hF hH fk_X11_271 dX11_seal_95 hw (fun z32 hw => ?_)
        refine lv_i2l hx hb dX11_seal_98 rfl ?_
        refine w_nml hw (fun z33 hw => ?_)
        refine cw_cVvq (q := a1) (As := [.int 12, .int 2, .long z33]) (rest := []) hF hH hA hE mv_X11_349 ci_X6 (by decide) hw (fun b hw sz => c_X6_put l D t G _ b 12 2 z33 _ hw sz) dX11_seal_99 ⟨Nat.le_of_ble_eq_true rfl, Nat.le_of_ble_eq_true rfl⟩ rfl hl.1 (Nat.le_of_ble_eq_true rfl) rfl (fun κ34 H locs cells slots hw hH => ?_)
        refine w_aloadq_n hF dX11_seal_102 rfl (lv_at hl 4 rfl) ?_
        refine lv_bipush (v := 14) hx hb dX11_seal_103 (by decide) ?_
        refine lv_iconst (v := 2) hx hb dX11_seal_105 (by decide) ?_
        refine lv_iload hx hb dX11_seal_106 (lv_at hl 1 rfl) ?_
        refine lv_i2l hx hb dX11_seal_108 rfl ?_
        refine w_nml hw (fun z36 hw => ?_)
        refine cw_cVvq (q := a1) (As := [.int 14, .int 2, .long z36]) (rest := []) hF hH hA hE mv_X11_349 ci_X6 (by decide) hw (fun b hw sz => c_X6_put l D t G _ b 14 2 z36 _ hw sz) dX11_seal_109 ⟨Nat.le_of_ble_eq_true rfl, Nat.le_of_ble_eq_true rfl⟩ rfl hl.1 (Nat.le_of_ble_eq_true rfl) rfl (fun κ37 H locs cells slots hw hH => ?_)
        refine w_aloadq_n hF dX11_seal_112 rfl (lv_at hl 4 rfl) ?_
        refine lv_bipush (v := 16) hx hb dX11_seal_113 (by decide) ?_
        refine lv_iconst (v := 4) hx hb dX11_seal_115 (by decide) ?_
        refine lv_iload hx hb dX11_seal_116 (lv_at hl 0 rfl) ?_
        refine lv_i2l hx hb dX11_seal_118 rfl ?_
        refine w_nml hw (fun z39 hw => ?_)
        refine cw_cVvq (q := a1) (As := [.int 16, .int 4, .long z39]) (rest := []) hF hH hA hE mv_X11_349 ci_X6 (by decide) hw (fun b hw sz => c_X6_put l D t G _ b 16 4 z39 _ hw sz) dX11_seal_119 ⟨Nat.le_of_ble_eq_true rfl, Nat.le_of_ble_eq_true rfl⟩ rfl hl.1 (Nat.le_of_ble_eq_true rfl) rfl (fun κ40 H locs cells slots hw hH => ?_)
        refine w_aloadq_n hF dX11_seal_122 rfl (lv_at hl 4 rfl) ?_
        refine lv_bipush (v := 24) hx hb dX11_seal_123 (by decide) ?_
        refine lv_bipush (v := 8) hx hb dX11_seal_125 (by decide) ?_
        refine w_aloadq_n hF dX11_seal_127 rfl (lv_at hl 3 rfl) ?_
        refine cw_getJ (q := a2) hF hH fk_X11_274 dX11_seal_128 hw (fun z42 hw => ?_)
        refine cw_cVvq (q := a1) (As := [.int 24, .int 8, .long z42]) (rest := []) hF hH hA hE mv_X11_349 ci_X6 (by decide) hw (fun b hw sz => c_X6_put l D t G _ b 24 8 z42 _ hw sz) dX11_seal_131 ⟨Nat.le_of_ble_eq_true rfl, Nat.le_of_ble_eq_true rfl⟩ rfl hl.1 (Nat.le_of_ble_eq_true rfl) rfl (fun κ43 H locs cells slots hw hH => ?_)
        refine w_aloadq_n hF dX11_seal_134 rfl (lv_at hl 3 rfl) ?_
        refine cw_getJ (q := a2) hF hH fk_X11_356 dX11_seal_135 hw (fun z45 hw => ?_)
        refine lv_lconst (v := 0) hx hb dX11_seal_138 (by decide) ?_
        obtain ⟨K48, hK49, hw⟩ := jc_open hw
        refine cw_join (K := K48) 180 (fun (x46 : Unit) => [(2, va_rf a2), (1, va_rf a1)]) (fun (x46 : Unit) => []) hl hH (fun x46 κ47 ls H locs cells slots hl hw hH => ?_) (fun jn50 => ?_)
        · have hw := hK49 x46 κ47 hw
          have hl : lv_has ls 6 [(2, va_rf a2), (1, va_rf a1)] := hl
          refine w_aloadq_n hF dX11_seal_180 rfl (lv_at hl 1 rfl) ?_
          refine lv_bipush (v := 40) hx hb dX11_seal_181 (by decide) ?_
          refine lv_bipush (v := 8) hx hb dX11_seal_183 (by decide) ?_
          refine w_aloadq_n hF dX11_seal_185 rfl (lv_at hl 0 rfl) ?_
          refine cw_getJ (q := a2) hF hH fk_X11_335 dX11_seal_186 hw (fun z51 hw => ?_)
          refine cw_cVvq (q := a1) (As := [.int 40, .int 8, .long z51]) (rest := []) hF hH hA hE mv_X11_349 ci_X6 (by decide) hw (fun b hw sz => c_X6_put l D t G _ b 40 8 z51 _ hw sz) dX11_seal_189 ⟨Nat.le_of_ble_eq_true rfl, Nat.le_of_ble_eq_true rfl⟩ rfl hl.1 (Nat.le_of_ble_eq_true rfl) rfl (fun κ52 H locs cells slots hw hH => ?_)
          exact cw_retv hF hH ⟨rfl, rfl⟩ hr hlk dX11_seal_192 hw
        · skip
          refine w_lif_eq (tgt := 158) hF dX11_seal_139 dX11_seal_140 rfl hw (fun hw => ?_) (fun hw => ?_)
          · refine w_aloadq_n hF dX11_seal_158 rfl (lv_at hl 4 rfl) ?_
            refine lv_bipush (v := 32) hx hb dX11_seal_159 (by decide) ?_
            refine lv_iconst (v := 4) hx hb dX11_seal_161 (by decide) ?_
            refine w_aloadq_n hF dX11_seal_162 rfl (lv_at hl 3 rfl) ?_
            refine cw_getJ (q := a2) hF hH fk_X11_366 dX11_seal_163 hw (fun z54 hw => ?_)
            refine cw_cVvq (q := a1) (As := [.int 32, .int 4, .long z54]) (rest := []) hF hH hA hE mv_X11_349 ci_X6 (by decide) hw (fun b hw sz => c_X6_put l D t G _ b 32 4 z54 _ hw sz) dX11_seal_166 ⟨Nat.le_of_ble_eq_true rfl, Nat.le_of_ble_eq_true rfl⟩ rfl hl.1 (Nat.le_of_ble_eq_true rfl) rfl (fun κ55 H locs cells slots hw hH => ?_)
            refine w_aloadq_n hF dX11_seal_169 rfl (lv_at hl 4 rfl) ?_
            refine lv_bipush (v := 36) hx hb dX11_seal_170 (by decide) ?_
            refine lv_iconst (v := 4) hx hb dX11_seal_172 (by decide) ?_
            refine w_aloadq_n hF dX11_seal_173 rfl (lv_at hl 3 rfl) ?_
            refine cw_getJ (q := a2) hF hH fk_X11_341 dX11_seal_174 hw (fun z57 hw => ?_)
            refine cw_cVvq (q := a1) (As := [.int 36, .int 4, .long z57]) (rest := []) hF hH hA hE mv_X11_349 ci_X6 (by decide) hw (fun b hw sz => c_X6_put l D t G _ b 36 4 z57 _ hw sz) dX11_seal_177 ⟨Nat.le_of_ble_eq_true rfl, Nat.le_of_ble_eq_true rfl⟩ rfl hl.1 (Nat.le_of_ble_eq_true rfl) rfl (fun κ58 H locs cells slots hw hH => ?_)
            have hl : lv_has ls 6 [(2, va_rf a2), (1, va_rf a1)] := lv_sub hl [3, 4] rfl
            exact jn50 () κ58 ls _ _ _ _ hl hw hH
          · refine w_aloadq_n hF dX11_seal_143 rfl (lv_at hl 4 rfl) ?_
            refine lv_bipush (v := 32) hx hb dX11_seal_144 (by decide) ?_
            refine lv_bipush (v := 8) hx hb dX11_seal_146 (by decide) ?_
            refine w_aloadq_n hF dX11_seal_148 rfl (lv_at hl 3 rfl) ?_
            refine cw_getJ (q := a2) hF hH fk_X11_356 dX11_seal_149 hw (fun z60 hw => ?_)
            refine cw_cVvq (q := a1) (As := [.int 32, .int 8, .long z60]) (rest := []) hF hH hA hE mv_X11_349 ci_X6 (by decide) hw (fun b hw sz => c_X6_put l D t G _ b 32 8 z60 _ hw sz) dX11_seal_152 ⟨Nat.le_of_ble_eq_true rfl, Nat.le_of_ble_eq_true rfl⟩ rfl hl.1 (Nat.le_of_ble_eq_true rfl) rfl (fun κ61 H locs cells slots hw hH => ?_)
            refine lv_goto (tgt := 180) hx hb dX11_seal_155 rfl ?_
            have hl : lv_has ls 6 [(2, va_rf a2), (1, va_rf a1)] := lv_sub hl [3, 4] rfl
            exact jn50 () κ61 ls _ _ _ _ hl hw hH
      · skip
        refine w_lif_eq (tgt := 47) hF dX11_seal_39 dX11_seal_40 rfl hw (fun hw => ?_) (fun hw => ?_)
        · refine lv_iconst (v := 0) hx hb dX11_seal_47 (by decide) ?_
          exact jn19 0 κ9 ls _ _ _ _ hl hw hH
        · refine lv_iconst (v := 2) hx hb dX11_seal_43 (by decide) ?_
          refine lv_goto (tgt := 48) hx hb dX11_seal_44 rfl ?_
          exact jn19 2 κ9 ls _ _ _ _ hl hw hH
    · skip
      refine w_if_eq (tgt := 32) hF dX11_seal_25 rfl hw (fun hw => ?_) (fun hw => ?_)
      · refine lv_iconst (v := 0) hx hb dX11_seal_32 (by decide) ?_
        exact jn12 0 κ6 ls _ _ _ _ hl hw hH
      · refine lv_iconst (v := 4) hx hb dX11_seal_28 (by decide) ?_
        refine lv_goto (tgt := 33) hx hb dX11_seal_29 rfl ?_
        exact jn12 4 κ6 ls _ _ _ _ hl hw hH
  · skip
    refine w_if_eq (tgt := 20) hF dX11_seal_1 rfl hw (fun hw => ?_) (fun hw => ?_)
    · have hl : lv_has ls 6 [(4, .int a4), (3, .int a3), (2, va_rf a2), (1, va_rf a1)] := lv_sub hl [4, 3, 2, 1] rfl
      exact jn5 () κ ls _ _ _ _ hl hw hH
    · refine w_aloadq_n hF dX11_seal_4 rfl (lv_at hl 1 rfl) ?_
      refine lv_bipush (v := 73) hx hb dX11_seal_5 (by decide) ?_
      refine cw_cVvq (q := a1) (As := [.int 73]) (rest := []) hF hH hA hE mv_X11_262 ci_X6 (by decide) hw (fun b hw sz => c_X6_begin l D t G _ b 73 _ hw sz) dX11_seal_7 ⟨Nat.le_of_ble_eq_true rfl, Nat.le_of_ble_eq_true rfl⟩ rfl hl.1 (Nat.le_of_ble_eq_true rfl) rfl (fun κ63 H locs cells slots hw hH => ?_)
      refine w_aloadq_n hF dX11_seal_10 rfl (lv_at hl 1 rfl) ?_
      refine lv_bipush (v := 64) hx hb dX11_seal_11 (by decide) ?_
      refine lv_iconst (v := 2) hx hb dX11_seal_13 (by decide) ?_
      refine lv_ldc2 (v := 9) hx hb hF.1.2.2.2.1 (hF.1.2.2.2.2 _ (wc_16 19 rfl)) dX11_seal_14 ?_
      refine cw_cVvq (q := a1) (As := [.int 64, .int 2, .long 9]) (rest := []) hF hH hA hE mv_X11_349 ci_X6 (by decide) hw (fun b hw sz => c_X6_put l D t G _ b 64 2 9 _ hw sz) dX11_seal_17 ⟨Nat.le_of_ble_eq_true rfl, Nat.le_of_ble_eq_true rfl⟩ rfl hl.1 (Nat.le_of_ble_eq_true rfl) rfl (fun κ65 H locs cells slots hw hH => ?_)
      have hl : lv_has ls 6 [(4, .int a4), (3, .int a3), (2, va_rf a2), (1, va_rf a1)] := lv_sub hl [4, 3, 2, 1] rfl
      exact jn5 () κ65 ls _ _ _ _ hl hw hH
set_option maxRecDepth 100000 in
def F_X11_sendLater (G : GE) (h : Nat) (a1 : Option Nat) (a2 : Int32) (post : CS → Prop) (κ : CS) : Prop := (h ∈ sL κ.1 ∧ sK κ.1 h = 1) ∧ ∀ z1 : Option Nat, z1 = sP κ.1 h 16 → (h ∈ sL κ.1 ∧ sK κ.1 h = 1) ∧ F_X11_seal G h z1 a1 a2 0 (fun (κ2 : CS) => ∃ b : Nat, a1 = some b ∧ (b ∈ sL κ2.1 ∧ sK κ2.1 b = 8) ∧ ∀ z4 : Option Nat, z4 = sP κ2.1 b 0 → (h ∈ sL κ2.1 ∧ sK κ2.1 h = 1) ∧ ∀ z5 : Option Nat, z5 = sP κ2.1 h 16 → ∃ b : Nat, z4 = some b ∧ (b ∈ sL κ2.1 ∧ sK κ2.1 b = 3) ∧ F_X2_post G b z5 (fun (κ6 : CS) => post κ6) κ2) κ
theorem dX11_sendLater_0 : decode cX11_sendLater 0 = .ok (.aload_n 0, 1) := by decide +kernel
theorem dX11_sendLater_1 : decode cX11_sendLater 1 = .ok (.aload_n 0, 1) := by decide +kernel
theorem dX11_sendLater_2 : decode cX11_sendLater 2 = .ok (.getfield 71, 3) := by decide +kernel
theorem dX11_sendLater_5 : decode cX11_sendLater 5 = .ok (.aload_n 1, 1) := by decide +kernel
theorem dX11_sendLater_6 : decode cX11_sendLater 6 = .ok (.iload_n 2, 1) := by decide +kernel
theorem dX11_sendLater_7 : decode cX11_sendLater 7 = .ok (.iconst 0, 1) := by decide +kernel
theorem dX11_sendLater_8 : decode cX11_sendLater 8 = .ok (.invokevirtual 320, 3) := by decide +kernel
theorem dX11_sendLater_11 : decode cX11_sendLater 11 = .ok (.aload_n 1, 1) := by decide +kernel
theorem dX11_sendLater_12 : decode cX11_sendLater 12 = .ok (.getfield 310, 3) := by decide +kernel
theorem dX11_sendLater_15 : decode cX11_sendLater 15 = .ok (.aload_n 0, 1) := by decide +kernel
theorem dX11_sendLater_16 : decode cX11_sendLater 16 = .ok (.getfield 71, 3) := by decide +kernel
theorem dX11_sendLater_19 : decode cX11_sendLater 19 = .ok (.invokevirtual 152, 3) := by decide +kernel
theorem dX11_sendLater_22 : decode cX11_sendLater 22 = .ok (.return_, 1) := by decide +kernel
set_option maxRecDepth 100000 in
set_option maxHeartbeats 4000000 in
theorem c_X11_sendLater (l : Launch) (D : va_G) (t : Nat → ClassId) (G : GE) (κ : CS) (h : Nat) (a1 : Option Nat) (a2 : Int32) (post : CS → Prop) (hw : F_X11_sendLater G h a1 a2 post κ) (sz : Nat) : CMv l D t yX11_sendLater cX11_sendLater 3 4 107 G κ sz [.ref h, va_rf a1, .int a2] post := by
  refine c_go (by decide) (by cases a1 <;> exact Nat.le_of_ble_eq_true rfl) ?_
  intro p e s m below meth c ls A hF hr hlk hin hAe hH hA hE hl
  unfold cB
  rw [hAe]
  clear hAe
  have hF : FX p m c cX11_sendLater 3 s _ RX11 D t := hF
  have hx := hF.1.1
  have hb := hF.1.2.1
  have hl : lv_has ls 3 [(0, .ref h), (1, va_rf a1), (2, .int a2)] := (by have h2 := hl; clear hw; revert h2; cases a1 <;> exact id)
  unfold F_X11_sendLater at hw
  refine lv_aload_n hx hb dX11_sendLater_0 rfl (lv_at hl 0 rfl) ?_
  refine lv_aload_n hx hb dX11_sendLater_1 rfl (lv_at hl 0 rfl) ?_
  refine cw_getPr (a := h) hF hH fk_X11_71 dX11_sendLater_2 hw (fun z1 hw => ?_)
  refine w_aloadq_n hF dX11_sendLater_5 rfl (lv_at hl 1 rfl) ?_
  refine lv_iload_n hx hb dX11_sendLater_6 rfl (lv_at hl 2 rfl) ?_
  refine lv_iconst (v := 0) hx hb dX11_sendLater_7 (by decide) ?_
  refine cw_cVv (b := h) (As := [va_rf z1, va_rf a1, .int a2, .int 0]) (rest := []) hF hH hA hE mv_X11_320 ci_X11 (by decide) (fun sz => c_X11_seal l D t G _ h z1 a1 a2 0 _ hw.2 sz) dX11_sendLater_8 hw.1 ⟨Nat.le_of_ble_eq_true rfl, Nat.le_of_ble_eq_true rfl⟩ rfl hl.1 (Nat.le_of_ble_eq_true rfl) rfl (fun κ2 H locs cells slots hw hH => ?_)
  refine w_aloadq_n hF dX11_sendLater_11 rfl (lv_at hl 1 rfl) ?_
  refine cw_getP (q := a1) hF hH fk_X11_310 dX11_sendLater_12 hw (fun z4 hw => ?_)
  refine lv_aload_n hx hb dX11_sendLater_15 rfl (lv_at hl 0 rfl) ?_
  refine cw_getPr (a := h) hF hH fk_X11_71 dX11_sendLater_16 hw (fun z5 hw => ?_)
  refine cw_cVvq (q := z4) (As := [va_rf z5]) (rest := []) hF hH hA hE mv_X11_152 ci_X2 (by decide) hw (fun b hw sz => c_X2_post l D t G _ b z5 _ hw sz) dX11_sendLater_19 ⟨Nat.le_of_ble_eq_true rfl, Nat.le_of_ble_eq_true rfl⟩ rfl hl.1 (Nat.le_of_ble_eq_true rfl) rfl (fun κ6 H locs cells slots hw hH => ?_)
  exact cw_retv hF hH ⟨rfl, rfl⟩ hr hlk dX11_sendLater_22 hw
set_option maxRecDepth 100000 in
def F_X11_wakeLocks (G : GE) (h : Nat) (post : CS → Prop) (κ : CS) : Prop := (h ∈ sL κ.1 ∧ sK κ.1 h = 1) ∧ ∀ z1 : Option Nat, z1 = sP κ.1 h 12 → ∃ b : Nat, z1 = some b ∧ (b ∈ sL κ.1 ∧ sK κ.1 b = 7) ∧ F_Jx4a65c_size_8abf5 G b  (fun (z3 : Int32) (κ2 : CS) => lc (fun (K6 : (Int32 × Int32) → CS → Prop) (x4 : Int32 × Int32) (κ5 : CS) => jc (fun (K10 : Unit → CS → Prop) => ((z3.toInt ≤ x4.1.toInt) → K10 () κ5) ∧ ((x4.1.toInt < z3.toInt) → (h ∈ sL κ5.1 ∧ sK κ5.1 h = 1) ∧ ∀ z13 : Option Nat, z13 = sP κ5.1 h 12 → ∃ b : Nat, z13 = some b ∧ (b ∈ sL κ5.1 ∧ sK κ5.1 b = 7) ∧ F_Jx4a65c_size_8abf5 G b  (fun (z15 : Int32) (κ14 : CS) => ((z15.toInt ≤ x4.2.toInt) → K10 () κ14) ∧ ((x4.2.toInt < z15.toInt) → (h ∈ sL κ14.1 ∧ sK κ14.1 h = 1) ∧ ∀ z16 : Option Nat, z16 = sP κ14.1 h 12 → ∃ b : Nat, z16 = some b ∧ (b ∈ sL κ14.1 ∧ sK κ14.1 b = 7) ∧ F_Jx4a65c_get_915e3 G b x4.2 (fun (z18 : Option Nat) (κ17 : CS) => (z18 = none ∨ ∃ b : Nat, z18 = some b ∧ b ∈ sL κ17.1 ∧ sK κ17.1 b = 8) ∧ ∃ b : Nat, z18 = some b ∧ (b ∈ sL κ17.1 ∧ sK κ17.1 b = 8) ∧ ∀ z19 : Option Nat, z19 = sP κ17.1 b 20 → jc (fun (K22 : Int32 → CS → Prop) => jc (fun (K28 : Unit → CS → Prop) => ((z19 = none) → K28 () κ17) ∧ ((¬ z19 = none) → (h ∈ sL κ17.1 ∧ sK κ17.1 h = 1) ∧ ∀ z32 : Option Nat, z32 = sP κ17.1 h 11 → ∃ b : Nat, z32 = some b ∧ (b ∈ sL κ17.1 ∧ sK κ17.1 b = 7) ∧ F_Jx4a65c_size_8abf5 G b  (fun (z34 : Int32) (κ33 : CS) => (((60 : Int32).toInt ≤ z34.toInt) → K28 () κ33) ∧ ((z34.toInt < (60 : Int32).toInt) → ∃ b : Nat, z18 = some b ∧ (b ∈ sL κ33.1 ∧ sK κ33.1 b = 8) ∧ ∀ z35 : Option Nat, z35 = sP κ33.1 b 20 → (h ∈ sL κ33.1 ∧ sK κ33.1 h = 1) ∧ F_X11_canBe G h z35 (fun (z37 : Int32) (κ36 : CS) => ((z37.toInt = 0) → K28 () κ36) ∧ ((¬ z37.toInt = 0) → (h ∈ sL κ36.1 ∧ sK κ36.1 h = 1) ∧ ∀ z38 : Option Nat, z38 = sP κ36.1 h 11 → ∃ b : Nat, z18 = some b ∧ (b ∈ sL κ36.1 ∧ sK κ36.1 b = 8) ∧ ∀ z39 : Option Nat, z39 = sP κ36.1 b 20 → ∃ b : Nat, z38 = some b ∧ (b ∈ sL κ36.1 ∧ sK κ36.1 b = 7) ∧ F_Jx4a65c_add_9ea2d G b z39 (fun (z41 : Int32) (κ40 : CS) => (h ∈ sL κ40.1 ∧ sK κ40.1 h = 1) ∧ ∀ z42 : Option Nat, z42 = sP κ40.1 h 12 → ∃ b : Nat, z42 = some b ∧ (b ∈ sL κ40.1 ∧ sK κ40.1 b = 7) ∧ F_Jx4a65c_remove_915e3 G b x4.2 (fun (z44 : Option Nat) (κ43 : CS) => (h ∈ sL κ43.1 ∧ sK κ43.1 h = 1) ∧ ∀ z45 : Option Nat, z45 = sP κ43.1 h 16 → ∃ b : Nat, z45 = some b ∧ (b ∈ sL κ43.1 ∧ sK κ43.1 b = 2) ∧ F_X6_begin G b 68 (fun (κ46 : CS) => (h ∈ sL κ46.1 ∧ sK κ46.1 h = 1) ∧ ∀ z48 : Option Nat, z48 = sP κ46.1 h 16 → ∃ b : Nat, z48 = some b ∧ (b ∈ sL κ46.1 ∧ sK κ46.1 b = 2) ∧ F_X6_put G b 64 2 4 (fun (κ49 : CS) => (h ∈ sL κ49.1 ∧ sK κ49.1 h = 1) ∧ F_X11_sendLater G h z18 0 (fun (κ51 : CS) => K22 x4.2 κ51) κ49) κ46) κ43) κ40) κ36)) κ33)) κ17)) (fun (x26 : Unit) (κ27 : CS) => ∀ z31 : Int32, z31 = x4.2 + 1 → K22 z31 κ27)) (fun (x20 : Int32) (κ21 : CS) => ∀ z25 : Int32, z25 = x4.1 + 1 → K6 (z25, x20) κ21)) κ14)) κ5)) (fun (x8 : Unit) (κ9 : CS) => post κ9)) (0, 0) κ2) κ
theorem dX11_wakeLocks_0 : decode cX11_wakeLocks 0 = .ok (.aload_n 0, 1) := by decide +kernel
theorem dX11_wakeLocks_1 : decode cX11_wakeLocks 1 = .ok (.getfield 58, 3) := by decide +kernel
theorem dX11_wakeLocks_4 : decode cX11_wakeLocks 4 = .ok (.invokevirtual 161, 3) := by decide +kernel
theorem dX11_wakeLocks_7 : decode cX11_wakeLocks 7 = .ok (.istore_n 1, 1) := by decide +kernel
theorem dX11_wakeLocks_8 : decode cX11_wakeLocks 8 = .ok (.iconst 0, 1) := by decide +kernel
theorem dX11_wakeLocks_9 : decode cX11_wakeLocks 9 = .ok (.istore_n 2, 1) := by decide +kernel
theorem dX11_wakeLocks_10 : decode cX11_wakeLocks 10 = .ok (.iconst 0, 1) := by decide +kernel
theorem dX11_wakeLocks_11 : decode cX11_wakeLocks 11 = .ok (.istore_n 3, 1) := by decide +kernel
theorem dX11_wakeLocks_12 : decode cX11_wakeLocks 12 = .ok (.iload_n 3, 1) := by decide +kernel
theorem dX11_wakeLocks_13 : decode cX11_wakeLocks 13 = .ok (.iload_n 1, 1) := by decide +kernel
theorem dX11_wakeLocks_14 : decode cX11_wakeLocks 14 = .ok (.if_icmp .ge 122, 3) := by decide +kernel
theorem dX11_wakeLocks_17 : decode cX11_wakeLocks 17 = .ok (.iload_n 2, 1) := by decide +kernel
theorem dX11_wakeLocks_18 : decode cX11_wakeLocks 18 = .ok (.aload_n 0, 1) := by decide +kernel
theorem dX11_wakeLocks_19 : decode cX11_wakeLocks 19 = .ok (.getfield 58, 3) := by decide +kernel
theorem dX11_wakeLocks_22 : decode cX11_wakeLocks 22 = .ok (.invokevirtual 161, 3) := by decide +kernel
theorem dX11_wakeLocks_25 : decode cX11_wakeLocks 25 = .ok (.if_icmp .ge 111, 3) := by decide +kernel
theorem dX11_wakeLocks_28 : decode cX11_wakeLocks 28 = .ok (.aload_n 0, 1) := by decide +kernel
theorem dX11_wakeLocks_29 : decode cX11_wakeLocks 29 = .ok (.getfield 58, 3) := by decide +kernel
theorem dX11_wakeLocks_32 : decode cX11_wakeLocks 32 = .ok (.iload_n 2, 1) := by decide +kernel
theorem dX11_wakeLocks_33 : decode cX11_wakeLocks 33 = .ok (.invokevirtual 164, 3) := by decide +kernel
theorem dX11_wakeLocks_36 : decode cX11_wakeLocks 36 = .ok (.checkcast 264, 3) := by decide +kernel
theorem dX11_wakeLocks_39 : decode cX11_wakeLocks 39 = .ok (.astore 4, 2) := by decide +kernel
theorem dX11_wakeLocks_41 : decode cX11_wakeLocks 41 = .ok (.aload 4, 2) := by decide +kernel
theorem dX11_wakeLocks_43 : decode cX11_wakeLocks 43 = .ok (.getfield 533, 3) := by decide +kernel
theorem dX11_wakeLocks_46 : decode cX11_wakeLocks 46 = .ok (.ifnull 81, 3) := by decide +kernel
theorem dX11_wakeLocks_49 : decode cX11_wakeLocks 49 = .ok (.aload_n 0, 1) := by decide +kernel
theorem dX11_wakeLocks_50 : decode cX11_wakeLocks 50 = .ok (.getfield 55, 3) := by decide +kernel
theorem dX11_wakeLocks_53 : decode cX11_wakeLocks 53 = .ok (.invokevirtual 161, 3) := by decide +kernel
theorem dX11_wakeLocks_56 : decode cX11_wakeLocks 56 = .ok (.bipush 60, 2) := by decide +kernel
theorem dX11_wakeLocks_58 : decode cX11_wakeLocks 58 = .ok (.if_icmp .ge 69, 3) := by decide +kernel
theorem dX11_wakeLocks_61 : decode cX11_wakeLocks 61 = .ok (.aload_n 0, 1) := by decide +kernel
theorem dX11_wakeLocks_62 : decode cX11_wakeLocks 62 = .ok (.aload 4, 2) := by decide +kernel
theorem dX11_wakeLocks_64 : decode cX11_wakeLocks 64 = .ok (.getfield 533, 3) := by decide +kernel
theorem dX11_wakeLocks_67 : decode cX11_wakeLocks 67 = .ok (.invokevirtual 536, 3) := by decide +kernel
theorem dX11_wakeLocks_70 : decode cX11_wakeLocks 70 = .ok (.ifCond .eq 57, 3) := by decide +kernel
theorem dX11_wakeLocks_73 : decode cX11_wakeLocks 73 = .ok (.aload_n 0, 1) := by decide +kernel
theorem dX11_wakeLocks_74 : decode cX11_wakeLocks 74 = .ok (.getfield 55, 3) := by decide +kernel
theorem dX11_wakeLocks_77 : decode cX11_wakeLocks 77 = .ok (.aload 4, 2) := by decide +kernel
theorem dX11_wakeLocks_79 : decode cX11_wakeLocks 79 = .ok (.getfield 533, 3) := by decide +kernel
theorem dX11_wakeLocks_82 : decode cX11_wakeLocks 82 = .ok (.invokevirtual 488, 3) := by decide +kernel
theorem dX11_wakeLocks_85 : decode cX11_wakeLocks 85 = .ok (.pop, 1) := by decide +kernel
theorem dX11_wakeLocks_86 : decode cX11_wakeLocks 86 = .ok (.aload_n 0, 1) := by decide +kernel
theorem dX11_wakeLocks_87 : decode cX11_wakeLocks 87 = .ok (.getfield 58, 3) := by decide +kernel
theorem dX11_wakeLocks_90 : decode cX11_wakeLocks 90 = .ok (.iload_n 2, 1) := by decide +kernel
theorem dX11_wakeLocks_91 : decode cX11_wakeLocks 91 = .ok (.invokevirtual 496, 3) := by decide +kernel
theorem dX11_wakeLocks_94 : decode cX11_wakeLocks 94 = .ok (.pop, 1) := by decide +kernel
theorem dX11_wakeLocks_95 : decode cX11_wakeLocks 95 = .ok (.aload_n 0, 1) := by decide +kernel
theorem dX11_wakeLocks_96 : decode cX11_wakeLocks 96 = .ok (.getfield 71, 3) := by decide +kernel
theorem dX11_wakeLocks_99 : decode cX11_wakeLocks 99 = .ok (.bipush 68, 2) := by decide +kernel
theorem dX11_wakeLocks_101 : decode cX11_wakeLocks 101 = .ok (.invokevirtual 262, 3) := by decide +kernel
theorem dX11_wakeLocks_104 : decode cX11_wakeLocks 104 = .ok (.aload_n 0, 1) := by decide +kernel
theorem dX11_wakeLocks_105 : decode cX11_wakeLocks 105 = .ok (.getfield 71, 3) := by decide +kernel
theorem dX11_wakeLocks_108 : decode cX11_wakeLocks 108 = .ok (.bipush 64, 2) := by decide +kernel
theorem dX11_wakeLocks_110 : decode cX11_wakeLocks 110 = .ok (.iconst 2, 1) := by decide +kernel
theorem dX11_wakeLocks_111 : decode cX11_wakeLocks 111 = .ok (.ldc2_w 481, 3) := by decide +kernel
theorem dX11_wakeLocks_114 : decode cX11_wakeLocks 114 = .ok (.invokevirtual 349, 3) := by decide +kernel
theorem dX11_wakeLocks_117 : decode cX11_wakeLocks 117 = .ok (.aload_n 0, 1) := by decide +kernel
theorem dX11_wakeLocks_118 : decode cX11_wakeLocks 118 = .ok (.aload 4, 2) := by decide +kernel
theorem dX11_wakeLocks_120 : decode cX11_wakeLocks 120 = .ok (.iconst 0, 1) := by decide +kernel
theorem dX11_wakeLocks_121 : decode cX11_wakeLocks 121 = .ok (.invokevirtual 500, 3) := by decide +kernel
theorem dX11_wakeLocks_124 : decode cX11_wakeLocks 124 = .ok (.goto 6, 3) := by decide +kernel
theorem dX11_wakeLocks_127 : decode cX11_wakeLocks 127 = .ok (.iinc 2 1, 3) := by decide +kernel
theorem dX11_wakeLocks_130 : decode cX11_wakeLocks 130 = .ok (.iinc 3 1, 3) := by decide +kernel
theorem dX11_wakeLocks_133 : decode cX11_wakeLocks 133 = .ok (.goto (-121), 3) := by decide +kernel
theorem dX11_wakeLocks_136 : decode cX11_wakeLocks 136 = .ok (.return_, 1) := by decide +kernel
set_option maxRecDepth 100000 in
set_option maxHeartbeats 4000000 in
theorem c_X11_wakeLocks (l : Launch) (D : va_G) (t : Nat → ClassId) (G : GE) (κ : CS) (h : Nat) (post : CS → Prop) (hw : F_X11_wakeLocks G h post κ) (sz : Nat) : CMv l D t yX11_wakeLocks cX11_wakeLocks 5 7 171 G κ sz [.ref h] post := by
  refine c_go (by decide) (Nat.le_of_ble_eq_true rfl) ?_
  intro p e s m below meth c ls A hF hr hlk hin hAe hH hA hE hl
  unfold cB
  rw [hAe]
  clear hAe
  have hF : FX p m c cX11_wakeLocks 5 s _ RX11 D t := hF
  have hx := hF.1.1
  have hb := hF.1.2.1
  have hl : lv_has ls 5 [(0, .ref h)] := hl
  unfold F_X11_wakeLocks at hw
  refine lv_aload_n hx hb dX11_wakeLocks_0 rfl (lv_at hl 0 rfl) ?_
  refine cw_getPr (a := h) hF hH fk_X11_58 dX11_wakeLocks_1 hw (fun z1 hw => ?_)
  refine cw_cViq (q := z1) (As := []) (rest := []) hF hH hA hE mv_X11_161 ci_Jx4a65c (by decide) hw (fun b hw sz => c_Jx4a65c_size_8abf5 l D t G _ b  _ hw sz) dX11_wakeLocks_4 ⟨Nat.le_of_ble_eq_true rfl, Nat.le_of_ble_eq_true rfl⟩ rfl hl.1 (Nat.le_of_ble_eq_true rfl) rfl (fun z3 κ2 H locs cells slots hw hH => ?_)
  refine lv_istore_n (lv' := [(1, .int z3), (0, .ref h)]) hx hb dX11_wakeLocks_7 rfl hl (by decide) rfl (fun ls hl => ?_)
  refine lv_iconst (v := 0) hx hb dX11_wakeLocks_8 (by decide) ?_
  refine lv_istore_n (lv' := [(2, .int 0), (1, .int z3), (0, .ref h)]) hx hb dX11_wakeLocks_9 rfl hl (by decide) rfl (fun ls hl => ?_)
  refine lv_iconst (v := 0) hx hb dX11_wakeLocks_10 (by decide) ?_
  refine lv_istore_n (lv' := [(3, .int 0), (2, .int 0), (1, .int z3), (0, .ref h)]) hx hb dX11_wakeLocks_11 rfl hl (by decide) rfl (fun ls hl => ?_)
  refine cw_loop (β := Int32 × Int32) (fun x4 => [(3, .int x4.1), (2, .int x4.2), (1, .int z3), (0, .ref h)]) (0, 0) hl hw hH (fun K6 x4 κ5 ls H locs cells slots hl hw hH ih7 => ?_)
  have hl : lv_has ls 5 [(3, .int x4.1), (2, .int x4.2), (1, .int z3), (0, .ref h)] := hl
  refine lv_iload_n hx hb dX11_wakeLocks_12 rfl (lv_at hl 0 rfl) ?_
  refine lv_iload_n hx hb dX11_wakeLocks_13 rfl (lv_at hl 2 rfl) ?_
  obtain ⟨K10, hK11, hw⟩ := jc_open hw
  refine cw_join (K := K10) 136 (fun (x8 : Unit) => []) (fun (x8 : Unit) => []) hl hH (fun x8 κ9 ls H locs cells slots hl hw hH => ?_) (fun jn12 => ?_)
  · have hw := hK11 x8 κ9 hw
    have hl : lv_has ls 5 [] := hl
    exact cw_retv hF hH ⟨rfl, rfl⟩ hr hlk dX11_wakeLocks_136 hw
  · skip
    refine w_icmp_ge (tgt := 136) hF dX11_wakeLocks_14 rfl hw (fun hw => ?_) (fun hw => ?_)
    · have hl : lv_has ls 5 [] := lv_sub hl [] rfl
      exact jn12 () κ5 ls _ _ _ _ hl hw hH
    · refine lv_iload_n hx hb dX11_wakeLocks_17 rfl (lv_at hl 1 rfl) ?_
      refine lv_aload_n hx hb dX11_wakeLocks_18 rfl (lv_at hl 3 rfl) ?_
      refine cw_getPr (a := h) hF hH fk_X11_58 dX11_wakeLocks_19 hw (fun z13 hw => ?_)
      refine cw_cViq (q := z13) (As := []) (rest := [.int x4.2]) hF hH hA hE mv_X11_161 ci_Jx4a65c (by decide) hw (fun b hw sz => c_Jx4a65c_size_8abf5 l D t G _ b  _ hw sz) dX11_wakeLocks_22 ⟨Nat.le_of_ble_eq_true rfl, Nat.le_of_ble_eq_true rfl⟩ rfl hl.1 (Nat.le_of_ble_eq_true rfl) rfl (fun z15 κ14 H locs cells slots hw hH => ?_)
      refine w_icmp_ge (tgt := 136) hF dX11_wakeLocks_25 rfl hw (fun hw => ?_) (fun hw => ?_)
      · have hl : lv_has ls 5 [] := lv_sub hl [] rfl
        exact jn12 () κ14 ls _ _ _ _ hl hw hH
      · refine lv_aload_n hx hb dX11_wakeLocks_28 rfl (lv_at hl 3 rfl) ?_
        refine cw_getPr (a := h) hF hH fk_X11_58 dX11_wakeLocks_29 hw (fun z16 hw => ?_)
        refine lv_iload_n hx hb dX11_wakeLocks_32 rfl (lv_at hl 1 rfl) ?_
        refine cw_cVqq (q := z16) (As := [.int x4.2]) (rest := []) hF hH hA hE mv_X11_164 ci_Jx4a65c (by decide) hw (fun b hw sz => c_Jx4a65c_get_915e3 l D t G _ b x4.2 _ hw sz) dX11_wakeLocks_33 ⟨Nat.le_of_ble_eq_true rfl, Nat.le_of_ble_eq_true rfl⟩ rfl hl.1 (Nat.le_of_ble_eq_true rfl) rfl (fun z18 κ17 H locs cells slots hw hH => ?_)
        refine cw_cast (q := z18) hF hH ci_X0 (by decide) (wc_16 15 rfl) (by decide) dX11_wakeLocks_36 hw (fun hw => ?_)
        refine w_astoreq (lv' := [(4, va_rf z18), (3, .int x4.1), (2, .int x4.2), (1, .int z3), (0, .ref h)]) hF dX11_wakeLocks_39 hl (by decide) rfl (fun ls hl => ?_)
        refine w_aloadq hF dX11_wakeLocks_41 (lv_at hl 0 rfl) ?_
        refine cw_getP (q := z18) hF hH fk_X11_533 dX11_wakeLocks_43 hw (fun z19 hw => ?_)
        obtain ⟨K22, hK23, hw⟩ := jc_open hw
        refine cw_join (K := K22) 130 (fun (x20 : Int32) => [(3, .int x4.1), (2, .int x20), (1, .int z3), (0, .ref h)]) (fun (x20 : Int32) => []) hl hH (fun x20 κ21 ls H locs cells slots hl hw hH => ?_) (fun jn24 => ?_)
        · have hw := hK23 x20 κ21 hw
          have hl : lv_has ls 5 [(3, .int x4.1), (2, .int x20), (1, .int z3), (0, .ref h)] := hl
          obtain ⟨z25, ez25⟩ : ∃ z : Int32, z = x4.1 + 1 := ⟨_, rfl⟩
          have hw := hw z25 ez25
          refine lv_iinc (lv' := [(3, .int z25), (2, .int x20), (1, .int z3), (0, .ref h)]) (k := 0) (v := z25) hx hb dX11_wakeLocks_130 hl rfl ez25.symm (by decide) rfl (fun ls hl => ?_)
          refine lv_goto (tgt := 12) hx hb dX11_wakeLocks_133 rfl ?_
          exact ih7 (z25, x20) κ21 ls _ _ _ _ hl hw hH
        · skip
          obtain ⟨K28, hK29, hw⟩ := jc_open hw
          refine cw_join (K := K28) 127 (fun (x26 : Unit) => [(3, .int x4.1), (2, .int x4.2), (1, .int z3), (0, .ref h)]) (fun (x26 : Unit) => []) hl hH (fun x26 κ27 ls H locs cells slots hl hw hH => ?_) (fun jn30 => ?_)
          · have hw := hK29 x26 κ27 hw
            have hl : lv_has ls 5 [(3, .int x4.1), (2, .int x4.2), (1, .int z3), (0, .ref h)] := hl
            obtain ⟨z31, ez31⟩ : ∃ z : Int32, z = x4.2 + 1 := ⟨_, rfl⟩
            have hw := hw z31 ez31
            refine lv_iinc (lv' := [(2, .int z31), (3, .int x4.1), (1, .int z3), (0, .ref h)]) (k := 1) (v := z31) hx hb dX11_wakeLocks_127 hl rfl ez31.symm (by decide) rfl (fun ls hl => ?_)
            have hl : lv_has ls 5 [(3, .int x4.1), (2, .int z31), (1, .int z3), (0, .ref h)] := lv_sub hl [1, 0, 2, 3] rfl
            exact jn24 z31 κ27 ls _ _ _ _ hl hw hH
          · skip
            refine cw_ifnull (q := z19) (tgt := 127) hF dX11_wakeLocks_46 rfl hw (fun hw => ?_) (fun hw => ?_)
            · have hl : lv_has ls 5 [(3, .int x4.1), (2, .int x4.2), (1, .int z3), (0, .ref h)] := lv_sub hl [1, 2, 3, 4] rfl
              exact jn30 () κ17 ls _ _ _ _ hl hw hH
            · refine lv_aload_n hx hb dX11_wakeLocks_49 rfl (lv_at hl 4 rfl) ?_
              refine cw_getPr (a := h) hF hH fk_X11_55 dX11_wakeLocks_50 hw (fun z32 hw => ?_)
              refine cw_cViq (q := z32) (As := []) (rest := []) hF hH hA hE mv_X11_161 ci_Jx4a65c (by decide) hw (fun b hw sz => c_Jx4a65c_size_8abf5 l D t G _ b  _ hw sz) dX11_wakeLocks_53 ⟨Nat.le_of_ble_eq_true rfl, Nat.le_of_ble_eq_true rfl⟩ rfl hl.1 (Nat.le_of_ble_eq_true rfl) rfl (fun z34 κ33 H locs cells slots hw hH => ?_)
              refine lv_bipush (v := 60) hx hb dX11_wakeLocks_56 (by decide) ?_
              refine w_icmp_ge (tgt := 127) hF dX11_wakeLocks_58 rfl hw (fun hw => ?_) (fun hw => ?_)
              · have hl : lv_has ls 5 [(3, .int x4.1), (2, .int x4.2), (1, .int z3), (0, .ref h)] := lv_sub hl [1, 2, 3, 4] rfl
                exact jn30 () κ33 ls _ _ _ _ hl hw hH
              · refine lv_aload_n hx hb dX11_wakeLocks_61 rfl (lv_at hl 4 rfl) ?_
                refine w_aloadq hF dX11_wakeLocks_62 (lv_at hl 0 rfl) ?_
                refine cw_getP (q := z18) hF hH fk_X11_533 dX11_wakeLocks_64 hw (fun z35 hw => ?_)
                refine cw_cVi (b := h) (As := [va_rf z35]) (rest := []) hF hH hA hE mv_X11_536 ci_X11 (by decide) (fun sz => c_X11_canBe l D t G _ h z35 _ hw.2 sz) dX11_wakeLocks_67 hw.1 ⟨Nat.le_of_ble_eq_true rfl, Nat.le_of_ble_eq_true rfl⟩ rfl hl.1 (Nat.le_of_ble_eq_true rfl) rfl (fun z37 κ36 H locs cells slots hw hH => ?_)
                refine w_if_eq (tgt := 127) hF dX11_wakeLocks_70 rfl hw (fun hw => ?_) (fun hw => ?_)
                · have hl : lv_has ls 5 [(3, .int x4.1), (2, .int x4.2), (1, .int z3), (0, .ref h)] := lv_sub hl [1, 2, 3, 4] rfl
                  exact jn30 () κ36 ls _ _ _ _ hl hw hH
                · refine lv_aload_n hx hb dX11_wakeLocks_73 rfl (lv_at hl 4 rfl) ?_
                  refine cw_getPr (a := h) hF hH fk_X11_55 dX11_wakeLocks_74 hw (fun z38 hw => ?_)
                  refine w_aloadq hF dX11_wakeLocks_77 (lv_at hl 0 rfl) ?_
                  refine cw_getP (q := z18) hF hH fk_X11_533 dX11_wakeLocks_79 hw (fun z39 hw => ?_)
                  refine cw_cViq (q := z38) (As := [va_rf z39]) (rest := []) hF hH hA hE mv_X11_488 ci_Jx4a65c (by decide) hw (fun b hw sz => c_Jx4a65c_add_9ea2d l D t G _ b z39 _ hw sz) dX11_wakeLocks_82 ⟨Nat.le_of_ble_eq_true rfl, Nat.le_of_ble_eq_true rfl⟩ rfl hl.1 (Nat.le_of_ble_eq_true rfl) rfl (fun z41 κ40 H locs cells slots hw hH => ?_)
                  refine lv_pop hx hb dX11_wakeLocks_85 rfl ?_
                  refine lv_aload_n hx hb dX11_wakeLocks_86 rfl (lv_at hl 4 rfl) ?_
                  refine cw_getPr (a := h) hF hH fk_X11_58 dX11_wakeLocks_87 hw (fun z42 hw => ?_)
                  refine lv_iload_n hx hb dX11_wakeLocks_90 rfl (lv_at hl 2 rfl) ?_
                  refine cw_cVqq (q := z42) (As := [.int x4.2]) (rest := []) hF hH hA hE mv_X11_496 ci_Jx4a65c (by decide) hw (fun b hw sz => c_Jx4a65c_remove_915e3 l D t G _ b x4.2 _ hw sz) dX11_wakeLocks_91 ⟨Nat.le_of_ble_eq_true rfl, Nat.le_of_ble_eq_true rfl⟩ rfl hl.1 (Nat.le_of_ble_eq_true rfl) rfl (fun z44 κ43 H locs cells slots hw hH => ?_)
                  refine lv_pop hx hb dX11_wakeLocks_94 (cat_rf _) ?_
                  refine lv_aload_n hx hb dX11_wakeLocks_95 rfl (lv_at hl 4 rfl) ?_
                  refine cw_getPr (a := h) hF hH fk_X11_71 dX11_wakeLocks_96 hw (fun z45 hw => ?_)
                  refine lv_bipush (v := 68) hx hb dX11_wakeLocks_99 (by decide) ?_
                  refine cw_cVvq (q := z45) (As := [.int 68]) (rest := []) hF hH hA hE mv_X11_262 ci_X6 (by decide) hw (fun b hw sz => c_X6_begin l D t G _ b 68 _ hw sz) dX11_wakeLocks_101 ⟨Nat.le_of_ble_eq_true rfl, Nat.le_of_ble_eq_true rfl⟩ rfl hl.1 (Nat.le_of_ble_eq_true rfl) rfl (fun κ46 H locs cells slots hw hH => ?_)
                  refine lv_aload_n hx hb dX11_wakeLocks_104 rfl (lv_at hl 4 rfl) ?_
                  refine cw_getPr (a := h) hF hH fk_X11_71 dX11_wakeLocks_105 hw (fun z48 hw => ?_)
                  refine lv_bipush (v := 64) hx hb dX11_wakeLocks_108 (by decide) ?_
                  refine lv_iconst (v := 2) hx hb dX11_wakeLocks_110 (by decide) ?_
                  refine lv_ldc2 (v := 4) hx hb hF.1.2.2.2.1 (hF.1.2.2.2.2 _ (wc_16 27 rfl)) dX11_wakeLocks_111 ?_
                  refine cw_cVvq (q := z48) (As := [.int 64, .int 2, .long 4]) (rest := []) hF hH hA hE mv_X11_349 ci_X6 (by decide) hw (fun b hw sz => c_X6_put l D t G _ b 64 2 4 _ hw sz) dX11_wakeLocks_114 ⟨Nat.le_of_ble_eq_true rfl, Nat.le_of_ble_eq_true rfl⟩ rfl hl.1 (Nat.le_of_ble_eq_true rfl) rfl (fun κ49 H locs cells slots hw hH => ?_)
                  refine lv_aload_n hx hb dX11_wakeLocks_117 rfl (lv_at hl 4 rfl) ?_
                  refine w_aloadq hF dX11_wakeLocks_118 (lv_at hl 0 rfl) ?_
                  refine lv_iconst (v := 0) hx hb dX11_wakeLocks_120 (by decide) ?_
                  refine cw_cVv (b := h) (As := [va_rf z18, .int 0]) (rest := []) hF hH hA hE mv_X11_500 ci_X11 (by decide) (fun sz => c_X11_sendLater l D t G _ h z18 0 _ hw.2 sz) dX11_wakeLocks_121 hw.1 ⟨Nat.le_of_ble_eq_true rfl, Nat.le_of_ble_eq_true rfl⟩ rfl hl.1 (Nat.le_of_ble_eq_true rfl) rfl (fun κ51 H locs cells slots hw hH => ?_)
                  refine lv_goto (tgt := 130) hx hb dX11_wakeLocks_124 rfl ?_
                  have hl : lv_has ls 5 [(3, .int x4.1), (2, .int x4.2), (1, .int z3), (0, .ref h)] := lv_sub hl [1, 2, 3, 4] rfl
                  exact jn24 x4.2 κ51 ls _ _ _ _ hl hw hH
set_option maxRecDepth 100000 in
def F_X11_nextAgain (G : GE) (h : Nat) (post : Option Nat → CS → Prop) (κ : CS) : Prop := lc (fun (K3 : Int32 → CS → Prop) (x1 : Int32) (κ2 : CS) => (h ∈ sL κ2.1 ∧ sK κ2.1 h = 1) ∧ ∀ z5 : Option Nat, z5 = sP κ2.1 h 12 → ∃ b : Nat, z5 = some b ∧ (b ∈ sL κ2.1 ∧ sK κ2.1 b = 7) ∧ F_Jx4a65c_size_8abf5 G b  (fun (z7 : Int32) (κ6 : CS) => ((z7.toInt ≤ x1.toInt) → post (none : Option Nat) κ6) ∧ ((x1.toInt < z7.toInt) → (h ∈ sL κ6.1 ∧ sK κ6.1 h = 1) ∧ ∀ z8 : Option Nat, z8 = sP κ6.1 h 12 → ∃ b : Nat, z8 = some b ∧ (b ∈ sL κ6.1 ∧ sK κ6.1 b = 7) ∧ F_Jx4a65c_get_915e3 G b x1 (fun (z10 : Option Nat) (κ9 : CS) => (z10 = none ∨ ∃ b : Nat, z10 = some b ∧ b ∈ sL κ9.1 ∧ sK κ9.1 b = 8) ∧ ∃ b : Nat, z10 = some b ∧ (b ∈ sL κ9.1 ∧ sK κ9.1 b = 8) ∧ ∀ z11 : Int32, z11 = sI κ9.1 b 19 → ((z11.toInt = 0) → ∀ z12 : Int32, z12 = x1 + 1 → K3 z12 κ9) ∧ ((¬ z11.toInt = 0) → (0 ≤ (0 : Int32).toInt ∧ (0 : Int32).toInt ≤ 1) ∧ ∃ b : Nat, z10 = some b ∧ (b ∈ sL κ9.1 ∧ sK κ9.1 b = 8) ∧ ∀ κ13 : CS, κ13 = (h_uI κ9.1 b 19 0, κ9.2) → post z10 κ13)) κ6)) κ2) 0 κ
theorem dX11_nextAgain_0 : decode cX11_nextAgain 0 = .ok (.iconst 0, 1) := by decide +kernel
theorem dX11_nextAgain_1 : decode cX11_nextAgain 1 = .ok (.istore_n 1, 1) := by decide +kernel
theorem dX11_nextAgain_2 : decode cX11_nextAgain 2 = .ok (.iload_n 1, 1) := by decide +kernel
theorem dX11_nextAgain_3 : decode cX11_nextAgain 3 = .ok (.aload_n 0, 1) := by decide +kernel
theorem dX11_nextAgain_4 : decode cX11_nextAgain 4 = .ok (.getfield 58, 3) := by decide +kernel
theorem dX11_nextAgain_7 : decode cX11_nextAgain 7 = .ok (.invokevirtual 161, 3) := by decide +kernel
theorem dX11_nextAgain_10 : decode cX11_nextAgain 10 = .ok (.if_icmp .ge 35, 3) := by decide +kernel
theorem dX11_nextAgain_13 : decode cX11_nextAgain 13 = .ok (.aload_n 0, 1) := by decide +kernel
theorem dX11_nextAgain_14 : decode cX11_nextAgain 14 = .ok (.getfield 58, 3) := by decide +kernel
theorem dX11_nextAgain_17 : decode cX11_nextAgain 17 = .ok (.iload_n 1, 1) := by decide +kernel
theorem dX11_nextAgain_18 : decode cX11_nextAgain 18 = .ok (.invokevirtual 164, 3) := by decide +kernel
theorem dX11_nextAgain_21 : decode cX11_nextAgain 21 = .ok (.checkcast 264, 3) := by decide +kernel
theorem dX11_nextAgain_24 : decode cX11_nextAgain 24 = .ok (.astore_n 2, 1) := by decide +kernel
theorem dX11_nextAgain_25 : decode cX11_nextAgain 25 = .ok (.aload_n 2, 1) := by decide +kernel
theorem dX11_nextAgain_26 : decode cX11_nextAgain 26 = .ok (.getfield 540, 3) := by decide +kernel
theorem dX11_nextAgain_29 : decode cX11_nextAgain 29 = .ok (.ifCond .eq 10, 3) := by decide +kernel
theorem dX11_nextAgain_32 : decode cX11_nextAgain 32 = .ok (.aload_n 2, 1) := by decide +kernel
theorem dX11_nextAgain_33 : decode cX11_nextAgain 33 = .ok (.iconst 0, 1) := by decide +kernel
theorem dX11_nextAgain_34 : decode cX11_nextAgain 34 = .ok (.putfield 540, 3) := by decide +kernel
theorem dX11_nextAgain_37 : decode cX11_nextAgain 37 = .ok (.aload_n 2, 1) := by decide +kernel
theorem dX11_nextAgain_38 : decode cX11_nextAgain 38 = .ok (.areturn, 1) := by decide +kernel
theorem dX11_nextAgain_39 : decode cX11_nextAgain 39 = .ok (.iinc 1 1, 3) := by decide +kernel
theorem dX11_nextAgain_42 : decode cX11_nextAgain 42 = .ok (.goto (-40), 3) := by decide +kernel
theorem dX11_nextAgain_45 : decode cX11_nextAgain 45 = .ok (.aconst_null, 1) := by decide +kernel
theorem dX11_nextAgain_46 : decode cX11_nextAgain 46 = .ok (.areturn, 1) := by decide +kernel
set_option maxRecDepth 100000 in
set_option maxHeartbeats 4000000 in
theorem c_X11_nextAgain (l : Launch) (D : va_G) (t : Nat → ClassId) (G : GE) (κ : CS) (h : Nat) (post : Option Nat → CS → Prop) (hw : F_X11_nextAgain G h post κ) (sz : Nat) : CMq l D t yX11_nextAgain cX11_nextAgain 3 (some (.object "ShareHouse$Asked")) 3 78 G κ sz [.ref h] post := by
  refine c_go (by decide) (Nat.le_of_ble_eq_true rfl) ?_
  intro p e s m below meth c ls A hF hr hlk hin hAe hH hA hE hl
  unfold cB
  rw [hAe]
  clear hAe
  have hF : FX p m c cX11_nextAgain 3 s _ RX11 D t := hF
  have hx := hF.1.1
  have hb := hF.1.2.1
  have hl : lv_has ls 3 [(0, .ref h)] := hl
  unfold F_X11_nextAgain at hw
  refine lv_iconst (v := 0) hx hb dX11_nextAgain_0 (by decide) ?_
  refine lv_istore_n (lv' := [(1, .int 0), (0, .ref h)]) hx hb dX11_nextAgain_1 rfl hl (by decide) rfl (fun ls hl => ?_)
  refine cw_loop (β := Int32) (fun x1 => [(1, .int x1), (0, .ref h)]) 0 hl hw hH (fun K3 x1 κ2 ls H locs cells slots hl hw hH ih4 => ?_)
  have hl : lv_has ls 3 [(1, .int x1), (0, .ref h)] := hl
  refine lv_iload_n hx hb dX11_nextAgain_2 rfl (lv_at hl 0 rfl) ?_
  refine lv_aload_n hx hb dX11_nextAgain_3 rfl (lv_at hl 1 rfl) ?_
  refine cw_getPr (a := h) hF hH fk_X11_58 dX11_nextAgain_4 hw (fun z5 hw => ?_)
  refine cw_cViq (q := z5) (As := []) (rest := [.int x1]) hF hH hA hE mv_X11_161 ci_Jx4a65c (by decide) hw (fun b hw sz => c_Jx4a65c_size_8abf5 l D t G _ b  _ hw sz) dX11_nextAgain_7 ⟨Nat.le_of_ble_eq_true rfl, Nat.le_of_ble_eq_true rfl⟩ rfl hl.1 (Nat.le_of_ble_eq_true rfl) rfl (fun z7 κ6 H locs cells slots hw hH => ?_)
  refine w_icmp_ge (tgt := 45) hF dX11_nextAgain_10 rfl hw (fun hw => ?_) (fun hw => ?_)
  · refine cw_null dX11_nextAgain_45 hF ?_
    exact cw_retq (v := (none : Option Nat)) hF hH ⟨rfl, rfl⟩ hr (by first | exact Or.inl ⟨_, rfl⟩ | exact Or.inr ⟨_, rfl⟩) hlk dX11_nextAgain_46 hw
  · refine lv_aload_n hx hb dX11_nextAgain_13 rfl (lv_at hl 1 rfl) ?_
    refine cw_getPr (a := h) hF hH fk_X11_58 dX11_nextAgain_14 hw (fun z8 hw => ?_)
    refine lv_iload_n hx hb dX11_nextAgain_17 rfl (lv_at hl 0 rfl) ?_
    refine cw_cVqq (q := z8) (As := [.int x1]) (rest := []) hF hH hA hE mv_X11_164 ci_Jx4a65c (by decide) hw (fun b hw sz => c_Jx4a65c_get_915e3 l D t G _ b x1 _ hw sz) dX11_nextAgain_18 ⟨Nat.le_of_ble_eq_true rfl, Nat.le_of_ble_eq_true rfl⟩ rfl hl.1 (Nat.le_of_ble_eq_true rfl) rfl (fun z10 κ9 H locs cells slots hw hH => ?_)
    refine cw_cast (q := z10) hF hH ci_X0 (by decide) (wc_16 15 rfl) (by decide) dX11_nextAgain_21 hw (fun hw => ?_)
    refine w_astoreq_n (lv' := [(2, va_rf z10), (1, .int x1), (0, .ref h)]) hF dX11_nextAgain_24 rfl hl (by decide) rfl (fun ls hl => ?_)
    refine w_aloadq_n hF dX11_nextAgain_25 rfl (lv_at hl 0 rfl) ?_
    refine cw_getI (q := z10) hF hH fk_X11_540 dX11_nextAgain_26 hw (fun z11 hw => ?_)
    refine w_if_eq (tgt := 39) hF dX11_nextAgain_29 rfl hw (fun hw => ?_) (fun hw => ?_)
    · obtain ⟨z12, ez12⟩ : ∃ z : Int32, z = x1 + 1 := ⟨_, rfl⟩
      have hw := hw z12 ez12
      refine lv_iinc (lv' := [(1, .int z12), (2, va_rf z10), (0, .ref h)]) (k := 1) (v := z12) hx hb dX11_nextAgain_39 hl rfl ez12.symm (by decide) rfl (fun ls hl => ?_)
      refine lv_goto (tgt := 2) hx hb dX11_nextAgain_42 rfl ?_
      have hl : lv_has ls 3 [(1, .int z12), (0, .ref h)] := lv_sub hl [0, 2] rfl
      exact ih4 z12 κ9 ls _ _ _ _ hl hw hH
    · refine w_aloadq_n hF dX11_nextAgain_32 rfl (lv_at hl 0 rfl) ?_
      refine lv_iconst (v := 0) hx hb dX11_nextAgain_33 (by decide) ?_
      refine cw_putZ (q := z10) (v := 0) hF hH fk_X11_540 dX11_nextAgain_34 rfl rfl hw (fun κ13 H locs cells slots hw hH => ?_)
      refine w_aloadq_n hF dX11_nextAgain_37 rfl (lv_at hl 0 rfl) ?_
      exact cw_retq (v := z10) hF hH ⟨rfl, rfl⟩ hr (by first | exact Or.inl ⟨_, rfl⟩ | exact Or.inr ⟨_, rfl⟩) hlk dX11_nextAgain_38 hw
set_option maxRecDepth 100000 in
def F_X11_firstEndingSession (G : GE) (h : Nat) (post : Int32 → CS → Prop) (κ : CS) : Prop := lc (fun (K3 : Int32 → CS → Prop) (x1 : Int32) (κ2 : CS) => (h ∈ sL κ2.1 ∧ sK κ2.1 h = 1) ∧ ∀ z5 : Option Nat, z5 = sP κ2.1 h 8 → ∃ b : Nat, z5 = some b ∧ (b ∈ sL κ2.1 ∧ sK κ2.1 b = 7) ∧ F_Jx4a65c_size_8abf5 G b  (fun (z7 : Int32) (κ6 : CS) => ((z7.toInt ≤ x1.toInt) → post (-1) κ6) ∧ ((x1.toInt < z7.toInt) → (h ∈ sL κ6.1 ∧ sK κ6.1 h = 1) ∧ ∀ z8 : Option Nat, z8 = sP κ6.1 h 8 → ∃ b : Nat, z8 = some b ∧ (b ∈ sL κ6.1 ∧ sK κ6.1 b = 7) ∧ F_Jx4a65c_get_915e3 G b x1 (fun (z10 : Option Nat) (κ9 : CS) => (z10 = none ∨ ∃ b : Nat, z10 = some b ∧ b ∈ sL κ9.1 ∧ sK κ9.1 b = 11) ∧ ∃ b : Nat, z10 = some b ∧ (b ∈ sL κ9.1 ∧ sK κ9.1 b = 11) ∧ ∀ z11 : Int32, z11 = sI κ9.1 b 4 → ((z11.toInt = 0) → ∀ z12 : Int32, z12 = x1 + 1 → K3 z12 κ9) ∧ ((¬ z11.toInt = 0) → post x1 κ9)) κ6)) κ2) 0 κ
theorem dX11_firstEndingSession_0 : decode cX11_firstEndingSession 0 = .ok (.iconst 0, 1) := by decide +kernel
theorem dX11_firstEndingSession_1 : decode cX11_firstEndingSession 1 = .ok (.istore_n 1, 1) := by decide +kernel
theorem dX11_firstEndingSession_2 : decode cX11_firstEndingSession 2 = .ok (.iload_n 1, 1) := by decide +kernel
theorem dX11_firstEndingSession_3 : decode cX11_firstEndingSession 3 = .ok (.aload_n 0, 1) := by decide +kernel
theorem dX11_firstEndingSession_4 : decode cX11_firstEndingSession 4 = .ok (.getfield 45, 3) := by decide +kernel
theorem dX11_firstEndingSession_7 : decode cX11_firstEndingSession 7 = .ok (.invokevirtual 161, 3) := by decide +kernel
theorem dX11_firstEndingSession_10 : decode cX11_firstEndingSession 10 = .ok (.if_icmp .ge 28, 3) := by decide +kernel
theorem dX11_firstEndingSession_13 : decode cX11_firstEndingSession 13 = .ok (.aload_n 0, 1) := by decide +kernel
theorem dX11_firstEndingSession_14 : decode cX11_firstEndingSession 14 = .ok (.getfield 45, 3) := by decide +kernel
theorem dX11_firstEndingSession_17 : decode cX11_firstEndingSession 17 = .ok (.iload_n 1, 1) := by decide +kernel
theorem dX11_firstEndingSession_18 : decode cX11_firstEndingSession 18 = .ok (.invokevirtual 164, 3) := by decide +kernel
theorem dX11_firstEndingSession_21 : decode cX11_firstEndingSession 21 = .ok (.checkcast 403, 3) := by decide +kernel
theorem dX11_firstEndingSession_24 : decode cX11_firstEndingSession 24 = .ok (.getfield 507, 3) := by decide +kernel
theorem dX11_firstEndingSession_27 : decode cX11_firstEndingSession 27 = .ok (.ifCond .eq 5, 3) := by decide +kernel
theorem dX11_firstEndingSession_30 : decode cX11_firstEndingSession 30 = .ok (.iload_n 1, 1) := by decide +kernel
theorem dX11_firstEndingSession_31 : decode cX11_firstEndingSession 31 = .ok (.ireturn, 1) := by decide +kernel
theorem dX11_firstEndingSession_32 : decode cX11_firstEndingSession 32 = .ok (.iinc 1 1, 3) := by decide +kernel
theorem dX11_firstEndingSession_35 : decode cX11_firstEndingSession 35 = .ok (.goto (-33), 3) := by decide +kernel
theorem dX11_firstEndingSession_38 : decode cX11_firstEndingSession 38 = .ok (.iconst (-1), 1) := by decide +kernel
theorem dX11_firstEndingSession_39 : decode cX11_firstEndingSession 39 = .ok (.ireturn, 1) := by decide +kernel
set_option maxRecDepth 100000 in
set_option maxHeartbeats 4000000 in
theorem c_X11_firstEndingSession (l : Launch) (D : va_G) (t : Nat → ClassId) (G : GE) (κ : CS) (h : Nat) (post : Int32 → CS → Prop) (hw : F_X11_firstEndingSession G h post κ) (sz : Nat) : CMi l D t yX11_firstEndingSession cX11_firstEndingSession 2 (some .int) 3 78 G κ sz [.ref h] post := by
  refine c_go (by decide) (Nat.le_of_ble_eq_true rfl) ?_
  intro p e s m below meth c ls A hF hr hlk hin hAe hH hA hE hl
  unfold cB
  rw [hAe]
  clear hAe
  have hF : FX p m c cX11_firstEndingSession 2 s _ RX11 D t := hF
  have hx := hF.1.1
  have hb := hF.1.2.1
  have hl : lv_has ls 2 [(0, .ref h)] := hl
  unfold F_X11_firstEndingSession at hw
  refine lv_iconst (v := 0) hx hb dX11_firstEndingSession_0 (by decide) ?_
  refine lv_istore_n (lv' := [(1, .int 0), (0, .ref h)]) hx hb dX11_firstEndingSession_1 rfl hl (by decide) rfl (fun ls hl => ?_)
  refine cw_loop (β := Int32) (fun x1 => [(1, .int x1), (0, .ref h)]) 0 hl hw hH (fun K3 x1 κ2 ls H locs cells slots hl hw hH ih4 => ?_)
  have hl : lv_has ls 2 [(1, .int x1), (0, .ref h)] := hl
  refine lv_iload_n hx hb dX11_firstEndingSession_2 rfl (lv_at hl 0 rfl) ?_
  refine lv_aload_n hx hb dX11_firstEndingSession_3 rfl (lv_at hl 1 rfl) ?_
  refine cw_getPr (a := h) hF hH fk_X11_45 dX11_firstEndingSession_4 hw (fun z5 hw => ?_)
  refine cw_cViq (q := z5) (As := []) (rest := [.int x1]) hF hH hA hE mv_X11_161 ci_Jx4a65c (by decide) hw (fun b hw sz => c_Jx4a65c_size_8abf5 l D t G _ b  _ hw sz) dX11_firstEndingSession_7 ⟨Nat.le_of_ble_eq_true rfl, Nat.le_of_ble_eq_true rfl⟩ rfl hl.1 (Nat.le_of_ble_eq_true rfl) rfl (fun z7 κ6 H locs cells slots hw hH => ?_)
  refine w_icmp_ge (tgt := 38) hF dX11_firstEndingSession_10 rfl hw (fun hw => ?_) (fun hw => ?_)
  · refine lv_iconst (v := (-1)) hx hb dX11_firstEndingSession_38 (by decide) ?_
    exact cw_reti hF hH ⟨rfl, rfl⟩ hr rfl hlk dX11_firstEndingSession_39 hw
  · refine lv_aload_n hx hb dX11_firstEndingSession_13 rfl (lv_at hl 1 rfl) ?_
    refine cw_getPr (a := h) hF hH fk_X11_45 dX11_firstEndingSession_14 hw (fun z8 hw => ?_)
    refine lv_iload_n hx hb dX11_firstEndingSession_17 rfl (lv_at hl 0 rfl) ?_
    refine cw_cVqq (q := z8) (As := [.int x1]) (rest := []) hF hH hA hE mv_X11_164 ci_Jx4a65c (by decide) hw (fun b hw sz => c_Jx4a65c_get_915e3 l D t G _ b x1 _ hw sz) dX11_firstEndingSession_18 ⟨Nat.le_of_ble_eq_true rfl, Nat.le_of_ble_eq_true rfl⟩ rfl hl.1 (Nat.le_of_ble_eq_true rfl) rfl (fun z10 κ9 H locs cells slots hw hH => ?_)
    refine cw_cast (q := z10) hF hH ci_X7 (by decide) (wc_16 25 rfl) (by decide) dX11_firstEndingSession_21 hw (fun hw => ?_)
    refine cw_getI (q := z10) hF hH fk_X11_507 dX11_firstEndingSession_24 hw (fun z11 hw => ?_)
    refine w_if_eq (tgt := 32) hF dX11_firstEndingSession_27 rfl hw (fun hw => ?_) (fun hw => ?_)
    · obtain ⟨z12, ez12⟩ : ∃ z : Int32, z = x1 + 1 := ⟨_, rfl⟩
      have hw := hw z12 ez12
      refine lv_iinc (lv' := [(1, .int z12), (0, .ref h)]) (k := 0) (v := z12) hx hb dX11_firstEndingSession_32 hl rfl ez12.symm (by decide) rfl (fun ls hl => ?_)
      refine lv_goto (tgt := 2) hx hb dX11_firstEndingSession_35 rfl ?_
      exact ih4 z12 κ9 ls _ _ _ _ hl hw hH
    · refine lv_iload_n hx hb dX11_firstEndingSession_30 rfl (lv_at hl 0 rfl) ?_
      exact cw_reti hF hH ⟨rfl, rfl⟩ hr rfl hlk dX11_firstEndingSession_31 hw
set_option maxRecDepth 100000 in
def F_X11_firstEndingTree (G : GE) (h : Nat) (a1 : Option Nat) (post : Int32 → CS → Prop) (κ : CS) : Prop := lc (fun (K3 : Int32 → CS → Prop) (x1 : Int32) (κ2 : CS) => (h ∈ sL κ2.1 ∧ sK κ2.1 h = 1) ∧ ∀ z5 : Option Nat, z5 = sP κ2.1 h 9 → ∃ b : Nat, z5 = some b ∧ (b ∈ sL κ2.1 ∧ sK κ2.1 b = 7) ∧ F_Jx4a65c_size_8abf5 G b  (fun (z7 : Int32) (κ6 : CS) => ((z7.toInt ≤ x1.toInt) → post (-1) κ6) ∧ ((x1.toInt < z7.toInt) → (h ∈ sL κ6.1 ∧ sK κ6.1 h = 1) ∧ ∀ z8 : Option Nat, z8 = sP κ6.1 h 9 → ∃ b : Nat, z8 = some b ∧ (b ∈ sL κ6.1 ∧ sK κ6.1 b = 7) ∧ F_Jx4a65c_get_915e3 G b x1 (fun (z10 : Option Nat) (κ9 : CS) => (z10 = none ∨ ∃ b : Nat, z10 = some b ∧ b ∈ sL κ9.1 ∧ sK κ9.1 b = 12) ∧ ∃ b : Nat, z10 = some b ∧ (b ∈ sL κ9.1 ∧ sK κ9.1 b = 12) ∧ ∀ z11 : Int32, z11 = sI κ9.1 b 3 → jc (fun (K14 : Unit → CS → Prop) => ((¬ z11.toInt = 0) → K14 () κ9) ∧ ((z11.toInt = 0) → jc (fun (K19 : Unit → CS → Prop) => ((a1 = none) → K19 () κ9) ∧ ((¬ a1 = none) → ∃ b : Nat, z10 = some b ∧ (b ∈ sL κ9.1 ∧ sK κ9.1 b = 12) ∧ ∀ z23 : Option Nat, z23 = sP κ9.1 b 1 → ((¬ z23 = a1) → K19 () κ9) ∧ ((z23 = a1) → K14 () κ9))) (fun (x17 : Unit) (κ18 : CS) => ∀ z22 : Int32, z22 = x1 + 1 → K3 z22 κ18))) (fun (x12 : Unit) (κ13 : CS) => post x1 κ13)) κ6)) κ2) 0 κ
theorem dX11_firstEndingTree_0 : decode cX11_firstEndingTree 0 = .ok (.iconst 0, 1) := by decide +kernel
theorem dX11_firstEndingTree_1 : decode cX11_firstEndingTree 1 = .ok (.istore_n 2, 1) := by decide +kernel
theorem dX11_firstEndingTree_2 : decode cX11_firstEndingTree 2 = .ok (.iload_n 2, 1) := by decide +kernel
theorem dX11_firstEndingTree_3 : decode cX11_firstEndingTree 3 = .ok (.aload_n 0, 1) := by decide +kernel
theorem dX11_firstEndingTree_4 : decode cX11_firstEndingTree 4 = .ok (.getfield 49, 3) := by decide +kernel
theorem dX11_firstEndingTree_7 : decode cX11_firstEndingTree 7 = .ok (.invokevirtual 161, 3) := by decide +kernel
theorem dX11_firstEndingTree_10 : decode cX11_firstEndingTree 10 = .ok (.if_icmp .ge 42, 3) := by decide +kernel
theorem dX11_firstEndingTree_13 : decode cX11_firstEndingTree 13 = .ok (.aload_n 0, 1) := by decide +kernel
theorem dX11_firstEndingTree_14 : decode cX11_firstEndingTree 14 = .ok (.getfield 49, 3) := by decide +kernel
theorem dX11_firstEndingTree_17 : decode cX11_firstEndingTree 17 = .ok (.iload_n 2, 1) := by decide +kernel
theorem dX11_firstEndingTree_18 : decode cX11_firstEndingTree 18 = .ok (.invokevirtual 164, 3) := by decide +kernel
theorem dX11_firstEndingTree_21 : decode cX11_firstEndingTree 21 = .ok (.checkcast 407, 3) := by decide +kernel
theorem dX11_firstEndingTree_24 : decode cX11_firstEndingTree 24 = .ok (.astore_n 3, 1) := by decide +kernel
theorem dX11_firstEndingTree_25 : decode cX11_firstEndingTree 25 = .ok (.aload_n 3, 1) := by decide +kernel
theorem dX11_firstEndingTree_26 : decode cX11_firstEndingTree 26 = .ok (.getfield 557, 3) := by decide +kernel
theorem dX11_firstEndingTree_29 : decode cX11_firstEndingTree 29 = .ok (.ifCond .ne 15, 3) := by decide +kernel
theorem dX11_firstEndingTree_32 : decode cX11_firstEndingTree 32 = .ok (.aload_n 1, 1) := by decide +kernel
theorem dX11_firstEndingTree_33 : decode cX11_firstEndingTree 33 = .ok (.ifnull 13, 3) := by decide +kernel
theorem dX11_firstEndingTree_36 : decode cX11_firstEndingTree 36 = .ok (.aload_n 3, 1) := by decide +kernel
theorem dX11_firstEndingTree_37 : decode cX11_firstEndingTree 37 = .ok (.getfield 410, 3) := by decide +kernel
theorem dX11_firstEndingTree_40 : decode cX11_firstEndingTree 40 = .ok (.aload_n 1, 1) := by decide +kernel
theorem dX11_firstEndingTree_41 : decode cX11_firstEndingTree 41 = .ok (.if_acmp .ne 5, 3) := by decide +kernel
theorem dX11_firstEndingTree_44 : decode cX11_firstEndingTree 44 = .ok (.iload_n 2, 1) := by decide +kernel
theorem dX11_firstEndingTree_45 : decode cX11_firstEndingTree 45 = .ok (.ireturn, 1) := by decide +kernel
theorem dX11_firstEndingTree_46 : decode cX11_firstEndingTree 46 = .ok (.iinc 2 1, 3) := by decide +kernel
theorem dX11_firstEndingTree_49 : decode cX11_firstEndingTree 49 = .ok (.goto (-47), 3) := by decide +kernel
theorem dX11_firstEndingTree_52 : decode cX11_firstEndingTree 52 = .ok (.iconst (-1), 1) := by decide +kernel
theorem dX11_firstEndingTree_53 : decode cX11_firstEndingTree 53 = .ok (.ireturn, 1) := by decide +kernel
set_option maxRecDepth 100000 in
set_option maxHeartbeats 4000000 in
theorem c_X11_firstEndingTree (l : Launch) (D : va_G) (t : Nat → ClassId) (G : GE) (κ : CS) (h : Nat) (a1 : Option Nat) (post : Int32 → CS → Prop) (hw : F_X11_firstEndingTree G h a1 post κ) (sz : Nat) : CMi l D t yX11_firstEndingTree cX11_firstEndingTree 4 (some .int) 3 78 G κ sz [.ref h, va_rf a1] post := by
  refine c_go (by decide) (by cases a1 <;> exact Nat.le_of_ble_eq_true rfl) ?_
  intro p e s m below meth c ls A hF hr hlk hin hAe hH hA hE hl
  unfold cB
  rw [hAe]
  clear hAe
  have hF : FX p m c cX11_firstEndingTree 4 s _ RX11 D t := hF
  have hx := hF.1.1
  have hb := hF.1.2.1
  have hl : lv_has ls 4 [(0, .ref h), (1, va_rf a1)] := (by have h2 := hl; clear hw; revert h2; cases a1 <;> exact id)
  unfold F_X11_firstEndingTree at hw
  refine lv_iconst (v := 0) hx hb dX11_firstEndingTree_0 (by decide) ?_
  refine lv_istore_n (lv' := [(2, .int 0), (0, .ref h), (1, va_rf a1)]) hx hb dX11_firstEndingTree_1 rfl hl (by decide) (by generalize a1 = y; cases y <;> rfl) (fun ls hl => ?_)
  have hl : lv_has ls 4 [(2, .int 0), (1, va_rf a1), (0, .ref h)] := lv_sub hl [0, 2, 1] rfl
  refine cw_loop (β := Int32) (fun x1 => [(2, .int x1), (1, va_rf a1), (0, .ref h)]) 0 hl hw hH (fun K3 x1 κ2 ls H locs cells slots hl hw hH ih4 => ?_)
  have hl : lv_has ls 4 [(2, .int x1), (1, va_rf a1), (0, .ref h)] := hl
  refine lv_iload_n hx hb dX11_firstEndingTree_2 rfl (lv_at hl 0 rfl) ?_
  refine lv_aload_n hx hb dX11_firstEndingTree_3 rfl (lv_at hl 2 rfl) ?_
  refine cw_getPr (a := h) hF hH fk_X11_49 dX11_firstEndingTree_4 hw (fun z5 hw => ?_)
  refine cw_cViq (q := z5) (As := []) (rest := [.int x1]) hF hH hA hE mv_X11_161 ci_Jx4a65c (by decide) hw (fun b hw sz => c_Jx4a65c_size_8abf5 l D t G _ b  _ hw sz) dX11_firstEndingTree_7 ⟨Nat.le_of_ble_eq_true rfl, Nat.le_of_ble_eq_true rfl⟩ rfl hl.1 (Nat.le_of_ble_eq_true rfl) rfl (fun z7 κ6 H locs cells slots hw hH => ?_)
  refine w_icmp_ge (tgt := 52) hF dX11_firstEndingTree_10 rfl hw (fun hw => ?_) (fun hw => ?_)
  · refine lv_iconst (v := (-1)) hx hb dX11_firstEndingTree_52 (by decide) ?_
    exact cw_reti hF hH ⟨rfl, rfl⟩ hr rfl hlk dX11_firstEndingTree_53 hw
  · refine lv_aload_n hx hb dX11_firstEndingTree_13 rfl (lv_at hl 2 rfl) ?_
    refine cw_getPr (a := h) hF hH fk_X11_49 dX11_firstEndingTree_14 hw (fun z8 hw => ?_)
    refine lv_iload_n hx hb dX11_firstEndingTree_17 rfl (lv_at hl 0 rfl) ?_
    refine cw_cVqq (q := z8) (As := [.int x1]) (rest := []) hF hH hA hE mv_X11_164 ci_Jx4a65c (by decide) hw (fun b hw sz => c_Jx4a65c_get_915e3 l D t G _ b x1 _ hw sz) dX11_firstEndingTree_18 ⟨Nat.le_of_ble_eq_true rfl, Nat.le_of_ble_eq_true rfl⟩ rfl hl.1 (Nat.le_of_ble_eq_true rfl) rfl (fun z10 κ9 H locs cells slots hw hH => ?_)
    refine cw_cast (q := z10) hF hH ci_X8 (by decide) (wc_16 26 rfl) (by decide) dX11_firstEndingTree_21 hw (fun hw => ?_)
    refine w_astoreq_n (lv' := [(3, va_rf z10), (2, .int x1), (1, va_rf a1), (0, .ref h)]) hF dX11_firstEndingTree_24 rfl hl (by decide) rfl (fun ls hl => ?_)
    refine w_aloadq_n hF dX11_firstEndingTree_25 rfl (lv_at hl 0 rfl) ?_
    refine cw_getI (q := z10) hF hH fk_X11_557 dX11_firstEndingTree_26 hw (fun z11 hw => ?_)
    obtain ⟨K14, hK15, hw⟩ := jc_open hw
    refine cw_join (K := K14) 44 (fun (x12 : Unit) => [(2, .int x1)]) (fun (x12 : Unit) => []) hl hH (fun x12 κ13 ls H locs cells slots hl hw hH => ?_) (fun jn16 => ?_)
    · have hw := hK15 x12 κ13 hw
      have hl : lv_has ls 4 [(2, .int x1)] := hl
      refine lv_iload_n hx hb dX11_firstEndingTree_44 rfl (lv_at hl 0 rfl) ?_
      exact cw_reti hF hH ⟨rfl, rfl⟩ hr rfl hlk dX11_firstEndingTree_45 hw
    · skip
      refine w_if_ne (tgt := 44) hF dX11_firstEndingTree_29 rfl hw (fun hw => ?_) (fun hw => ?_)
      · have hl : lv_has ls 4 [(2, .int x1)] := lv_sub hl [1] rfl
        exact jn16 () κ9 ls _ _ _ _ hl hw hH
      · refine w_aloadq_n hF dX11_firstEndingTree_32 rfl (lv_at hl 2 rfl) ?_
        obtain ⟨K19, hK20, hw⟩ := jc_open hw
        refine cw_join (K := K19) 46 (fun (x17 : Unit) => [(2, .int x1), (1, va_rf a1), (0, .ref h)]) (fun (x17 : Unit) => []) hl hH (fun x17 κ18 ls H locs cells slots hl hw hH => ?_) (fun jn21 => ?_)
        · have hw := hK20 x17 κ18 hw
          have hl : lv_has ls 4 [(2, .int x1), (1, va_rf a1), (0, .ref h)] := hl
          obtain ⟨z22, ez22⟩ : ∃ z : Int32, z = x1 + 1 := ⟨_, rfl⟩
          have hw := hw z22 ez22
          refine lv_iinc (lv' := [(2, .int z22), (1, va_rf a1), (0, .ref h)]) (k := 0) (v := z22) hx hb dX11_firstEndingTree_46 hl rfl ez22.symm (by decide) (by generalize a1 = y; cases y <;> rfl) (fun ls hl => ?_)
          refine lv_goto (tgt := 2) hx hb dX11_firstEndingTree_49 rfl ?_
          exact ih4 z22 κ18 ls _ _ _ _ hl hw hH
        · skip
          refine cw_ifnull (q := a1) (tgt := 46) hF dX11_firstEndingTree_33 rfl hw (fun hw => ?_) (fun hw => ?_)
          · have hl : lv_has ls 4 [(2, .int x1), (1, va_rf a1), (0, .ref h)] := lv_sub hl [1, 2, 3] rfl
            exact jn21 () κ9 ls _ _ _ _ hl hw hH
          · refine w_aloadq_n hF dX11_firstEndingTree_36 rfl (lv_at hl 0 rfl) ?_
            refine cw_getP (q := z10) hF hH fk_X11_410 dX11_firstEndingTree_37 hw (fun z23 hw => ?_)
            refine w_aloadq_n hF dX11_firstEndingTree_40 rfl (lv_at hl 2 rfl) ?_
            refine cw_acmp_ne (rx := z23) (ry := a1) (tgt := 46) hF dX11_firstEndingTree_41 rfl hw (fun hw => ?_) (fun hw => ?_)
            · have hl : lv_has ls 4 [(2, .int x1), (1, va_rf a1), (0, .ref h)] := lv_sub hl [1, 2, 3] rfl
              exact jn21 () κ9 ls _ _ _ _ hl hw hH
            · have hl : lv_has ls 4 [(2, .int x1)] := lv_sub hl [1] rfl
              exact jn16 () κ9 ls _ _ _ _ hl hw hH
set_option maxRecDepth 100000 in
def F_X11_firstOpenOf (G : GE) (h : Nat) (a1 : Option Nat) (post : Option Nat → CS → Prop) (κ : CS) : Prop := lc (fun (K3 : Int32 → CS → Prop) (x1 : Int32) (κ2 : CS) => (h ∈ sL κ2.1 ∧ sK κ2.1 h = 1) ∧ ∀ z5 : Option Nat, z5 = sP κ2.1 h 10 → ∃ b : Nat, z5 = some b ∧ (b ∈ sL κ2.1 ∧ sK κ2.1 b = 7) ∧ F_Jx4a65c_size_8abf5 G b  (fun (z7 : Int32) (κ6 : CS) => ((z7.toInt ≤ x1.toInt) → post (none : Option Nat) κ6) ∧ ((x1.toInt < z7.toInt) → (h ∈ sL κ6.1 ∧ sK κ6.1 h = 1) ∧ ∀ z8 : Option Nat, z8 = sP κ6.1 h 10 → ∃ b : Nat, z8 = some b ∧ (b ∈ sL κ6.1 ∧ sK κ6.1 b = 7) ∧ F_Jx4a65c_get_915e3 G b x1 (fun (z10 : Option Nat) (κ9 : CS) => (z10 = none ∨ ∃ b : Nat, z10 = some b ∧ b ∈ sL κ9.1 ∧ sK κ9.1 b = 10) ∧ ∃ b : Nat, z10 = some b ∧ (b ∈ sL κ9.1 ∧ sK κ9.1 b = 10) ∧ ∀ z11 : Option Nat, z11 = sP κ9.1 b 1 → ((¬ z11 = a1) → ∀ z12 : Int32, z12 = x1 + 1 → K3 z12 κ9) ∧ ((z11 = a1) → (h ∈ sL κ9.1 ∧ sK κ9.1 h = 1) ∧ ∀ z13 : Option Nat, z13 = sP κ9.1 h 10 → ∃ b : Nat, z13 = some b ∧ (b ∈ sL κ9.1 ∧ sK κ9.1 b = 7) ∧ F_Jx4a65c_get_915e3 G b x1 (fun (z15 : Option Nat) (κ14 : CS) => (z15 = none ∨ ∃ b : Nat, z15 = some b ∧ b ∈ sL κ14.1 ∧ sK κ14.1 b = 10) ∧ post z15 κ14) κ9)) κ6)) κ2) 0 κ
theorem dX11_firstOpenOf_0 : decode cX11_firstOpenOf 0 = .ok (.iconst 0, 1) := by decide +kernel
theorem dX11_firstOpenOf_1 : decode cX11_firstOpenOf 1 = .ok (.istore_n 2, 1) := by decide +kernel
theorem dX11_firstOpenOf_2 : decode cX11_firstOpenOf 2 = .ok (.iload_n 2, 1) := by decide +kernel
theorem dX11_firstOpenOf_3 : decode cX11_firstOpenOf 3 = .ok (.aload_n 0, 1) := by decide +kernel
theorem dX11_firstOpenOf_4 : decode cX11_firstOpenOf 4 = .ok (.getfield 52, 3) := by decide +kernel
theorem dX11_firstOpenOf_7 : decode cX11_firstOpenOf 7 = .ok (.invokevirtual 161, 3) := by decide +kernel
theorem dX11_firstOpenOf_10 : decode cX11_firstOpenOf 10 = .ok (.if_icmp .ge 39, 3) := by decide +kernel
theorem dX11_firstOpenOf_13 : decode cX11_firstOpenOf 13 = .ok (.aload_n 0, 1) := by decide +kernel
theorem dX11_firstOpenOf_14 : decode cX11_firstOpenOf 14 = .ok (.getfield 52, 3) := by decide +kernel
theorem dX11_firstOpenOf_17 : decode cX11_firstOpenOf 17 = .ok (.iload_n 2, 1) := by decide +kernel
theorem dX11_firstOpenOf_18 : decode cX11_firstOpenOf 18 = .ok (.invokevirtual 164, 3) := by decide +kernel
theorem dX11_firstOpenOf_21 : decode cX11_firstOpenOf 21 = .ok (.checkcast 168, 3) := by decide +kernel
theorem dX11_firstOpenOf_24 : decode cX11_firstOpenOf 24 = .ok (.getfield 423, 3) := by decide +kernel
theorem dX11_firstOpenOf_27 : decode cX11_firstOpenOf 27 = .ok (.aload_n 1, 1) := by decide +kernel
theorem dX11_firstOpenOf_28 : decode cX11_firstOpenOf 28 = .ok (.if_acmp .ne 15, 3) := by decide +kernel
theorem dX11_firstOpenOf_31 : decode cX11_firstOpenOf 31 = .ok (.aload_n 0, 1) := by decide +kernel
theorem dX11_firstOpenOf_32 : decode cX11_firstOpenOf 32 = .ok (.getfield 52, 3) := by decide +kernel
theorem dX11_firstOpenOf_35 : decode cX11_firstOpenOf 35 = .ok (.iload_n 2, 1) := by decide +kernel
theorem dX11_firstOpenOf_36 : decode cX11_firstOpenOf 36 = .ok (.invokevirtual 164, 3) := by decide +kernel
theorem dX11_firstOpenOf_39 : decode cX11_firstOpenOf 39 = .ok (.checkcast 168, 3) := by decide +kernel
theorem dX11_firstOpenOf_42 : decode cX11_firstOpenOf 42 = .ok (.areturn, 1) := by decide +kernel
theorem dX11_firstOpenOf_43 : decode cX11_firstOpenOf 43 = .ok (.iinc 2 1, 3) := by decide +kernel
theorem dX11_firstOpenOf_46 : decode cX11_firstOpenOf 46 = .ok (.goto (-44), 3) := by decide +kernel
theorem dX11_firstOpenOf_49 : decode cX11_firstOpenOf 49 = .ok (.aconst_null, 1) := by decide +kernel
theorem dX11_firstOpenOf_50 : decode cX11_firstOpenOf 50 = .ok (.areturn, 1) := by decide +kernel
set_option maxRecDepth 100000 in
set_option maxHeartbeats 4000000 in
theorem c_X11_firstOpenOf (l : Launch) (D : va_G) (t : Nat → ClassId) (G : GE) (κ : CS) (h : Nat) (a1 : Option Nat) (post : Option Nat → CS → Prop) (hw : F_X11_firstOpenOf G h a1 post κ) (sz : Nat) : CMq l D t yX11_firstOpenOf cX11_firstOpenOf 3 (some (.object "ShareHouse$Open")) 3 78 G κ sz [.ref h, va_rf a1] post := by
  refine c_go (by decide) (by cases a1 <;> exact Nat.le_of_ble_eq_true rfl) ?_
  intro p e s m below meth c ls A hF hr hlk hin hAe hH hA hE hl
  unfold cB
  rw [hAe]
  clear hAe
  have hF : FX p m c cX11_firstOpenOf 3 s _ RX11 D t := hF
  have hx := hF.1.1
  have hb := hF.1.2.1
  have hl : lv_has ls 3 [(0, .ref h), (1, va_rf a1)] := (by have h2 := hl; clear hw; revert h2; cases a1 <;> exact id)
  unfold F_X11_firstOpenOf at hw
  refine lv_iconst (v := 0) hx hb dX11_firstOpenOf_0 (by decide) ?_
  refine lv_istore_n (lv' := [(2, .int 0), (0, .ref h), (1, va_rf a1)]) hx hb dX11_firstOpenOf_1 rfl hl (by decide) (by generalize a1 = y; cases y <;> rfl) (fun ls hl => ?_)
  have hl : lv_has ls 3 [(2, .int 0), (1, va_rf a1), (0, .ref h)] := lv_sub hl [0, 2, 1] rfl
  refine cw_loop (β := Int32) (fun x1 => [(2, .int x1), (1, va_rf a1), (0, .ref h)]) 0 hl hw hH (fun K3 x1 κ2 ls H locs cells slots hl hw hH ih4 => ?_)
  have hl : lv_has ls 3 [(2, .int x1), (1, va_rf a1), (0, .ref h)] := hl
  refine lv_iload_n hx hb dX11_firstOpenOf_2 rfl (lv_at hl 0 rfl) ?_
  refine lv_aload_n hx hb dX11_firstOpenOf_3 rfl (lv_at hl 2 rfl) ?_
  refine cw_getPr (a := h) hF hH fk_X11_52 dX11_firstOpenOf_4 hw (fun z5 hw => ?_)
  refine cw_cViq (q := z5) (As := []) (rest := [.int x1]) hF hH hA hE mv_X11_161 ci_Jx4a65c (by decide) hw (fun b hw sz => c_Jx4a65c_size_8abf5 l D t G _ b  _ hw sz) dX11_firstOpenOf_7 ⟨Nat.le_of_ble_eq_true rfl, Nat.le_of_ble_eq_true rfl⟩ rfl hl.1 (Nat.le_of_ble_eq_true rfl) rfl (fun z7 κ6 H locs cells slots hw hH => ?_)
  refine w_icmp_ge (tgt := 49) hF dX11_firstOpenOf_10 rfl hw (fun hw => ?_) (fun hw => ?_)
  · refine cw_null dX11_firstOpenOf_49 hF ?_
    exact cw_retq (v := (none : Option Nat)) hF hH ⟨rfl, rfl⟩ hr (by first | exact Or.inl ⟨_, rfl⟩ | exact Or.inr ⟨_, rfl⟩) hlk dX11_firstOpenOf_50 hw
  · refine lv_aload_n hx hb dX11_firstOpenOf_13 rfl (lv_at hl 2 rfl) ?_
    refine cw_getPr (a := h) hF hH fk_X11_52 dX11_firstOpenOf_14 hw (fun z8 hw => ?_)
    refine lv_iload_n hx hb dX11_firstOpenOf_17 rfl (lv_at hl 0 rfl) ?_
    refine cw_cVqq (q := z8) (As := [.int x1]) (rest := []) hF hH hA hE mv_X11_164 ci_Jx4a65c (by decide) hw (fun b hw sz => c_Jx4a65c_get_915e3 l D t G _ b x1 _ hw sz) dX11_firstOpenOf_18 ⟨Nat.le_of_ble_eq_true rfl, Nat.le_of_ble_eq_true rfl⟩ rfl hl.1 (Nat.le_of_ble_eq_true rfl) rfl (fun z10 κ9 H locs cells slots hw hH => ?_)
    refine cw_cast (q := z10) hF hH ci_X5 (by decide) (wc_16 7 rfl) (by decide) dX11_firstOpenOf_21 hw (fun hw => ?_)
    refine cw_getP (q := z10) hF hH fk_X11_423 dX11_firstOpenOf_24 hw (fun z11 hw => ?_)
    refine w_aloadq_n hF dX11_firstOpenOf_27 rfl (lv_at hl 1 rfl) ?_
    refine cw_acmp_ne (rx := z11) (ry := a1) (tgt := 43) hF dX11_firstOpenOf_28 rfl hw (fun hw => ?_) (fun hw => ?_)
    · obtain ⟨z12, ez12⟩ : ∃ z : Int32, z = x1 + 1 := ⟨_, rfl⟩
      have hw := hw z12 ez12
      refine lv_iinc (lv' := [(2, .int z12), (1, va_rf a1), (0, .ref h)]) (k := 0) (v := z12) hx hb dX11_firstOpenOf_43 hl rfl ez12.symm (by decide) (by generalize a1 = y; cases y <;> rfl) (fun ls hl => ?_)
      refine lv_goto (tgt := 2) hx hb dX11_firstOpenOf_46 rfl ?_
      exact ih4 z12 κ9 ls _ _ _ _ hl hw hH
    · refine lv_aload_n hx hb dX11_firstOpenOf_31 rfl (lv_at hl 2 rfl) ?_
      refine cw_getPr (a := h) hF hH fk_X11_52 dX11_firstOpenOf_32 hw (fun z13 hw => ?_)
      refine lv_iload_n hx hb dX11_firstOpenOf_35 rfl (lv_at hl 0 rfl) ?_
      refine cw_cVqq (q := z13) (As := [.int x1]) (rest := []) hF hH hA hE mv_X11_164 ci_Jx4a65c (by decide) hw (fun b hw sz => c_Jx4a65c_get_915e3 l D t G _ b x1 _ hw sz) dX11_firstOpenOf_36 ⟨Nat.le_of_ble_eq_true rfl, Nat.le_of_ble_eq_true rfl⟩ rfl hl.1 (Nat.le_of_ble_eq_true rfl) rfl (fun z15 κ14 H locs cells slots hw hH => ?_)
      refine cw_cast (q := z15) hF hH ci_X5 (by decide) (wc_16 7 rfl) (by decide) dX11_firstOpenOf_39 hw (fun hw => ?_)
      exact cw_retq (v := z15) hF hH ⟨rfl, rfl⟩ hr (by first | exact Or.inl ⟨_, rfl⟩ | exact Or.inr ⟨_, rfl⟩) hlk dX11_firstOpenOf_42 hw
set_option maxRecDepth 100000 in
def F_X11_nextClosing (G : GE) (h : Nat) (post : Option Nat → CS → Prop) (κ : CS) : Prop := lc (fun (K3 : Int32 → CS → Prop) (x1 : Int32) (κ2 : CS) => (h ∈ sL κ2.1 ∧ sK κ2.1 h = 1) ∧ ∀ z5 : Option Nat, z5 = sP κ2.1 h 10 → ∃ b : Nat, z5 = some b ∧ (b ∈ sL κ2.1 ∧ sK κ2.1 b = 7) ∧ F_Jx4a65c_size_8abf5 G b  (fun (z7 : Int32) (κ6 : CS) => ((z7.toInt ≤ x1.toInt) → lc (fun (K10 : Int32 → CS → Prop) (x8 : Int32) (κ9 : CS) => (((1000000 : Int32).toInt ≤ x8.toInt) → post (none : Option Nat) κ9) ∧ ((x8.toInt < (1000000 : Int32).toInt) → (h ∈ sL κ9.1 ∧ sK κ9.1 h = 1) ∧ F_X11_firstEndingSession G h  (fun (z13 : Int32) (κ12 : CS) => jc (fun (K16 : (Option Nat) → CS → Prop) => ((¬ z13.toInt = ((-1) : Int32).toInt) → (h ∈ sL κ12.1 ∧ sK κ12.1 h = 1) ∧ ∀ z38 : Option Nat, z38 = sP κ12.1 h 8 → ∃ b : Nat, z38 = some b ∧ (b ∈ sL κ12.1 ∧ sK κ12.1 b = 7) ∧ F_Jx4a65c_get_915e3 G b z13 (fun (z40 : Option Nat) (κ39 : CS) => (z40 = none ∨ ∃ b : Nat, z40 = some b ∧ b ∈ sL κ39.1 ∧ sK κ39.1 b = 11) ∧ K16 z40 κ39) κ12) ∧ ((z13.toInt = ((-1) : Int32).toInt) → K16 (none : Option Nat) κ12)) (fun (x14 : Option Nat) (κ15 : CS) => (h ∈ sL κ15.1 ∧ sK κ15.1 h = 1) ∧ F_X11_firstEndingTree G h x14 (fun (z20 : Int32) (κ19 : CS) => jc (fun (K23 : Unit → CS → Prop) => ((z20.toInt = ((-1) : Int32).toInt) → ((z13.toInt = ((-1) : Int32).toInt) → post (none : Option Nat) κ19) ∧ ((¬ z13.toInt = ((-1) : Int32).toInt) → (h ∈ sL κ19.1 ∧ sK κ19.1 h = 1) ∧ ∀ z27 : Option Nat, z27 = sP κ19.1 h 8 → ∃ b : Nat, z27 = some b ∧ (b ∈ sL κ19.1 ∧ sK κ19.1 b = 7) ∧ F_Jx4a65c_remove_915e3 G b z13 (fun (z29 : Option Nat) (κ28 : CS) => K23 () κ28) κ19)) ∧ ((¬ z20.toInt = ((-1) : Int32).toInt) → (h ∈ sL κ19.1 ∧ sK κ19.1 h = 1) ∧ ∀ z30 : Option Nat, z30 = sP κ19.1 h 9 → ∃ b : Nat, z30 = some b ∧ (b ∈ sL κ19.1 ∧ sK κ19.1 b = 7) ∧ F_Jx4a65c_get_915e3 G b z20 (fun (z32 : Option Nat) (κ31 : CS) => (z32 = none ∨ ∃ b : Nat, z32 = some b ∧ b ∈ sL κ31.1 ∧ sK κ31.1 b = 12) ∧ (h ∈ sL κ31.1 ∧ sK κ31.1 h = 1) ∧ F_X11_firstOpenOf G h z32 (fun (z34 : Option Nat) (κ33 : CS) => ((z34 = none) → (h ∈ sL κ33.1 ∧ sK κ33.1 h = 1) ∧ ∀ z35 : Option Nat, z35 = sP κ33.1 h 9 → ∃ b : Nat, z35 = some b ∧ (b ∈ sL κ33.1 ∧ sK κ33.1 b = 7) ∧ F_Jx4a65c_remove_915e3 G b z20 (fun (z37 : Option Nat) (κ36 : CS) => K23 () κ36) κ33) ∧ ((¬ z34 = none) → post z34 κ33)) κ31) κ19)) (fun (x21 : Unit) (κ22 : CS) => ∀ z26 : Int32, z26 = x8 + 1 → K10 z26 κ22)) κ15)) κ9)) 0 κ6) ∧ ((x1.toInt < z7.toInt) → (h ∈ sL κ6.1 ∧ sK κ6.1 h = 1) ∧ ∀ z41 : Option Nat, z41 = sP κ6.1 h 10 → ∃ b : Nat, z41 = some b ∧ (b ∈ sL κ6.1 ∧ sK κ6.1 b = 7) ∧ F_Jx4a65c_get_915e3 G b x1 (fun (z43 : Option Nat) (κ42 : CS) => (z43 = none ∨ ∃ b : Nat, z43 = some b ∧ b ∈ sL κ42.1 ∧ sK κ42.1 b = 10) ∧ ∃ b : Nat, z43 = some b ∧ (b ∈ sL κ42.1 ∧ sK κ42.1 b = 10) ∧ ∀ z44 : Int32, z44 = sI κ42.1 b 6 → ((z44.toInt = 0) → ∀ z45 : Int32, z45 = x1 + 1 → K3 z45 κ42) ∧ ((¬ z44.toInt = 0) → (h ∈ sL κ42.1 ∧ sK κ42.1 h = 1) ∧ ∀ z46 : Option Nat, z46 = sP κ42.1 h 10 → ∃ b : Nat, z46 = some b ∧ (b ∈ sL κ42.1 ∧ sK κ42.1 b = 7) ∧ F_Jx4a65c_get_915e3 G b x1 (fun (z48 : Option Nat) (κ47 : CS) => (z48 = none ∨ ∃ b : Nat, z48 = some b ∧ b ∈ sL κ47.1 ∧ sK κ47.1 b = 10) ∧ post z48 κ47) κ42)) κ6)) κ2) 0 κ
theorem dX11_nextClosing_0 : decode cX11_nextClosing 0 = .ok (.iconst 0, 1) := by decide +kernel
theorem dX11_nextClosing_1 : decode cX11_nextClosing 1 = .ok (.istore_n 1, 1) := by decide +kernel
theorem dX11_nextClosing_2 : decode cX11_nextClosing 2 = .ok (.iload_n 1, 1) := by decide +kernel
theorem dX11_nextClosing_3 : decode cX11_nextClosing 3 = .ok (.aload_n 0, 1) := by decide +kernel
theorem dX11_nextClosing_4 : decode cX11_nextClosing 4 = .ok (.getfield 52, 3) := by decide +kernel
theorem dX11_nextClosing_7 : decode cX11_nextClosing 7 = .ok (.invokevirtual 161, 3) := by decide +kernel
theorem dX11_nextClosing_10 : decode cX11_nextClosing 10 = .ok (.if_icmp .ge 38, 3) := by decide +kernel
theorem dX11_nextClosing_13 : decode cX11_nextClosing 13 = .ok (.aload_n 0, 1) := by decide +kernel
theorem dX11_nextClosing_14 : decode cX11_nextClosing 14 = .ok (.getfield 52, 3) := by decide +kernel
theorem dX11_nextClosing_17 : decode cX11_nextClosing 17 = .ok (.iload_n 1, 1) := by decide +kernel
theorem dX11_nextClosing_18 : decode cX11_nextClosing 18 = .ok (.invokevirtual 164, 3) := by decide +kernel
theorem dX11_nextClosing_21 : decode cX11_nextClosing 21 = .ok (.checkcast 168, 3) := by decide +kernel
theorem dX11_nextClosing_24 : decode cX11_nextClosing 24 = .ok (.getfield 543, 3) := by decide +kernel
theorem dX11_nextClosing_27 : decode cX11_nextClosing 27 = .ok (.ifCond .eq 15, 3) := by decide +kernel
theorem dX11_nextClosing_30 : decode cX11_nextClosing 30 = .ok (.aload_n 0, 1) := by decide +kernel
theorem dX11_nextClosing_31 : decode cX11_nextClosing 31 = .ok (.getfield 52, 3) := by decide +kernel
theorem dX11_nextClosing_34 : decode cX11_nextClosing 34 = .ok (.iload_n 1, 1) := by decide +kernel
theorem dX11_nextClosing_35 : decode cX11_nextClosing 35 = .ok (.invokevirtual 164, 3) := by decide +kernel
theorem dX11_nextClosing_38 : decode cX11_nextClosing 38 = .ok (.checkcast 168, 3) := by decide +kernel
theorem dX11_nextClosing_41 : decode cX11_nextClosing 41 = .ok (.areturn, 1) := by decide +kernel
theorem dX11_nextClosing_42 : decode cX11_nextClosing 42 = .ok (.iinc 1 1, 3) := by decide +kernel
theorem dX11_nextClosing_45 : decode cX11_nextClosing 45 = .ok (.goto (-43), 3) := by decide +kernel
theorem dX11_nextClosing_48 : decode cX11_nextClosing 48 = .ok (.iconst 0, 1) := by decide +kernel
theorem dX11_nextClosing_49 : decode cX11_nextClosing 49 = .ok (.istore_n 1, 1) := by decide +kernel
theorem dX11_nextClosing_50 : decode cX11_nextClosing 50 = .ok (.iload_n 1, 1) := by decide +kernel
theorem dX11_nextClosing_51 : decode cX11_nextClosing 51 = .ok (.ldc 156, 2) := by decide +kernel
theorem dX11_nextClosing_53 : decode cX11_nextClosing 53 = .ok (.if_icmp .ge 100, 3) := by decide +kernel
theorem dX11_nextClosing_56 : decode cX11_nextClosing 56 = .ok (.aload_n 0, 1) := by decide +kernel
theorem dX11_nextClosing_57 : decode cX11_nextClosing 57 = .ok (.invokevirtual 546, 3) := by decide +kernel
theorem dX11_nextClosing_60 : decode cX11_nextClosing 60 = .ok (.istore_n 2, 1) := by decide +kernel
theorem dX11_nextClosing_61 : decode cX11_nextClosing 61 = .ok (.aload_n 0, 1) := by decide +kernel
theorem dX11_nextClosing_62 : decode cX11_nextClosing 62 = .ok (.iload_n 2, 1) := by decide +kernel
theorem dX11_nextClosing_63 : decode cX11_nextClosing 63 = .ok (.iconst (-1), 1) := by decide +kernel
theorem dX11_nextClosing_64 : decode cX11_nextClosing 64 = .ok (.if_icmp .ne 7, 3) := by decide +kernel
theorem dX11_nextClosing_67 : decode cX11_nextClosing 67 = .ok (.aconst_null, 1) := by decide +kernel
theorem dX11_nextClosing_68 : decode cX11_nextClosing 68 = .ok (.goto 14, 3) := by decide +kernel
theorem dX11_nextClosing_71 : decode cX11_nextClosing 71 = .ok (.aload_n 0, 1) := by decide +kernel
theorem dX11_nextClosing_72 : decode cX11_nextClosing 72 = .ok (.getfield 45, 3) := by decide +kernel
theorem dX11_nextClosing_75 : decode cX11_nextClosing 75 = .ok (.iload_n 2, 1) := by decide +kernel
theorem dX11_nextClosing_76 : decode cX11_nextClosing 76 = .ok (.invokevirtual 164, 3) := by decide +kernel
theorem dX11_nextClosing_79 : decode cX11_nextClosing 79 = .ok (.checkcast 403, 3) := by decide +kernel
theorem dX11_nextClosing_82 : decode cX11_nextClosing 82 = .ok (.invokevirtual 549, 3) := by decide +kernel
theorem dX11_nextClosing_85 : decode cX11_nextClosing 85 = .ok (.istore_n 3, 1) := by decide +kernel
theorem dX11_nextClosing_86 : decode cX11_nextClosing 86 = .ok (.iload_n 3, 1) := by decide +kernel
theorem dX11_nextClosing_87 : decode cX11_nextClosing 87 = .ok (.iconst (-1), 1) := by decide +kernel
theorem dX11_nextClosing_88 : decode cX11_nextClosing 88 = .ok (.if_icmp .eq 40, 3) := by decide +kernel
theorem dX11_nextClosing_91 : decode cX11_nextClosing 91 = .ok (.aload_n 0, 1) := by decide +kernel
theorem dX11_nextClosing_92 : decode cX11_nextClosing 92 = .ok (.aload_n 0, 1) := by decide +kernel
theorem dX11_nextClosing_93 : decode cX11_nextClosing 93 = .ok (.getfield 49, 3) := by decide +kernel
theorem dX11_nextClosing_96 : decode cX11_nextClosing 96 = .ok (.iload_n 3, 1) := by decide +kernel
theorem dX11_nextClosing_97 : decode cX11_nextClosing 97 = .ok (.invokevirtual 164, 3) := by decide +kernel
theorem dX11_nextClosing_100 : decode cX11_nextClosing 100 = .ok (.checkcast 407, 3) := by decide +kernel
theorem dX11_nextClosing_103 : decode cX11_nextClosing 103 = .ok (.invokevirtual 553, 3) := by decide +kernel
theorem dX11_nextClosing_106 : decode cX11_nextClosing 106 = .ok (.astore 4, 2) := by decide +kernel
theorem dX11_nextClosing_108 : decode cX11_nextClosing 108 = .ok (.aload 4, 2) := by decide +kernel
theorem dX11_nextClosing_110 : decode cX11_nextClosing 110 = .ok (.ifnull 6, 3) := by decide +kernel
theorem dX11_nextClosing_113 : decode cX11_nextClosing 113 = .ok (.aload 4, 2) := by decide +kernel
theorem dX11_nextClosing_115 : decode cX11_nextClosing 115 = .ok (.areturn, 1) := by decide +kernel
theorem dX11_nextClosing_116 : decode cX11_nextClosing 116 = .ok (.aload_n 0, 1) := by decide +kernel
theorem dX11_nextClosing_117 : decode cX11_nextClosing 117 = .ok (.getfield 49, 3) := by decide +kernel
theorem dX11_nextClosing_120 : decode cX11_nextClosing 120 = .ok (.iload_n 3, 1) := by decide +kernel
theorem dX11_nextClosing_121 : decode cX11_nextClosing 121 = .ok (.invokevirtual 496, 3) := by decide +kernel
theorem dX11_nextClosing_124 : decode cX11_nextClosing 124 = .ok (.pop, 1) := by decide +kernel
theorem dX11_nextClosing_125 : decode cX11_nextClosing 125 = .ok (.goto 22, 3) := by decide +kernel
theorem dX11_nextClosing_128 : decode cX11_nextClosing 128 = .ok (.iload_n 2, 1) := by decide +kernel
theorem dX11_nextClosing_129 : decode cX11_nextClosing 129 = .ok (.iconst (-1), 1) := by decide +kernel
theorem dX11_nextClosing_130 : decode cX11_nextClosing 130 = .ok (.if_icmp .eq 15, 3) := by decide +kernel
theorem dX11_nextClosing_133 : decode cX11_nextClosing 133 = .ok (.aload_n 0, 1) := by decide +kernel
theorem dX11_nextClosing_134 : decode cX11_nextClosing 134 = .ok (.getfield 45, 3) := by decide +kernel
theorem dX11_nextClosing_137 : decode cX11_nextClosing 137 = .ok (.iload_n 2, 1) := by decide +kernel
theorem dX11_nextClosing_138 : decode cX11_nextClosing 138 = .ok (.invokevirtual 496, 3) := by decide +kernel
theorem dX11_nextClosing_141 : decode cX11_nextClosing 141 = .ok (.pop, 1) := by decide +kernel
theorem dX11_nextClosing_142 : decode cX11_nextClosing 142 = .ok (.goto 5, 3) := by decide +kernel
theorem dX11_nextClosing_145 : decode cX11_nextClosing 145 = .ok (.aconst_null, 1) := by decide +kernel
theorem dX11_nextClosing_146 : decode cX11_nextClosing 146 = .ok (.areturn, 1) := by decide +kernel
theorem dX11_nextClosing_147 : decode cX11_nextClosing 147 = .ok (.iinc 1 1, 3) := by decide +kernel
theorem dX11_nextClosing_150 : decode cX11_nextClosing 150 = .ok (.goto (-100), 3) := by decide +kernel
theorem dX11_nextClosing_153 : decode cX11_nextClosing 153 = .ok (.aconst_null, 1) := by decide +kernel
theorem dX11_nextClosing_154 : decode cX11_nextClosing 154 = .ok (.areturn, 1) := by decide +kernel
set_option maxRecDepth 100000 in
set_option maxHeartbeats 4000000 in
theorem c_X11_nextClosing (l : Launch) (D : va_G) (t : Nat → ClassId) (G : GE) (κ : CS) (h : Nat) (post : Option Nat → CS → Prop) (hw : F_X11_nextClosing G h post κ) (sz : Nat) : CMq l D t yX11_nextClosing cX11_nextClosing 5 (some (.object "ShareHouse$Open")) 4 101 G κ sz [.ref h] post := by
  refine c_go (by decide) (Nat.le_of_ble_eq_true rfl) ?_
  intro p e s m below meth c ls A hF hr hlk hin hAe hH hA hE hl
  unfold cB
  rw [hAe]
  clear hAe
  have hF : FX p m c cX11_nextClosing 5 s _ RX11 D t := hF
  have hx := hF.1.1
  have hb := hF.1.2.1
  have hl : lv_has ls 5 [(0, .ref h)] := hl
  unfold F_X11_nextClosing at hw
  refine lv_iconst (v := 0) hx hb dX11_nextClosing_0 (by decide) ?_
  refine lv_istore_n (lv' := [(1, .int 0), (0, .ref h)]) hx hb dX11_nextClosing_1 rfl hl (by decide) rfl (fun ls hl => ?_)
  refine cw_loop (β := Int32) (fun x1 => [(1, .int x1), (0, .ref h)]) 0 hl hw hH (fun K3 x1 κ2 ls H locs cells slots hl hw hH ih4 => ?_)
  have hl : lv_has ls 5 [(1, .int x1), (0, .ref h)] := hl
  refine lv_iload_n hx hb dX11_nextClosing_2 rfl (lv_at hl 0 rfl) ?_
  refine lv_aload_n hx hb dX11_nextClosing_3 rfl (lv_at hl 1 rfl) ?_
  refine cw_getPr (a := h) hF hH fk_X11_52 dX11_nextClosing_4 hw (fun z5 hw => ?_)
  refine cw_cViq (q := z5) (As := []) (rest := [.int x1]) hF hH hA hE mv_X11_161 ci_Jx4a65c (by decide) hw (fun b hw sz => c_Jx4a65c_size_8abf5 l D t G _ b  _ hw sz) dX11_nextClosing_7 ⟨Nat.le_of_ble_eq_true rfl, Nat.le_of_ble_eq_true rfl⟩ rfl hl.1 (Nat.le_of_ble_eq_true rfl) rfl (fun z7 κ6 H locs cells slots hw hH => ?_)
  refine w_icmp_ge (tgt := 48) hF dX11_nextClosing_10 rfl hw (fun hw => ?_) (fun hw => ?_)
  · refine lv_iconst (v := 0) hx hb dX11_nextClosing_48 (by decide) ?_
    refine lv_istore_n (lv' := [(1, .int 0), (0, .ref h)]) hx hb dX11_nextClosing_49 rfl hl (by decide) rfl (fun ls hl => ?_)
    refine cw_loop (β := Int32) (fun x8 => [(1, .int x8), (0, .ref h)]) 0 hl hw hH (fun K10 x8 κ9 ls H locs cells slots hl hw hH ih11 => ?_)
    have hl : lv_has ls 5 [(1, .int x8), (0, .ref h)] := hl
    refine lv_iload_n hx hb dX11_nextClosing_50 rfl (lv_at hl 0 rfl) ?_
    refine lv_ldc (v := 1000000) hx hb hF.1.2.2.2.1 (hF.1.2.2.2.2 _ (wc_15 38 rfl)) dX11_nextClosing_51 ?_
    refine w_icmp_ge (tgt := 153) hF dX11_nextClosing_53 rfl hw (fun hw => ?_) (fun hw => ?_)
    · refine cw_null dX11_nextClosing_153 hF ?_
      exact cw_retq (v := (none : Option Nat)) hF hH ⟨rfl, rfl⟩ hr (by first | exact Or.inl ⟨_, rfl⟩ | exact Or.inr ⟨_, rfl⟩) hlk dX11_nextClosing_154 hw
    · refine lv_aload_n hx hb dX11_nextClosing_56 rfl (lv_at hl 1 rfl) ?_
      refine cw_cVi (b := h) (As := []) (rest := []) hF hH hA hE mv_X11_546 ci_X11 (by decide) (fun sz => c_X11_firstEndingSession l D t G _ h  _ hw.2 sz) dX11_nextClosing_57 hw.1 ⟨Nat.le_of_ble_eq_true rfl, Nat.le_of_ble_eq_true rfl⟩ rfl hl.1 (Nat.le_of_ble_eq_true rfl) rfl (fun z13 κ12 H locs cells slots hw hH => ?_)
      refine lv_istore_n (lv' := [(2, .int z13), (1, .int x8), (0, .ref h)]) hx hb dX11_nextClosing_60 rfl hl (by decide) rfl (fun ls hl => ?_)
      refine lv_aload_n hx hb dX11_nextClosing_61 rfl (lv_at hl 2 rfl) ?_
      refine lv_iload_n hx hb dX11_nextClosing_62 rfl (lv_at hl 0 rfl) ?_
      refine lv_iconst (v := (-1)) hx hb dX11_nextClosing_63 (by decide) ?_
      obtain ⟨K16, hK17, hw⟩ := jc_open hw
      refine cw_join (K := K16) 82 (fun (x14 : Option Nat) => [(2, .int z13), (1, .int x8), (0, .ref h)]) (fun (x14 : Option Nat) => [va_rf x14, .ref h]) hl hH (fun x14 κ15 ls H locs cells slots hl hw hH => ?_) (fun jn18 => ?_)
      · have hw := hK17 x14 κ15 hw
        have hl : lv_has ls 5 [(2, .int z13), (1, .int x8), (0, .ref h)] := hl
        refine cw_cVi (b := h) (As := [va_rf x14]) (rest := []) hF hH hA hE mv_X11_549 ci_X11 (by decide) (fun sz => c_X11_firstEndingTree l D t G _ h x14 _ hw.2 sz) dX11_nextClosing_82 hw.1 ⟨Nat.le_of_ble_eq_true rfl, Nat.le_of_ble_eq_true rfl⟩ rfl hl.1 (Nat.le_of_ble_eq_true rfl) rfl (fun z20 κ19 H locs cells slots hw hH => ?_)
        refine lv_istore_n (lv' := [(3, .int z20), (2, .int z13), (1, .int x8), (0, .ref h)]) hx hb dX11_nextClosing_85 rfl hl (by decide) rfl (fun ls hl => ?_)
        refine lv_iload_n hx hb dX11_nextClosing_86 rfl (lv_at hl 0 rfl) ?_
        refine lv_iconst (v := (-1)) hx hb dX11_nextClosing_87 (by decide) ?_
        obtain ⟨K23, hK24, hw⟩ := jc_open hw
        refine cw_join (K := K23) 147 (fun (x21 : Unit) => [(1, .int x8), (0, .ref h)]) (fun (x21 : Unit) => []) hl hH (fun x21 κ22 ls H locs cells slots hl hw hH => ?_) (fun jn25 => ?_)
        · have hw := hK24 x21 κ22 hw
          have hl : lv_has ls 5 [(1, .int x8), (0, .ref h)] := hl
          obtain ⟨z26, ez26⟩ : ∃ z : Int32, z = x8 + 1 := ⟨_, rfl⟩
          have hw := hw z26 ez26
          refine lv_iinc (lv' := [(1, .int z26), (0, .ref h)]) (k := 0) (v := z26) hx hb dX11_nextClosing_147 hl rfl ez26.symm (by decide) rfl (fun ls hl => ?_)
          refine lv_goto (tgt := 50) hx hb dX11_nextClosing_150 rfl ?_
          exact ih11 z26 κ22 ls _ _ _ _ hl hw hH
        · skip
          refine w_icmp_eq (tgt := 128) hF dX11_nextClosing_88 rfl hw (fun hw => ?_) (fun hw => ?_)
          · refine lv_iload_n hx hb dX11_nextClosing_128 rfl (lv_at hl 1 rfl) ?_
            refine lv_iconst (v := (-1)) hx hb dX11_nextClosing_129 (by decide) ?_
            refine w_icmp_eq (tgt := 145) hF dX11_nextClosing_130 rfl hw (fun hw => ?_) (fun hw => ?_)
            · refine cw_null dX11_nextClosing_145 hF ?_
              exact cw_retq (v := (none : Option Nat)) hF hH ⟨rfl, rfl⟩ hr (by first | exact Or.inl ⟨_, rfl⟩ | exact Or.inr ⟨_, rfl⟩) hlk dX11_nextClosing_146 hw
            · refine lv_aload_n hx hb dX11_nextClosing_133 rfl (lv_at hl 3 rfl) ?_
              refine cw_getPr (a := h) hF hH fk_X11_45 dX11_nextClosing_134 hw (fun z27 hw => ?_)
              refine lv_iload_n hx hb dX11_nextClosing_137 rfl (lv_at hl 1 rfl) ?_
              refine cw_cVqq (q := z27) (As := [.int z13]) (rest := []) hF hH hA hE mv_X11_496 ci_Jx4a65c (by decide) hw (fun b hw sz => c_Jx4a65c_remove_915e3 l D t G _ b z13 _ hw sz) dX11_nextClosing_138 ⟨Nat.le_of_ble_eq_true rfl, Nat.le_of_ble_eq_true rfl⟩ rfl hl.1 (Nat.le_of_ble_eq_true rfl) rfl (fun z29 κ28 H locs cells slots hw hH => ?_)
              refine lv_pop hx hb dX11_nextClosing_141 (cat_rf _) ?_
              refine lv_goto (tgt := 147) hx hb dX11_nextClosing_142 rfl ?_
              have hl : lv_has ls 5 [(1, .int x8), (0, .ref h)] := lv_sub hl [2, 3] rfl
              exact jn25 () κ28 ls _ _ _ _ hl hw hH
          · refine lv_aload_n hx hb dX11_nextClosing_91 rfl (lv_at hl 3 rfl) ?_
            refine lv_aload_n hx hb dX11_nextClosing_92 rfl (lv_at hl 3 rfl) ?_
            refine cw_getPr (a := h) hF hH fk_X11_49 dX11_nextClosing_93 hw (fun z30 hw => ?_)
            refine lv_iload_n hx hb dX11_nextClosing_96 rfl (lv_at hl 0 rfl) ?_
            refine cw_cVqq (q := z30) (As := [.int z20]) (rest := [.ref h]) hF hH hA hE mv_X11_164 ci_Jx4a65c (by decide) hw (fun b hw sz => c_Jx4a65c_get_915e3 l D t G _ b z20 _ hw sz) dX11_nextClosing_97 ⟨Nat.le_of_ble_eq_true rfl, Nat.le_of_ble_eq_true rfl⟩ rfl hl.1 (Nat.le_of_ble_eq_true rfl) rfl (fun z32 κ31 H locs cells slots hw hH => ?_)
            refine cw_cast (q := z32) hF hH ci_X8 (by decide) (wc_16 26 rfl) (by decide) dX11_nextClosing_100 hw (fun hw => ?_)
            refine cw_cVq (b := h) (As := [va_rf z32]) (rest := []) hF hH hA hE mv_X11_553 ci_X11 (by decide) (fun sz => c_X11_firstOpenOf l D t G _ h z32 _ hw.2 sz) dX11_nextClosing_103 hw.1 ⟨Nat.le_of_ble_eq_true rfl, Nat.le_of_ble_eq_true rfl⟩ rfl hl.1 (Nat.le_of_ble_eq_true rfl) rfl (fun z34 κ33 H locs cells slots hw hH => ?_)
            refine w_astoreq (lv' := [(4, va_rf z34), (3, .int z20), (2, .int z13), (1, .int x8), (0, .ref h)]) hF dX11_nextClosing_106 hl (by decide) rfl (fun ls hl => ?_)
            refine w_aloadq hF dX11_nextClosing_108 (lv_at hl 0 rfl) ?_
            refine cw_ifnull (q := z34) (tgt := 116) hF dX11_nextClosing_110 rfl hw (fun hw => ?_) (fun hw => ?_)
            · refine lv_aload_n hx hb dX11_nextClosing_116 rfl (lv_at hl 4 rfl) ?_
              refine cw_getPr (a := h) hF hH fk_X11_49 dX11_nextClosing_117 hw (fun z35 hw => ?_)
              refine lv_iload_n hx hb dX11_nextClosing_120 rfl (lv_at hl 1 rfl) ?_
              refine cw_cVqq (q := z35) (As := [.int z20]) (rest := []) hF hH hA hE mv_X11_496 ci_Jx4a65c (by decide) hw (fun b hw sz => c_Jx4a65c_remove_915e3 l D t G _ b z20 _ hw sz) dX11_nextClosing_121 ⟨Nat.le_of_ble_eq_true rfl, Nat.le_of_ble_eq_true rfl⟩ rfl hl.1 (Nat.le_of_ble_eq_true rfl) rfl (fun z37 κ36 H locs cells slots hw hH => ?_)
              refine lv_pop hx hb dX11_nextClosing_124 (cat_rf _) ?_
              refine lv_goto (tgt := 147) hx hb dX11_nextClosing_125 rfl ?_
              have hl : lv_has ls 5 [(1, .int x8), (0, .ref h)] := lv_sub hl [3, 4] rfl
              exact jn25 () κ36 ls _ _ _ _ hl hw hH
            · refine w_aloadq hF dX11_nextClosing_113 (lv_at hl 0 rfl) ?_
              exact cw_retq (v := z34) hF hH ⟨rfl, rfl⟩ hr (by first | exact Or.inl ⟨_, rfl⟩ | exact Or.inr ⟨_, rfl⟩) hlk dX11_nextClosing_115 hw
      · skip
        refine w_icmp_ne (tgt := 71) hF dX11_nextClosing_64 rfl hw (fun hw => ?_) (fun hw => ?_)
        · refine lv_aload_n hx hb dX11_nextClosing_71 rfl (lv_at hl 2 rfl) ?_
          refine cw_getPr (a := h) hF hH fk_X11_45 dX11_nextClosing_72 hw (fun z38 hw => ?_)
          refine lv_iload_n hx hb dX11_nextClosing_75 rfl (lv_at hl 0 rfl) ?_
          refine cw_cVqq (q := z38) (As := [.int z13]) (rest := [.ref h]) hF hH hA hE mv_X11_164 ci_Jx4a65c (by decide) hw (fun b hw sz => c_Jx4a65c_get_915e3 l D t G _ b z13 _ hw sz) dX11_nextClosing_76 ⟨Nat.le_of_ble_eq_true rfl, Nat.le_of_ble_eq_true rfl⟩ rfl hl.1 (Nat.le_of_ble_eq_true rfl) rfl (fun z40 κ39 H locs cells slots hw hH => ?_)
          refine cw_cast (q := z40) hF hH ci_X7 (by decide) (wc_16 25 rfl) (by decide) dX11_nextClosing_79 hw (fun hw => ?_)
          exact jn18 z40 κ39 ls _ _ _ _ hl hw hH
        · refine cw_null dX11_nextClosing_67 hF ?_
          refine lv_goto (tgt := 82) hx hb dX11_nextClosing_68 rfl ?_
          exact jn18 (none : Option Nat) κ12 ls _ _ _ _ hl hw hH
  · refine lv_aload_n hx hb dX11_nextClosing_13 rfl (lv_at hl 1 rfl) ?_
    refine cw_getPr (a := h) hF hH fk_X11_52 dX11_nextClosing_14 hw (fun z41 hw => ?_)
    refine lv_iload_n hx hb dX11_nextClosing_17 rfl (lv_at hl 0 rfl) ?_
    refine cw_cVqq (q := z41) (As := [.int x1]) (rest := []) hF hH hA hE mv_X11_164 ci_Jx4a65c (by decide) hw (fun b hw sz => c_Jx4a65c_get_915e3 l D t G _ b x1 _ hw sz) dX11_nextClosing_18 ⟨Nat.le_of_ble_eq_true rfl, Nat.le_of_ble_eq_true rfl⟩ rfl hl.1 (Nat.le_of_ble_eq_true rfl) rfl (fun z43 κ42 H locs cells slots hw hH => ?_)
    refine cw_cast (q := z43) hF hH ci_X5 (by decide) (wc_16 7 rfl) (by decide) dX11_nextClosing_21 hw (fun hw => ?_)
    refine cw_getI (q := z43) hF hH fk_X11_543 dX11_nextClosing_24 hw (fun z44 hw => ?_)
    refine w_if_eq (tgt := 42) hF dX11_nextClosing_27 rfl hw (fun hw => ?_) (fun hw => ?_)
    · obtain ⟨z45, ez45⟩ : ∃ z : Int32, z = x1 + 1 := ⟨_, rfl⟩
      have hw := hw z45 ez45
      refine lv_iinc (lv' := [(1, .int z45), (0, .ref h)]) (k := 0) (v := z45) hx hb dX11_nextClosing_42 hl rfl ez45.symm (by decide) rfl (fun ls hl => ?_)
      refine lv_goto (tgt := 2) hx hb dX11_nextClosing_45 rfl ?_
      exact ih4 z45 κ42 ls _ _ _ _ hl hw hH
    · refine lv_aload_n hx hb dX11_nextClosing_30 rfl (lv_at hl 1 rfl) ?_
      refine cw_getPr (a := h) hF hH fk_X11_52 dX11_nextClosing_31 hw (fun z46 hw => ?_)
      refine lv_iload_n hx hb dX11_nextClosing_34 rfl (lv_at hl 0 rfl) ?_
      refine cw_cVqq (q := z46) (As := [.int x1]) (rest := []) hF hH hA hE mv_X11_164 ci_Jx4a65c (by decide) hw (fun b hw sz => c_Jx4a65c_get_915e3 l D t G _ b x1 _ hw sz) dX11_nextClosing_35 ⟨Nat.le_of_ble_eq_true rfl, Nat.le_of_ble_eq_true rfl⟩ rfl hl.1 (Nat.le_of_ble_eq_true rfl) rfl (fun z48 κ47 H locs cells slots hw hH => ?_)
      refine cw_cast (q := z48) hF hH ci_X5 (by decide) (wc_16 7 rfl) (by decide) dX11_nextClosing_38 hw (fun hw => ?_)
      exact cw_retq (v := z48) hF hH ⟨rfl, rfl⟩ hr (by first | exact Or.inl ⟨_, rfl⟩ | exact Or.inr ⟨_, rfl⟩) hlk dX11_nextClosing_41 hw

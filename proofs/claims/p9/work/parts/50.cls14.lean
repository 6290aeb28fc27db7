/-! the class, lifted: 14 -/
set_option maxRecDepth 100000 in
def F_X11_disconnectTree (G : GE) (h : Nat) (a1 : Option Nat) (post : Int32 → CS → Prop) (κ : CS) : Prop := ∃ b : Nat, a1 = some b ∧ (b ∈ sL κ.1 ∧ sK κ.1 b = 8) ∧ ∀ z1 : Option Nat, z1 = sP κ.1 b 14 → ((¬ z1 = none) → ∃ b : Nat, a1 = some b ∧ (b ∈ sL κ.1 ∧ sK κ.1 b = 8) ∧ ∀ z2 : Option Nat, z2 = sP κ.1 b 14 → (0 ≤ (1 : Int32).toInt ∧ (1 : Int32).toInt ≤ 1) ∧ ∃ b : Nat, z2 = some b ∧ (b ∈ sL κ.1 ∧ sK κ.1 b = 12) ∧ ∀ κ3 : CS, κ3 = (h_uI κ.1 b 3 1, κ.2) → ∃ b : Nat, a1 = some b ∧ (b ∈ sL κ3.1 ∧ sK κ3.1 b = 8) ∧ ∀ z4 : Option Nat, z4 = sP κ3.1 b 14 → (h ∈ sL κ3.1 ∧ sK κ3.1 h = 1) ∧ F_X11_giveUp G h (none : Option Nat) (none : Option Nat) z4 (fun (κ5 : CS) => (h ∈ sL κ5.1 ∧ sK κ5.1 h = 1) ∧ F_X11_plainAnswer G h  (fun (z8 : Int32) (κ7 : CS) => post z8 κ7) κ5) κ3) ∧ ((z1 = none) → post (-1073741623) κ)
theorem dX11_disconnectTree_0 : decode cX11_disconnectTree 0 = .ok (.aload_n 1, 1) := by decide +kernel
theorem dX11_disconnectTree_1 : decode cX11_disconnectTree 1 = .ok (.getfield 382, 3) := by decide +kernel
theorem dX11_disconnectTree_4 : decode cX11_disconnectTree 4 = .ok (.ifnonnull 7, 3) := by decide +kernel
theorem dX11_disconnectTree_7 : decode cX11_disconnectTree 7 = .ok (.ldc_w 386, 3) := by decide +kernel
theorem dX11_disconnectTree_10 : decode cX11_disconnectTree 10 = .ok (.ireturn, 1) := by decide +kernel
theorem dX11_disconnectTree_11 : decode cX11_disconnectTree 11 = .ok (.aload_n 1, 1) := by decide +kernel
theorem dX11_disconnectTree_12 : decode cX11_disconnectTree 12 = .ok (.getfield 382, 3) := by decide +kernel
theorem dX11_disconnectTree_15 : decode cX11_disconnectTree 15 = .ok (.iconst 1, 1) := by decide +kernel
theorem dX11_disconnectTree_16 : decode cX11_disconnectTree 16 = .ok (.putfield 557, 3) := by decide +kernel
theorem dX11_disconnectTree_19 : decode cX11_disconnectTree 19 = .ok (.aload_n 0, 1) := by decide +kernel
theorem dX11_disconnectTree_20 : decode cX11_disconnectTree 20 = .ok (.aconst_null, 1) := by decide +kernel
theorem dX11_disconnectTree_21 : decode cX11_disconnectTree 21 = .ok (.aconst_null, 1) := by decide +kernel
theorem dX11_disconnectTree_22 : decode cX11_disconnectTree 22 = .ok (.aload_n 1, 1) := by decide +kernel
theorem dX11_disconnectTree_23 : decode cX11_disconnectTree 23 = .ok (.getfield 382, 3) := by decide +kernel
theorem dX11_disconnectTree_26 : decode cX11_disconnectTree 26 = .ok (.invokevirtual 503, 3) := by decide +kernel
theorem dX11_disconnectTree_29 : decode cX11_disconnectTree 29 = .ok (.aload_n 0, 1) := by decide +kernel
theorem dX11_disconnectTree_30 : decode cX11_disconnectTree 30 = .ok (.invokevirtual 447, 3) := by decide +kernel
theorem dX11_disconnectTree_33 : decode cX11_disconnectTree 33 = .ok (.ireturn, 1) := by decide +kernel
set_option maxRecDepth 100000 in
set_option maxHeartbeats 4000000 in
theorem c_X11_disconnectTree (l : Launch) (D : va_G) (t : Nat → ClassId) (G : GE) (κ : CS) (h : Nat) (a1 : Option Nat) (post : Int32 → CS → Prop) (hw : F_X11_disconnectTree G h a1 post κ) (sz : Nat) : CMi l D t yX11_disconnectTree cX11_disconnectTree 2 (some .int) 4 111 G κ sz [.ref h, va_rf a1] post := by
  refine c_go (by decide) (by cases a1 <;> exact Nat.le_of_ble_eq_true rfl) ?_
  intro p e s m below meth c ls A hF hr hlk hin hAe hH hA hE hl
  unfold cB
  rw [hAe]
  clear hAe
  have hF : FX p m c cX11_disconnectTree 2 s _ RX11 D t := hF
  have hx := hF.1.1
  have hb := hF.1.2.1
  have hl : lv_has ls 2 [(0, .ref h), (1, va_rf a1)] := (by have h2 := hl; clear hw; revert h2; cases a1 <;> exact id)
  unfold F_X11_disconnectTree at hw
  refine w_aloadq_n hF dX11_disconnectTree_0 rfl (lv_at hl 1 rfl) ?_
  refine cw_getP (q := a1) hF hH fk_X11_382 dX11_disconnectTree_1 hw (fun z1 hw => ?_)
  refine cw_ifnonnull (q := z1) (tgt := 11) hF dX11_disconnectTree_4 rfl hw (fun hw => ?_) (fun hw => ?_)
  · refine w_aloadq_n hF dX11_disconnectTree_11 rfl (lv_at hl 1 rfl) ?_
    refine cw_getP (q := a1) hF hH fk_X11_382 dX11_disconnectTree_12 hw (fun z2 hw => ?_)
    refine lv_iconst (v := 1) hx hb dX11_disconnectTree_15 (by decide) ?_
    refine cw_putZ (q := z2) (v := 1) hF hH fk_X11_557 dX11_disconnectTree_16 rfl rfl hw (fun κ3 H locs cells slots hw hH => ?_)
    refine lv_aload_n hx hb dX11_disconnectTree_19 rfl (lv_at hl 0 rfl) ?_
    refine cw_null dX11_disconnectTree_20 hF ?_
    refine cw_null dX11_disconnectTree_21 hF ?_
    refine w_aloadq_n hF dX11_disconnectTree_22 rfl (lv_at hl 1 rfl) ?_
    refine cw_getP (q := a1) hF hH fk_X11_382 dX11_disconnectTree_23 hw (fun z4 hw => ?_)
    refine cw_cVv (b := h) (As := [va_rf (none : Option Nat), va_rf (none : Option Nat), va_rf z4]) (rest := []) hF hH hA hE mv_X11_503 ci_X11 (by decide) (fun sz => c_X11_giveUp l D t G _ h (none : Option Nat) (none : Option Nat) z4 _ hw.2 sz) dX11_disconnectTree_26 hw.1 ⟨Nat.le_of_ble_eq_true rfl, Nat.le_of_ble_eq_true rfl⟩ rfl hl.1 (Nat.le_of_ble_eq_true rfl) rfl (fun κ5 H locs cells slots hw hH => ?_)
    refine lv_aload_n hx hb dX11_disconnectTree_29 rfl (lv_at hl 0 rfl) ?_
    refine cw_cVi (b := h) (As := []) (rest := []) hF hH hA hE mv_X11_447 ci_X11 (by decide) (fun sz => c_X11_plainAnswer l D t G _ h  _ hw.2 sz) dX11_disconnectTree_30 hw.1 ⟨Nat.le_of_ble_eq_true rfl, Nat.le_of_ble_eq_true rfl⟩ rfl hl.1 (Nat.le_of_ble_eq_true rfl) rfl (fun z8 κ7 H locs cells slots hw hH => ?_)
    exact cw_reti hF hH ⟨rfl, rfl⟩ hr rfl hlk dX11_disconnectTree_33 hw
  · refine lv_ldcw (v := (-1073741623)) hx hb hF.1.2.2.2.1 (hF.1.2.2.2.2 _ (wc_26 26 rfl)) dX11_disconnectTree_7 ?_
    exact cw_reti hF hH ⟨rfl, rfl⟩ hr rfl hlk dX11_disconnectTree_10 hw
set_option maxRecDepth 100000 in
def F_X11_cancel (G : GE) (h : Nat) (a1 : Option Nat) (post : Int32 → CS → Prop) (κ : CS) : Prop := ∃ b : Nat, a1 = some b ∧ (b ∈ sL κ.1 ∧ sK κ.1 b = 8) ∧ ∀ z1 : Int64, z1 = sJ κ.1 b 7 → ∀ z2 : Int64, z2 = z1 &&& 2 → jc (fun (K5 : Int32 → CS → Prop) => ((z2.toInt = (0 : Int64).toInt) → K5 0 κ) ∧ ((¬ z2.toInt = (0 : Int64).toInt) → K5 1 κ)) (fun (x3 : Int32) (κ4 : CS) => jc (fun (K10 : Int64 → CS → Prop) => ((x3.toInt = 0) → ∃ b : Nat, a1 = some b ∧ (b ∈ sL κ4.1 ∧ sK κ4.1 b = 8) ∧ ∀ z43 : Int64, z43 = sJ κ4.1 b 8 → K10 z43 κ4) ∧ ((¬ x3.toInt = 0) → ∃ b : Nat, a1 = some b ∧ (b ∈ sL κ4.1 ∧ sK κ4.1 b = 8) ∧ F_X0_number G b 32 8 (fun (z45 : Int64) (κ44 : CS) => K10 z45 κ44) κ4)) (fun (x8 : Int64) (κ9 : CS) => lc (fun (K15 : Int32 → CS → Prop) (x13 : Int32) (κ14 : CS) => (h ∈ sL κ14.1 ∧ sK κ14.1 h = 1) ∧ ∀ z17 : Option Nat, z17 = sP κ14.1 h 12 → ∃ b : Nat, z17 = some b ∧ (b ∈ sL κ14.1 ∧ sK κ14.1 b = 7) ∧ F_Jx4a65c_size_8abf5 G b  (fun (z19 : Int32) (κ18 : CS) => ((z19.toInt ≤ x13.toInt) → post 0 κ18) ∧ ((x13.toInt < z19.toInt) → (h ∈ sL κ18.1 ∧ sK κ18.1 h = 1) ∧ ∀ z20 : Option Nat, z20 = sP κ18.1 h 12 → ∃ b : Nat, z20 = some b ∧ (b ∈ sL κ18.1 ∧ sK κ18.1 b = 7) ∧ F_Jx4a65c_get_915e3 G b x13 (fun (z22 : Option Nat) (κ21 : CS) => (z22 = none ∨ ∃ b : Nat, z22 = some b ∧ b ∈ sL κ21.1 ∧ sK κ21.1 b = 8) ∧ ∃ b : Nat, z22 = some b ∧ (b ∈ sL κ21.1 ∧ sK κ21.1 b = 8) ∧ ∀ z23 : Option Nat, z23 = sP κ21.1 b 0 → ∃ b : Nat, a1 = some b ∧ (b ∈ sL κ21.1 ∧ sK κ21.1 b = 8) ∧ ∀ z24 : Option Nat, z24 = sP κ21.1 b 0 → jc (fun (K27 : Unit → CS → Prop) => ((¬ z23 = z24) → K27 () κ21) ∧ ((z23 = z24) → jc (fun (K33 : Int64 → CS → Prop) => ((x3.toInt = 0) → ∃ b : Nat, z22 = some b ∧ (b ∈ sL κ21.1 ∧ sK κ21.1 b = 8) ∧ ∀ z41 : Int64, z41 = sJ κ21.1 b 8 → K33 z41 κ21) ∧ ((¬ x3.toInt = 0) → ∃ b : Nat, z22 = some b ∧ (b ∈ sL κ21.1 ∧ sK κ21.1 b = 8) ∧ ∀ z42 : Int64, z42 = sJ κ21.1 b 16 → K33 z42 κ21)) (fun (x31 : Int64) (κ32 : CS) => ((¬ x31.toInt = x8.toInt) → K27 () κ32) ∧ ((x31.toInt = x8.toInt) → (h ∈ sL κ32.1 ∧ sK κ32.1 h = 1) ∧ ∀ z36 : Option Nat, z36 = sP κ32.1 h 12 → ∃ b : Nat, z36 = some b ∧ (b ∈ sL κ32.1 ∧ sK κ32.1 b = 7) ∧ F_Jx4a65c_remove_915e3 G b x13 (fun (z38 : Option Nat) (κ37 : CS) => (h ∈ sL κ37.1 ∧ sK κ37.1 h = 1) ∧ F_X11_sendLater G h z22 (-1073741536) (fun (κ39 : CS) => post 0 κ39) κ37) κ32)))) (fun (x25 : Unit) (κ26 : CS) => ∀ z30 : Int32, z30 = x13 + 1 → K15 z30 κ26)) κ18)) κ14) 0 κ9))
theorem dX11_cancel_0 : decode cX11_cancel 0 = .ok (.aload_n 1, 1) := by decide +kernel
theorem dX11_cancel_1 : decode cX11_cancel 1 = .ok (.getfield 491, 3) := by decide +kernel
theorem dX11_cancel_4 : decode cX11_cancel 4 = .ok (.ldc2_w 494, 3) := by decide +kernel
theorem dX11_cancel_7 : decode cX11_cancel 7 = .ok (.land, 1) := by decide +kernel
theorem dX11_cancel_8 : decode cX11_cancel 8 = .ok (.lconst 0, 1) := by decide +kernel
theorem dX11_cancel_9 : decode cX11_cancel 9 = .ok (.lcmp, 1) := by decide +kernel
theorem dX11_cancel_10 : decode cX11_cancel 10 = .ok (.ifCond .eq 7, 3) := by decide +kernel
theorem dX11_cancel_13 : decode cX11_cancel 13 = .ok (.iconst 1, 1) := by decide +kernel
theorem dX11_cancel_14 : decode cX11_cancel 14 = .ok (.goto 4, 3) := by decide +kernel
theorem dX11_cancel_17 : decode cX11_cancel 17 = .ok (.iconst 0, 1) := by decide +kernel
theorem dX11_cancel_18 : decode cX11_cancel 18 = .ok (.istore_n 2, 1) := by decide +kernel
theorem dX11_cancel_19 : decode cX11_cancel 19 = .ok (.iload_n 2, 1) := by decide +kernel
theorem dX11_cancel_20 : decode cX11_cancel 20 = .ok (.ifCond .eq 14, 3) := by decide +kernel
theorem dX11_cancel_23 : decode cX11_cancel 23 = .ok (.aload_n 1, 1) := by decide +kernel
theorem dX11_cancel_24 : decode cX11_cancel 24 = .ok (.bipush 32, 2) := by decide +kernel
theorem dX11_cancel_26 : decode cX11_cancel 26 = .ok (.bipush 8, 2) := by decide +kernel
theorem dX11_cancel_28 : decode cX11_cancel 28 = .ok (.invokevirtual 394, 3) := by decide +kernel
theorem dX11_cancel_31 : decode cX11_cancel 31 = .ok (.goto 7, 3) := by decide +kernel
theorem dX11_cancel_34 : decode cX11_cancel 34 = .ok (.aload_n 1, 1) := by decide +kernel
theorem dX11_cancel_35 : decode cX11_cancel 35 = .ok (.getfield 274, 3) := by decide +kernel
theorem dX11_cancel_38 : decode cX11_cancel 38 = .ok (.lstore_n 3, 1) := by decide +kernel
theorem dX11_cancel_39 : decode cX11_cancel 39 = .ok (.iconst 0, 1) := by decide +kernel
theorem dX11_cancel_40 : decode cX11_cancel 40 = .ok (.istore 5, 2) := by decide +kernel
theorem dX11_cancel_42 : decode cX11_cancel 42 = .ok (.iload 5, 2) := by decide +kernel
theorem dX11_cancel_44 : decode cX11_cancel 44 = .ok (.aload_n 0, 1) := by decide +kernel
theorem dX11_cancel_45 : decode cX11_cancel 45 = .ok (.getfield 58, 3) := by decide +kernel
theorem dX11_cancel_48 : decode cX11_cancel 48 = .ok (.invokevirtual 161, 3) := by decide +kernel
theorem dX11_cancel_51 : decode cX11_cancel 51 = .ok (.if_icmp .ge 78, 3) := by decide +kernel
theorem dX11_cancel_54 : decode cX11_cancel 54 = .ok (.aload_n 0, 1) := by decide +kernel
theorem dX11_cancel_55 : decode cX11_cancel 55 = .ok (.getfield 58, 3) := by decide +kernel
theorem dX11_cancel_58 : decode cX11_cancel 58 = .ok (.iload 5, 2) := by decide +kernel
theorem dX11_cancel_60 : decode cX11_cancel 60 = .ok (.invokevirtual 164, 3) := by decide +kernel
theorem dX11_cancel_63 : decode cX11_cancel 63 = .ok (.checkcast 264, 3) := by decide +kernel
theorem dX11_cancel_66 : decode cX11_cancel 66 = .ok (.astore 6, 2) := by decide +kernel
theorem dX11_cancel_68 : decode cX11_cancel 68 = .ok (.aload 6, 2) := by decide +kernel
theorem dX11_cancel_70 : decode cX11_cancel 70 = .ok (.getfield 310, 3) := by decide +kernel
theorem dX11_cancel_73 : decode cX11_cancel 73 = .ok (.aload_n 1, 1) := by decide +kernel
theorem dX11_cancel_74 : decode cX11_cancel 74 = .ok (.getfield 310, 3) := by decide +kernel
theorem dX11_cancel_77 : decode cX11_cancel 77 = .ok (.if_acmp .ne 46, 3) := by decide +kernel
theorem dX11_cancel_80 : decode cX11_cancel 80 = .ok (.iload_n 2, 1) := by decide +kernel
theorem dX11_cancel_81 : decode cX11_cancel 81 = .ok (.ifCond .eq 11, 3) := by decide +kernel
theorem dX11_cancel_84 : decode cX11_cancel 84 = .ok (.aload 6, 2) := by decide +kernel
theorem dX11_cancel_86 : decode cX11_cancel 86 = .ok (.getfield 356, 3) := by decide +kernel
theorem dX11_cancel_89 : decode cX11_cancel 89 = .ok (.goto 8, 3) := by decide +kernel
theorem dX11_cancel_92 : decode cX11_cancel 92 = .ok (.aload 6, 2) := by decide +kernel
theorem dX11_cancel_94 : decode cX11_cancel 94 = .ok (.getfield 274, 3) := by decide +kernel
theorem dX11_cancel_97 : decode cX11_cancel 97 = .ok (.lload_n 3, 1) := by decide +kernel
theorem dX11_cancel_98 : decode cX11_cancel 98 = .ok (.lcmp, 1) := by decide +kernel
theorem dX11_cancel_99 : decode cX11_cancel 99 = .ok (.ifCond .ne 24, 3) := by decide +kernel
theorem dX11_cancel_102 : decode cX11_cancel 102 = .ok (.aload_n 0, 1) := by decide +kernel
theorem dX11_cancel_103 : decode cX11_cancel 103 = .ok (.getfield 58, 3) := by decide +kernel
theorem dX11_cancel_106 : decode cX11_cancel 106 = .ok (.iload 5, 2) := by decide +kernel
theorem dX11_cancel_108 : decode cX11_cancel 108 = .ok (.invokevirtual 496, 3) := by decide +kernel
theorem dX11_cancel_111 : decode cX11_cancel 111 = .ok (.pop, 1) := by decide +kernel
theorem dX11_cancel_112 : decode cX11_cancel 112 = .ok (.aload_n 0, 1) := by decide +kernel
theorem dX11_cancel_113 : decode cX11_cancel 113 = .ok (.aload 6, 2) := by decide +kernel
theorem dX11_cancel_115 : decode cX11_cancel 115 = .ok (.ldc_w 499, 3) := by decide +kernel
theorem dX11_cancel_118 : decode cX11_cancel 118 = .ok (.invokevirtual 500, 3) := by decide +kernel
theorem dX11_cancel_121 : decode cX11_cancel 121 = .ok (.iconst 0, 1) := by decide +kernel
theorem dX11_cancel_122 : decode cX11_cancel 122 = .ok (.ireturn, 1) := by decide +kernel
theorem dX11_cancel_123 : decode cX11_cancel 123 = .ok (.iinc 5 1, 3) := by decide +kernel
theorem dX11_cancel_126 : decode cX11_cancel 126 = .ok (.goto (-84), 3) := by decide +kernel
theorem dX11_cancel_129 : decode cX11_cancel 129 = .ok (.iconst 0, 1) := by decide +kernel
theorem dX11_cancel_130 : decode cX11_cancel 130 = .ok (.ireturn, 1) := by decide +kernel
set_option maxRecDepth 100000 in
set_option maxHeartbeats 4000000 in
theorem c_X11_cancel (l : Launch) (D : va_G) (t : Nat → ClassId) (G : GE) (κ : CS) (h : Nat) (a1 : Option Nat) (post : Int32 → CS → Prop) (hw : F_X11_cancel G h a1 post κ) (sz : Nat) : CMi l D t yX11_cancel cX11_cancel 7 (some .int) 5 129 G κ sz [.ref h, va_rf a1] post := by
  refine c_go (by decide) (by cases a1 <;> exact Nat.le_of_ble_eq_true rfl) ?_
  intro p e s m below meth c ls A hF hr hlk hin hAe hH hA hE hl
  unfold cB
  rw [hAe]
  clear hAe
  have hF : FX p m c cX11_cancel 7 s _ RX11 D t := hF
  have hx := hF.1.1
  have hb := hF.1.2.1
  have hl : lv_has ls 7 [(0, .ref h), (1, va_rf a1)] := (by have h2 := hl; clear hw; revert h2; cases a1 <;> exact id)
  unfold F_X11_cancel at hw
  refine w_aloadq_n hF dX11_cancel_0 rfl (lv_at hl 1 rfl) ?_
  refine cw_getJ (q := a1) hF hH fk_X11_491 dX11_cancel_1 hw (fun z1 hw => ?_)
  refine lv_ldc2 (v := 2) hx hb hF.1.2.2.2.1 (hF.1.2.2.2.2 _ (wc_31 10 rfl)) dX11_cancel_4 ?_
  refine lv_land hx hb dX11_cancel_7 ?_
  refine w_nml hw (fun z2 hw => ?_)
  refine lv_lconst (v := 0) hx hb dX11_cancel_8 (by decide) ?_
  obtain ⟨K5, hK6, hw⟩ := jc_open hw
  refine cw_join (K := K5) 18 (fun (x3 : Int32) => [(1, va_rf a1), (0, .ref h)]) (fun (x3 : Int32) => [.int x3]) hl hH (fun x3 κ4 ls H locs cells slots hl hw hH => ?_) (fun jn7 => ?_)
  · have hw := hK6 x3 κ4 hw
    have hl : lv_has ls 7 [(1, va_rf a1), (0, .ref h)] := hl
    refine lv_istore_n (lv' := [(2, .int x3), (1, va_rf a1), (0, .ref h)]) hx hb dX11_cancel_18 rfl hl (by decide) (by generalize a1 = y; cases y <;> rfl) (fun ls hl => ?_)
    refine lv_iload_n hx hb dX11_cancel_19 rfl (lv_at hl 0 rfl) ?_
    obtain ⟨K10, hK11, hw⟩ := jc_open hw
    refine cw_join (K := K10) 38 (fun (x8 : Int64) => [(2, .int x3), (1, va_rf a1), (0, .ref h)]) (fun (x8 : Int64) => [.long x8]) hl hH (fun x8 κ9 ls H locs cells slots hl hw hH => ?_) (fun jn12 => ?_)
    · have hw := hK11 x8 κ9 hw
      have hl : lv_has ls 7 [(2, .int x3), (1, va_rf a1), (0, .ref h)] := hl
      refine lv_lstore_n (lv' := [(3, .long x8), (2, .int x3), (1, va_rf a1), (0, .ref h)]) hx hb dX11_cancel_38 rfl hl (by decide) rfl (fun ls hl => ?_)
      refine lv_iconst (v := 0) hx hb dX11_cancel_39 (by decide) ?_
      refine lv_istore (lv' := [(5, .int 0), (3, .long x8), (2, .int x3), (1, va_rf a1), (0, .ref h)]) hx hb dX11_cancel_40 hl (by decide) rfl (fun ls hl => ?_)
      refine cw_loop (β := Int32) (fun x13 => [(5, .int x13), (3, .long x8), (2, .int x3), (1, va_rf a1), (0, .ref h)]) 0 hl hw hH (fun K15 x13 κ14 ls H locs cells slots hl hw hH ih16 => ?_)
      have hl : lv_has ls 7 [(5, .int x13), (3, .long x8), (2, .int x3), (1, va_rf a1), (0, .ref h)] := hl
      refine lv_iload hx hb dX11_cancel_42 (lv_at hl 0 rfl) ?_
      refine lv_aload_n hx hb dX11_cancel_44 rfl (lv_at hl 4 rfl) ?_
      refine cw_getPr (a := h) hF hH fk_X11_58 dX11_cancel_45 hw (fun z17 hw => ?_)
      refine cw_cViq (q := z17) (As := []) (rest := [.int x13]) hF hH hA hE mv_X11_161 ci_Jx4a65c (by decide) hw (fun b hw sz => c_Jx4a65c_size_8abf5 l D t G _ b  _ hw sz) dX11_cancel_48 ⟨Nat.le_of_ble_eq_true rfl, Nat.le_of_ble_eq_true rfl⟩ rfl hl.1 (Nat.le_of_ble_eq_true rfl) rfl (fun z19 κ18 H locs cells slots hw hH => ?_)
      refine w_icmp_ge (tgt := 129) hF dX11_cancel_51 rfl hw (fun hw => ?_) (fun hw => ?_)
      · refine lv_iconst (v := 0) hx hb dX11_cancel_129 (by decide) ?_
        exact cw_reti hF hH ⟨rfl, rfl⟩ hr rfl hlk dX11_cancel_130 hw
      · refine lv_aload_n hx hb dX11_cancel_54 rfl (lv_at hl 4 rfl) ?_
        refine cw_getPr (a := h) hF hH fk_X11_58 dX11_cancel_55 hw (fun z20 hw => ?_)
        refine lv_iload hx hb dX11_cancel_58 (lv_at hl 0 rfl) ?_
        refine cw_cVqq (q := z20) (As := [.int x13]) (rest := []) hF hH hA hE mv_X11_164 ci_Jx4a65c (by decide) hw (fun b hw sz => c_Jx4a65c_get_915e3 l D t G _ b x13 _ hw sz) dX11_cancel_60 ⟨Nat.le_of_ble_eq_true rfl, Nat.le_of_ble_eq_true rfl⟩ rfl hl.1 (Nat.le_of_ble_eq_true rfl) rfl (fun z22 κ21 H locs cells slots hw hH => ?_)
        refine cw_cast (q := z22) hF hH ci_X0 (by decide) (wc_16 15 rfl) (by decide) dX11_cancel_63 hw (fun hw => ?_)
        refine w_astoreq (lv' := [(6, va_rf z22), (5, .int x13), (3, .long x8), (2, .int x3), (1, va_rf a1), (0, .ref h)]) hF dX11_cancel_66 hl (by decide) rfl (fun ls hl => ?_)
        refine w_aloadq hF dX11_cancel_68 (lv_at hl 0 rfl) ?_
        refine cw_getP (q := z22) hF hH fk_X11_310 dX11_cancel_70 hw (fun z23 hw => ?_)
        refine w_aloadq_n hF dX11_cancel_73 rfl (lv_at hl 4 rfl) ?_
        refine cw_getP (q := a1) hF hH fk_X11_310 dX11_cancel_74 hw (fun z24 hw => ?_)
        obtain ⟨K27, hK28, hw⟩ := jc_open hw
        refine cw_join (K := K27) 123 (fun (x25 : Unit) => [(5, .int x13), (3, .long x8), (2, .int x3), (1, va_rf a1), (0, .ref h)]) (fun (x25 : Unit) => []) hl hH (fun x25 κ26 ls H locs cells slots hl hw hH => ?_) (fun jn29 => ?_)
        · have hw := hK28 x25 κ26 hw
          have hl : lv_has ls 7 [(5, .int x13), (3, .long x8), (2, .int x3), (1, va_rf a1), (0, .ref h)] := hl
          obtain ⟨z30, ez30⟩ : ∃ z : Int32, z = x13 + 1 := ⟨_, rfl⟩
          have hw := hw z30 ez30
          refine lv_iinc (lv' := [(5, .int z30), (3, .long x8), (2, .int x3), (1, va_rf a1), (0, .ref h)]) (k := 0) (v := z30) hx hb dX11_cancel_123 hl rfl ez30.symm (by decide) rfl (fun ls hl => ?_)
          refine lv_goto (tgt := 42) hx hb dX11_cancel_126 rfl ?_
          exact ih16 z30 κ26 ls _ _ _ _ hl hw hH
        · skip
          refine cw_acmp_ne (rx := z23) (ry := z24) (tgt := 123) hF dX11_cancel_77 rfl hw (fun hw => ?_) (fun hw => ?_)
          · have hl : lv_has ls 7 [(5, .int x13), (3, .long x8), (2, .int x3), (1, va_rf a1), (0, .ref h)] := lv_sub hl [1, 2, 3, 4, 5] rfl
            exact jn29 () κ21 ls _ _ _ _ hl hw hH
          · refine lv_iload_n hx hb dX11_cancel_80 rfl (lv_at hl 3 rfl) ?_
            obtain ⟨K33, hK34, hw⟩ := jc_open hw
            refine cw_join (K := K33) 97 (fun (x31 : Int64) => [(6, va_rf z22), (5, .int x13), (3, .long x8), (2, .int x3), (1, va_rf a1), (0, .ref h)]) (fun (x31 : Int64) => [.long x31]) hl hH (fun x31 κ32 ls H locs cells slots hl hw hH => ?_) (fun jn35 => ?_)
            · have hw := hK34 x31 κ32 hw
              have hl : lv_has ls 7 [(6, va_rf z22), (5, .int x13), (3, .long x8), (2, .int x3), (1, va_rf a1), (0, .ref h)] := hl
              refine lv_lload_n hx hb dX11_cancel_97 rfl (lv_at hl 2 rfl) ?_
              refine w_lif_ne (tgt := 123) hF dX11_cancel_98 dX11_cancel_99 rfl hw (fun hw => ?_) (fun hw => ?_)
              · have hl : lv_has ls 7 [(5, .int x13), (3, .long x8), (2, .int x3), (1, va_rf a1), (0, .ref h)] := lv_sub hl [1, 2, 3, 4, 5] rfl
                exact jn29 () κ32 ls _ _ _ _ hl hw hH
              · refine lv_aload_n hx hb dX11_cancel_102 rfl (lv_at hl 5 rfl) ?_
                refine cw_getPr (a := h) hF hH fk_X11_58 dX11_cancel_103 hw (fun z36 hw => ?_)
                refine lv_iload hx hb dX11_cancel_106 (lv_at hl 1 rfl) ?_
                refine cw_cVqq (q := z36) (As := [.int x13]) (rest := []) hF hH hA hE mv_X11_496 ci_Jx4a65c (by decide) hw (fun b hw sz => c_Jx4a65c_remove_915e3 l D t G _ b x13 _ hw sz) dX11_cancel_108 ⟨Nat.le_of_ble_eq_true rfl, Nat.le_of_ble_eq_true rfl⟩ rfl hl.1 (Nat.le_of_ble_eq_true rfl) rfl (fun z38 κ37 H locs cells slots hw hH => ?_)
                refine lv_pop hx hb dX11_cancel_111 (cat_rf _) ?_
                refine lv_aload_n hx hb dX11_cancel_112 rfl (lv_at hl 5 rfl) ?_
                refine w_aloadq hF dX11_cancel_113 (lv_at hl 0 rfl) ?_
                refine lv_ldcw (v := (-1073741536)) hx hb hF.1.2.2.2.1 (hF.1.2.2.2.2 _ (wc_21 39 rfl)) dX11_cancel_115 ?_
                refine cw_cVv (b := h) (As := [va_rf z22, .int (-1073741536)]) (rest := []) hF hH hA hE mv_X11_500 ci_X11 (by decide) (fun sz => c_X11_sendLater l D t G _ h z22 (-1073741536) _ hw.2 sz) dX11_cancel_118 hw.1 ⟨Nat.le_of_ble_eq_true rfl, Nat.le_of_ble_eq_true rfl⟩ rfl hl.1 (Nat.le_of_ble_eq_true rfl) rfl (fun κ39 H locs cells slots hw hH => ?_)
                refine lv_iconst (v := 0) hx hb dX11_cancel_121 (by decide) ?_
                exact cw_reti hF hH ⟨rfl, rfl⟩ hr rfl hlk dX11_cancel_122 hw
            · skip
              refine w_if_eq (tgt := 92) hF dX11_cancel_81 rfl hw (fun hw => ?_) (fun hw => ?_)
              · refine w_aloadq hF dX11_cancel_92 (lv_at hl 0 rfl) ?_
                refine cw_getJ (q := z22) hF hH fk_X11_274 dX11_cancel_94 hw (fun z41 hw => ?_)
                exact jn35 z41 κ21 ls _ _ _ _ hl hw hH
              · refine w_aloadq hF dX11_cancel_84 (lv_at hl 0 rfl) ?_
                refine cw_getJ (q := z22) hF hH fk_X11_356 dX11_cancel_86 hw (fun z42 hw => ?_)
                refine lv_goto (tgt := 97) hx hb dX11_cancel_89 rfl ?_
                exact jn35 z42 κ21 ls _ _ _ _ hl hw hH
    · skip
      refine w_if_eq (tgt := 34) hF dX11_cancel_20 rfl hw (fun hw => ?_) (fun hw => ?_)
      · refine w_aloadq_n hF dX11_cancel_34 rfl (lv_at hl 1 rfl) ?_
        refine cw_getJ (q := a1) hF hH fk_X11_274 dX11_cancel_35 hw (fun z43 hw => ?_)
        exact jn12 z43 κ4 ls _ _ _ _ hl hw hH
      · refine w_aloadq_n hF dX11_cancel_23 rfl (lv_at hl 1 rfl) ?_
        refine lv_bipush (v := 32) hx hb dX11_cancel_24 (by decide) ?_
        refine lv_bipush (v := 8) hx hb dX11_cancel_26 (by decide) ?_
        refine cw_cVlq (q := a1) (As := [.int 32, .int 8]) (rest := []) hF hH hA hE mv_X11_394 ci_X0 (by decide) hw (fun b hw sz => c_X0_number l D t G _ b 32 8 _ hw sz) dX11_cancel_28 ⟨Nat.le_of_ble_eq_true rfl, Nat.le_of_ble_eq_true rfl⟩ rfl hl.1 (Nat.le_of_ble_eq_true rfl) rfl (fun z45 κ44 H locs cells slots hw hH => ?_)
        refine lv_goto (tgt := 38) hx hb dX11_cancel_31 rfl ?_
        exact jn12 z45 κ44 ls _ _ _ _ hl hw hH
  · skip
    refine w_lif_eq (tgt := 17) hF dX11_cancel_9 dX11_cancel_10 rfl hw (fun hw => ?_) (fun hw => ?_)
    · refine lv_iconst (v := 0) hx hb dX11_cancel_17 (by decide) ?_
      have hl : lv_has ls 7 [(1, va_rf a1), (0, .ref h)] := lv_sub hl [1, 0] rfl
      exact jn7 0 κ ls _ _ _ _ hl hw hH
    · refine lv_iconst (v := 1) hx hb dX11_cancel_13 (by decide) ?_
      refine lv_goto (tgt := 18) hx hb dX11_cancel_14 rfl ?_
      have hl : lv_has ls 7 [(1, va_rf a1), (0, .ref h)] := lv_sub hl [1, 0] rfl
      exact jn7 1 κ ls _ _ _ _ hl hw hH
set_option maxRecDepth 100000 in
def F_X11_perform (G : GE) (h : Nat) (a1 : Option Nat) (post : Int32 → CS → Prop) (κ : CS) : Prop := ∃ b : Nat, a1 = some b ∧ (b ∈ sL κ.1 ∧ sK κ.1 b = 8) ∧ ∀ z1 : Int32, z1 = sI κ.1 b 5 → jc (fun (K4 : Unit → CS → Prop) => ((z1.toInt < 0 ∨ 13 < z1.toInt) → K4 () κ) ∧ ((z1.toInt = 0) → (h ∈ sL κ.1 ∧ sK κ.1 h = 1) ∧ F_X11_negotiate G h a1 (fun (z8 : Int32) (κ7 : CS) => post z8 κ7) κ) ∧ ((z1.toInt = 1) → (h ∈ sL κ.1 ∧ sK κ.1 h = 1) ∧ F_X11_setUp G h a1 (fun (z10 : Int32) (κ9 : CS) => post z10 κ9) κ) ∧ ((z1.toInt = 2) → (h ∈ sL κ.1 ∧ sK κ.1 h = 1) ∧ F_X11_logOff G h a1 (fun (z12 : Int32) (κ11 : CS) => post z12 κ11) κ) ∧ ((z1.toInt = 3) → (h ∈ sL κ.1 ∧ sK κ.1 h = 1) ∧ F_X11_connectTree G h a1 (fun (z14 : Int32) (κ13 : CS) => post z14 κ13) κ) ∧ ((z1.toInt = 4) → (h ∈ sL κ.1 ∧ sK κ.1 h = 1) ∧ F_X11_disconnectTree G h a1 (fun (z16 : Int32) (κ15 : CS) => post z16 κ15) κ) ∧ ((z1.toInt = 5) → K4 () κ) ∧ ((z1.toInt = 6) → K4 () κ) ∧ ((z1.toInt = 7) → K4 () κ) ∧ ((z1.toInt = 8) → K4 () κ) ∧ ((z1.toInt = 9) → K4 () κ) ∧ ((z1.toInt = 10) → K4 () κ) ∧ ((z1.toInt = 11) → K4 () κ) ∧ ((z1.toInt = 12) → (h ∈ sL κ.1 ∧ sK κ.1 h = 1) ∧ F_X11_cancel G h a1 (fun (z18 : Int32) (κ17 : CS) => post z18 κ17) κ) ∧ ((z1.toInt = 13) → (h ∈ sL κ.1 ∧ sK κ.1 h = 1) ∧ F_X11_plainAnswer G h  (fun (z20 : Int32) (κ19 : CS) => post z20 κ19) κ)) (fun (x2 : Unit) (κ3 : CS) => post (-1073741637) κ3)
theorem dX11_perform_0 : decode cX11_perform 0 = .ok (.aload_n 1, 1) := by decide +kernel
theorem dX11_perform_1 : decode cX11_perform 1 = .ok (.getfield 271, 3) := by decide +kernel
theorem dX11_perform_4 : decode cX11_perform 4 = .ok (.tableswitch 113 0 13 #[72, 78, 84, 90, 96, 113, 113, 113, 113, 113, 113, 113, 107, 102], 72) := by decide +kernel
theorem dX11_perform_76 : decode cX11_perform 76 = .ok (.aload_n 0, 1) := by decide +kernel
theorem dX11_perform_77 : decode cX11_perform 77 = .ok (.aload_n 1, 1) := by decide +kernel
theorem dX11_perform_78 : decode cX11_perform 78 = .ok (.invokevirtual 432, 3) := by decide +kernel
theorem dX11_perform_81 : decode cX11_perform 81 = .ok (.ireturn, 1) := by decide +kernel
theorem dX11_perform_82 : decode cX11_perform 82 = .ok (.aload_n 0, 1) := by decide +kernel
theorem dX11_perform_83 : decode cX11_perform 83 = .ok (.aload_n 1, 1) := by decide +kernel
theorem dX11_perform_84 : decode cX11_perform 84 = .ok (.invokevirtual 435, 3) := by decide +kernel
theorem dX11_perform_87 : decode cX11_perform 87 = .ok (.ireturn, 1) := by decide +kernel
theorem dX11_perform_88 : decode cX11_perform 88 = .ok (.aload_n 0, 1) := by decide +kernel
theorem dX11_perform_89 : decode cX11_perform 89 = .ok (.aload_n 1, 1) := by decide +kernel
theorem dX11_perform_90 : decode cX11_perform 90 = .ok (.invokevirtual 438, 3) := by decide +kernel
theorem dX11_perform_93 : decode cX11_perform 93 = .ok (.ireturn, 1) := by decide +kernel
theorem dX11_perform_94 : decode cX11_perform 94 = .ok (.aload_n 0, 1) := by decide +kernel
theorem dX11_perform_95 : decode cX11_perform 95 = .ok (.aload_n 1, 1) := by decide +kernel
theorem dX11_perform_96 : decode cX11_perform 96 = .ok (.invokevirtual 441, 3) := by decide +kernel
theorem dX11_perform_99 : decode cX11_perform 99 = .ok (.ireturn, 1) := by decide +kernel
theorem dX11_perform_100 : decode cX11_perform 100 = .ok (.aload_n 0, 1) := by decide +kernel
theorem dX11_perform_101 : decode cX11_perform 101 = .ok (.aload_n 1, 1) := by decide +kernel
theorem dX11_perform_102 : decode cX11_perform 102 = .ok (.invokevirtual 444, 3) := by decide +kernel
theorem dX11_perform_105 : decode cX11_perform 105 = .ok (.ireturn, 1) := by decide +kernel
theorem dX11_perform_106 : decode cX11_perform 106 = .ok (.aload_n 0, 1) := by decide +kernel
theorem dX11_perform_107 : decode cX11_perform 107 = .ok (.invokevirtual 447, 3) := by decide +kernel
theorem dX11_perform_110 : decode cX11_perform 110 = .ok (.ireturn, 1) := by decide +kernel
theorem dX11_perform_111 : decode cX11_perform 111 = .ok (.aload_n 0, 1) := by decide +kernel
theorem dX11_perform_112 : decode cX11_perform 112 = .ok (.aload_n 1, 1) := by decide +kernel
theorem dX11_perform_113 : decode cX11_perform 113 = .ok (.invokevirtual 450, 3) := by decide +kernel
theorem dX11_perform_116 : decode cX11_perform 116 = .ok (.ireturn, 1) := by decide +kernel
theorem dX11_perform_117 : decode cX11_perform 117 = .ok (.ldc_w 393, 3) := by decide +kernel
theorem dX11_perform_120 : decode cX11_perform 120 = .ok (.ireturn, 1) := by decide +kernel
set_option maxRecDepth 100000 in
set_option maxHeartbeats 4000000 in
theorem c_X11_perform (l : Launch) (D : va_G) (t : Nat → ClassId) (G : GE) (κ : CS) (h : Nat) (a1 : Option Nat) (post : Int32 → CS → Prop) (hw : F_X11_perform G h a1 post κ) (sz : Nat) : CMi l D t yX11_perform cX11_perform 2 (some .int) 8 197 G κ sz [.ref h, va_rf a1] post := by
  refine c_go (by decide) (by cases a1 <;> exact Nat.le_of_ble_eq_true rfl) ?_
  intro p e s m below meth c ls A hF hr hlk hin hAe hH hA hE hl
  unfold cB
  rw [hAe]
  clear hAe
  have hF : FX p m c cX11_perform 2 s _ RX11 D t := hF
  have hx := hF.1.1
  have hb := hF.1.2.1
  have hl : lv_has ls 2 [(0, .ref h), (1, va_rf a1)] := (by have h2 := hl; clear hw; revert h2; cases a1 <;> exact id)
  unfold F_X11_perform at hw
  refine w_aloadq_n hF dX11_perform_0 rfl (lv_at hl 1 rfl) ?_
  refine cw_getI (q := a1) hF hH fk_X11_271 dX11_perform_1 hw (fun z1 hw => ?_)
  obtain ⟨K4, hK5, hw⟩ := jc_open hw
  refine cw_join (K := K4) 117 (fun (x2 : Unit) => []) (fun (x2 : Unit) => []) hl hH (fun x2 κ3 ls H locs cells slots hl hw hH => ?_) (fun jn6 => ?_)
  · have hw := hK5 x2 κ3 hw
    have hl : lv_has ls 2 [] := hl
    refine lv_ldcw (v := (-1073741637)) hx hb hF.1.2.2.2.1 (hF.1.2.2.2.2 _ (wc_26 29 rfl)) dX11_perform_117 ?_
    exact cw_reti hF hH ⟨rfl, rfl⟩ hr rfl hlk dX11_perform_120 hw
  · skip
    by_cases ho : z1.toInt < 0 ∨ 13 < z1.toInt
    · have hw := hw.1 ho
      refine lv_tableOut (tgt := 117) hx hb dX11_perform_4 ho rfl ?_
      have hl : lv_has ls 2 [] := lv_sub hl [] rfl
      exact jn6 () κ ls _ _ _ _ hl hw hH
    · rcases (show z1.toInt = 0 ∨ z1.toInt = 1 ∨ z1.toInt = 2 ∨ z1.toInt = 3 ∨ z1.toInt = 4 ∨ z1.toInt = 5 ∨ z1.toInt = 6 ∨ z1.toInt = 7 ∨ z1.toInt = 8 ∨ z1.toInt = 9 ∨ z1.toInt = 10 ∨ z1.toInt = 11 ∨ z1.toInt = 12 ∨ z1.toInt = 13 by omega) with zt | zt | zt | zt | zt | zt | zt | zt | zt | zt | zt | zt | zt | zt
      · have hw := hw.2.1 zt
        have hoff : (#[72, 78, 84, 90, 96, 113, 113, 113, 113, 113, 113, 113, 107, 102] : Array Int)[(z1.toInt - 0).toNat]? = some 72 := by rw [zt]; rfl
        refine lv_tableIn (off := 72) (tgt := 76) hx hb dX11_perform_4 (fun q => ho (Or.inl q)) (fun q => ho (Or.inr q)) hoff rfl ?_
        refine lv_aload_n hx hb dX11_perform_76 rfl (lv_at hl 0 rfl) ?_
        refine w_aloadq_n hF dX11_perform_77 rfl (lv_at hl 1 rfl) ?_
        refine cw_cVi (b := h) (As := [va_rf a1]) (rest := []) hF hH hA hE mv_X11_432 ci_X11 (by decide) (fun sz => c_X11_negotiate l D t G _ h a1 _ hw.2 sz) dX11_perform_78 hw.1 ⟨Nat.le_of_ble_eq_true rfl, Nat.le_of_ble_eq_true rfl⟩ rfl hl.1 (Nat.le_of_ble_eq_true rfl) rfl (fun z8 κ7 H locs cells slots hw hH => ?_)
        exact cw_reti hF hH ⟨rfl, rfl⟩ hr rfl hlk dX11_perform_81 hw
      · have hw := hw.2.2.1 zt
        have hoff : (#[72, 78, 84, 90, 96, 113, 113, 113, 113, 113, 113, 113, 107, 102] : Array Int)[(z1.toInt - 0).toNat]? = some 78 := by rw [zt]; rfl
        refine lv_tableIn (off := 78) (tgt := 82) hx hb dX11_perform_4 (fun q => ho (Or.inl q)) (fun q => ho (Or.inr q)) hoff rfl ?_
        refine lv_aload_n hx hb dX11_perform_82 rfl (lv_at hl 0 rfl) ?_
        refine w_aloadq_n hF dX11_perform_83 rfl (lv_at hl 1 rfl) ?_
        refine cw_cVi (b := h) (As := [va_rf a1]) (rest := []) hF hH hA hE mv_X11_435 ci_X11 (by decide) (fun sz => c_X11_setUp l D t G _ h a1 _ hw.2 sz) dX11_perform_84 hw.1 ⟨Nat.le_of_ble_eq_true rfl, Nat.le_of_ble_eq_true rfl⟩ rfl hl.1 (Nat.le_of_ble_eq_true rfl) rfl (fun z10 κ9 H locs cells slots hw hH => ?_)
        exact cw_reti hF hH ⟨rfl, rfl⟩ hr rfl hlk dX11_perform_87 hw
      · have hw := hw.2.2.2.1 zt
        have hoff : (#[72, 78, 84, 90, 96, 113, 113, 113, 113, 113, 113, 113, 107, 102] : Array Int)[(z1.toInt - 0).toNat]? = some 84 := by rw [zt]; rfl
        refine lv_tableIn (off := 84) (tgt := 88) hx hb dX11_perform_4 (fun q => ho (Or.inl q)) (fun q => ho (Or.inr q)) hoff rfl ?_
        refine lv_aload_n hx hb dX11_perform_88 rfl (lv_at hl 0 rfl) ?_
        refine w_aloadq_n hF dX11_perform_89 rfl (lv_at hl 1 rfl) ?_
        refine cw_cVi (b := h) (As := [va_rf a1]) (rest := []) hF hH hA hE mv_X11_438 ci_X11 (by decide) (fun sz => c_X11_logOff l D t G _ h a1 _ hw.2 sz) dX11_perform_90 hw.1 ⟨Nat.le_of_ble_eq_true rfl, Nat.le_of_ble_eq_true rfl⟩ rfl hl.1 (Nat.le_of_ble_eq_true rfl) rfl (fun z12 κ11 H locs cells slots hw hH => ?_)
        exact cw_reti hF hH ⟨rfl, rfl⟩ hr rfl hlk dX11_perform_93 hw
      · have hw := hw.2.2.2.2.1 zt
        have hoff : (#[72, 78, 84, 90, 96, 113, 113, 113, 113, 113, 113, 113, 107, 102] : Array Int)[(z1.toInt - 0).toNat]? = some 90 := by rw [zt]; rfl
        refine lv_tableIn (off := 90) (tgt := 94) hx hb dX11_perform_4 (fun q => ho (Or.inl q)) (fun q => ho (Or.inr q)) hoff rfl ?_
        refine lv_aload_n hx hb dX11_perform_94 rfl (lv_at hl 0 rfl) ?_
        refine w_aloadq_n hF dX11_perform_95 rfl (lv_at hl 1 rfl) ?_
        refine cw_cVi (b := h) (As := [va_rf a1]) (rest := []) hF hH hA hE mv_X11_441 ci_X11 (by decide) (fun sz => c_X11_connectTree l D t G _ h a1 _ hw.2 sz) dX11_perform_96 hw.1 ⟨Nat.le_of_ble_eq_true rfl, Nat.le_of_ble_eq_true rfl⟩ rfl hl.1 (Nat.le_of_ble_eq_true rfl) rfl (fun z14 κ13 H locs cells slots hw hH => ?_)
        exact cw_reti hF hH ⟨rfl, rfl⟩ hr rfl hlk dX11_perform_99 hw
      · have hw := hw.2.2.2.2.2.1 zt
        have hoff : (#[72, 78, 84, 90, 96, 113, 113, 113, 113, 113, 113, 113, 107, 102] : Array Int)[(z1.toInt - 0).toNat]? = some 96 := by rw [zt]; rfl
        refine lv_tableIn (off := 96) (tgt := 100) hx hb dX11_perform_4 (fun q => ho (Or.inl q)) (fun q => ho (Or.inr q)) hoff rfl ?_
        refine lv_aload_n hx hb dX11_perform_100 rfl (lv_at hl 0 rfl) ?_
        refine w_aloadq_n hF dX11_perform_101 rfl (lv_at hl 1 rfl) ?_
        refine cw_cVi (b := h) (As := [va_rf a1]) (rest := []) hF hH hA hE mv_X11_444 ci_X11 (by decide) (fun sz => c_X11_disconnectTree l D t G _ h a1 _ hw.2 sz) dX11_perform_102 hw.1 ⟨Nat.le_of_ble_eq_true rfl, Nat.le_of_ble_eq_true rfl⟩ rfl hl.1 (Nat.le_of_ble_eq_true rfl) rfl (fun z16 κ15 H locs cells slots hw hH => ?_)
        exact cw_reti hF hH ⟨rfl, rfl⟩ hr rfl hlk dX11_perform_105 hw
      · have hw := hw.2.2.2.2.2.2.1 zt
        have hoff : (#[72, 78, 84, 90, 96, 113, 113, 113, 113, 113, 113, 113, 107, 102] : Array Int)[(z1.toInt - 0).toNat]? = some 113 := by rw [zt]; rfl
        refine lv_tableIn (off := 113) (tgt := 117) hx hb dX11_perform_4 (fun q => ho (Or.inl q)) (fun q => ho (Or.inr q)) hoff rfl ?_
        have hl : lv_has ls 2 [] := lv_sub hl [] rfl
        exact jn6 () κ ls _ _ _ _ hl hw hH
      · have hw := hw.2.2.2.2.2.2.2.1 zt
        have hoff : (#[72, 78, 84, 90, 96, 113, 113, 113, 113, 113, 113, 113, 107, 102] : Array Int)[(z1.toInt - 0).toNat]? = some 113 := by rw [zt]; rfl
        refine lv_tableIn (off := 113) (tgt := 117) hx hb dX11_perform_4 (fun q => ho (Or.inl q)) (fun q => ho (Or.inr q)) hoff rfl ?_
        have hl : lv_has ls 2 [] := lv_sub hl [] rfl
        exact jn6 () κ ls _ _ _ _ hl hw hH
      · have hw := hw.2.2.2.2.2.2.2.2.1 zt
        have hoff : (#[72, 78, 84, 90, 96, 113, 113, 113, 113, 113, 113, 113, 107, 102] : Array Int)[(z1.toInt - 0).toNat]? = some 113 := by rw [zt]; rfl
        refine lv_tableIn (off := 113) (tgt := 117) hx hb dX11_perform_4 (fun q => ho (Or.inl q)) (fun q => ho (Or.inr q)) hoff rfl ?_
        have hl : lv_has ls 2 [] := lv_sub hl [] rfl
        exact jn6 () κ ls _ _ _ _ hl hw hH
      · have hw := hw.2.2.2.2.2.2.2.2.2.1 zt
        have hoff : (#[72, 78, 84, 90, 96, 113, 113, 113, 113, 113, 113, 113, 107, 102] : Array Int)[(z1.toInt - 0).toNat]? = some 113 := by rw [zt]; rfl
        refine lv_tableIn (off := 113) (tgt := 117) hx hb dX11_perform_4 (fun q => ho (Or.inl q)) (fun q => ho (Or.inr q)) hoff rfl ?_
        have hl : lv_has ls 2 [] := lv_sub hl [] rfl
        exact jn6 () κ ls _ _ _ _ hl hw hH
      · have hw := hw.2.2.2.2.2.2.2.2.2.2.1 zt
        have hoff : (#[72, 78, 84, 90, 96, 113, 113, 113, 113, 113, 113, 113, 107, 102] : Array Int)[(z1.toInt - 0).toNat]? = some 113 := by rw [zt]; rfl
        refine lv_tableIn (off := 113) (tgt := 117) hx hb dX11_perform_4 (fun q => ho (Or.inl q)) (fun q => ho (Or.inr q)) hoff rfl ?_
        have hl : lv_has ls 2 [] := lv_sub hl [] rfl
        exact jn6 () κ ls _ _ _ _ hl hw hH
      · have hw := hw.2.2.2.2.2.2.2.2.2.2.2.1 zt
        have hoff : (#[72, 78, 84, 90, 96, 113, 113, 113, 113, 113, 113, 113, 107, 102] : Array Int)[(z1.toInt - 0).toNat]? = some 113 := by rw [zt]; rfl
        refine lv_tableIn (off := 113) (tgt := 117) hx hb dX11_perform_4 (fun q => ho (Or.inl q)) (fun q => ho (Or.inr q)) hoff rfl ?_
        have hl : lv_has ls 2 [] := lv_sub hl [] rfl
        exact jn6 () κ ls _ _ _ _ hl hw hH
      · have hw := hw.2.2.2.2.2.2.2.2.2.2.2.2.1 zt
        have hoff : (#[72, 78, 84, 90, 96, 113, 113, 113, 113, 113, 113, 113, 107, 102] : Array Int)[(z1.toInt - 0).toNat]? = some 113 := by rw [zt]; rfl
        refine lv_tableIn (off := 113) (tgt := 117) hx hb dX11_perform_4 (fun q => ho (Or.inl q)) (fun q => ho (Or.inr q)) hoff rfl ?_
        have hl : lv_has ls 2 [] := lv_sub hl [] rfl
        exact jn6 () κ ls _ _ _ _ hl hw hH
      · have hw := hw.2.2.2.2.2.2.2.2.2.2.2.2.2.1 zt
        have hoff : (#[72, 78, 84, 90, 96, 113, 113, 113, 113, 113, 113, 113, 107, 102] : Array Int)[(z1.toInt - 0).toNat]? = some 107 := by rw [zt]; rfl
        refine lv_tableIn (off := 107) (tgt := 111) hx hb dX11_perform_4 (fun q => ho (Or.inl q)) (fun q => ho (Or.inr q)) hoff rfl ?_
        refine lv_aload_n hx hb dX11_perform_111 rfl (lv_at hl 0 rfl) ?_
        refine w_aloadq_n hF dX11_perform_112 rfl (lv_at hl 1 rfl) ?_
        refine cw_cVi (b := h) (As := [va_rf a1]) (rest := []) hF hH hA hE mv_X11_450 ci_X11 (by decide) (fun sz => c_X11_cancel l D t G _ h a1 _ hw.2 sz) dX11_perform_113 hw.1 ⟨Nat.le_of_ble_eq_true rfl, Nat.le_of_ble_eq_true rfl⟩ rfl hl.1 (Nat.le_of_ble_eq_true rfl) rfl (fun z18 κ17 H locs cells slots hw hH => ?_)
        exact cw_reti hF hH ⟨rfl, rfl⟩ hr rfl hlk dX11_perform_116 hw
      · have hw := hw.2.2.2.2.2.2.2.2.2.2.2.2.2.2 zt
        have hoff : (#[72, 78, 84, 90, 96, 113, 113, 113, 113, 113, 113, 113, 107, 102] : Array Int)[(z1.toInt - 0).toNat]? = some 102 := by rw [zt]; rfl
        refine lv_tableIn (off := 102) (tgt := 106) hx hb dX11_perform_4 (fun q => ho (Or.inl q)) (fun q => ho (Or.inr q)) hoff rfl ?_
        refine lv_aload_n hx hb dX11_perform_106 rfl (lv_at hl 0 rfl) ?_
        refine cw_cVi (b := h) (As := []) (rest := []) hF hH hA hE mv_X11_447 ci_X11 (by decide) (fun sz => c_X11_plainAnswer l D t G _ h  _ hw.2 sz) dX11_perform_107 hw.1 ⟨Nat.le_of_ble_eq_true rfl, Nat.le_of_ble_eq_true rfl⟩ rfl hl.1 (Nat.le_of_ble_eq_true rfl) rfl (fun z20 κ19 H locs cells slots hw hH => ?_)
        exact cw_reti hF hH ⟨rfl, rfl⟩ hr rfl hlk dX11_perform_110 hw
set_option maxRecDepth 100000 in
def F_X11_finish (G : GE) (h : Nat) (a1 : Option Nat) (a2 : Int32) (post : CS → Prop) (κ : CS) : Prop := ∃ b : Nat, a1 = some b ∧ (b ∈ sL κ.1 ∧ sK κ.1 b = 8) ∧ ∀ z1 : Option Nat, z1 = sP κ.1 b 0 → ∃ b : Nat, a1 = some b ∧ (b ∈ sL κ.1 ∧ sK κ.1 b = 8) ∧ ∀ z2 : Int32, z2 = sI κ.1 b 5 → jc (fun (K5 : Unit → CS → Prop) => ((z2.toInt = (12 : Int32).toInt) → K5 () κ) ∧ ((¬ z2.toInt = (12 : Int32).toInt) → (h ∈ sL κ.1 ∧ sK κ.1 h = 1) ∧ ∀ z25 : Option Nat, z25 = sP κ.1 h 15 → ∃ b : Nat, a1 = some b ∧ (b ∈ sL κ.1 ∧ sK κ.1 b = 8) ∧ ∀ z26 : Int32, z26 = sI κ.1 b 6 → ∃ b : Nat, z1 = some b ∧ (b ∈ sL κ.1 ∧ sK κ.1 b = 3) ∧ F_X2_grant G b z26 (fun (z28 : Int32) (κ27 : CS) => (h ∈ sL κ27.1 ∧ sK κ27.1 h = 1) ∧ F_X11_seal G h z25 a1 a2 z28 (fun (κ29 : CS) => (h ∈ sL κ29.1 ∧ sK κ29.1 h = 1) ∧ ∀ z31 : Option Nat, z31 = sP κ29.1 h 14 → (h ∈ sL κ29.1 ∧ sK κ29.1 h = 1) ∧ ∀ z32 : Option Nat, z32 = sP κ29.1 h 15 → ∃ b : Nat, z1 = some b ∧ (b ∈ sL κ29.1 ∧ sK κ29.1 b = 3) ∧ ∀ z33 : Int32, z33 = sI κ29.1 b 9 → ∃ b : Nat, z31 = some b ∧ (b ∈ sL κ29.1 ∧ sK κ29.1 b = 2) ∧ F_X6_chain G b z32 z33 (fun (z35 : Int32) (κ34 : CS) => ∃ b : Nat, z1 = some b ∧ (b ∈ sL κ34.1 ∧ sK κ34.1 b = 3) ∧ ∀ κ36 : CS, κ36 = (h_uI κ34.1 b 9 z35, κ34.2) → K5 () κ36) κ29) κ27) κ)) (fun (x3 : Unit) (κ4 : CS) => ∃ b : Nat, a1 = some b ∧ (b ∈ sL κ4.1 ∧ sK κ4.1 b = 8) ∧ ∀ z8 : Int32, z8 = sI κ4.1 b 5 → jc (fun (K11 : Unit → CS → Prop) => ((¬ z8.toInt = (5 : Int32).toInt) → K11 () κ4) ∧ ((z8.toInt = (5 : Int32).toInt) → ∃ b : Nat, a1 = some b ∧ (b ∈ sL κ4.1 ∧ sK κ4.1 b = 8) ∧ ∀ z18 : Option Nat, z18 = sP κ4.1 b 15 → ((z18 = none) → K11 () κ4) ∧ ((¬ z18 = none) → ∃ b : Nat, a1 = some b ∧ (b ∈ sL κ4.1 ∧ sK κ4.1 b = 8) ∧ ∀ z19 : Option Nat, z19 = sP κ4.1 b 15 → ∃ b : Nat, z19 = some b ∧ (b ∈ sL κ4.1 ∧ sK κ4.1 b = 10) ∧ ∀ z20 : Int64, z20 = sJ κ4.1 b 0 → ∃ b : Nat, a1 = some b ∧ (b ∈ sL κ4.1 ∧ sK κ4.1 b = 8) ∧ ∀ z21 : Option Nat, z21 = sP κ4.1 b 15 → ∃ b : Nat, z21 = some b ∧ (b ∈ sL κ4.1 ∧ sK κ4.1 b = 10) ∧ ∀ z22 : Int64, z22 = sJ κ4.1 b 0 → ∃ b : Nat, z1 = some b ∧ (b ∈ sL κ4.1 ∧ sK κ4.1 b = 3) ∧ F_X2_tellFile G b z20 z22 (fun (κ23 : CS) => K11 () κ23) κ4))) (fun (x9 : Unit) (κ10 : CS) => ∃ b : Nat, a1 = some b ∧ (b ∈ sL κ10.1 ∧ sK κ10.1 b = 8) ∧ ∀ z14 : Int64, z14 = sJ κ10.1 b 11 → ∃ b : Nat, z1 = some b ∧ (b ∈ sL κ10.1 ∧ sK κ10.1 b = 3) ∧ ∀ κ15 : CS, κ15 = (h_uJ κ10.1 b 10 z14, κ10.2) → ∃ b : Nat, a1 = some b ∧ (b ∈ sL κ15.1 ∧ sK κ15.1 b = 8) ∧ ∀ z16 : Int64, z16 = sJ κ15.1 b 10 → ∃ b : Nat, z1 = some b ∧ (b ∈ sL κ15.1 ∧ sK κ15.1 b = 3) ∧ ∀ κ17 : CS, κ17 = (h_uJ κ15.1 b 11 z16, κ15.2) → post κ17))
theorem dX11_finish_0 : decode cX11_finish 0 = .ok (.aload_n 1, 1) := by decide +kernel
theorem dX11_finish_1 : decode cX11_finish 1 = .ok (.getfield 310, 3) := by decide +kernel
theorem dX11_finish_4 : decode cX11_finish 4 = .ok (.astore_n 3, 1) := by decide +kernel
theorem dX11_finish_5 : decode cX11_finish 5 = .ok (.aload_n 1, 1) := by decide +kernel
theorem dX11_finish_6 : decode cX11_finish 6 = .ok (.getfield 271, 3) := by decide +kernel
theorem dX11_finish_9 : decode cX11_finish 9 = .ok (.bipush 12, 2) := by decide +kernel
theorem dX11_finish_11 : decode cX11_finish 11 = .ok (.if_icmp .eq 40, 3) := by decide +kernel
theorem dX11_finish_14 : decode cX11_finish 14 = .ok (.aload_n 0, 1) := by decide +kernel
theorem dX11_finish_15 : decode cX11_finish 15 = .ok (.aload_n 0, 1) := by decide +kernel
theorem dX11_finish_16 : decode cX11_finish 16 = .ok (.getfield 68, 3) := by decide +kernel
theorem dX11_finish_19 : decode cX11_finish 19 = .ok (.aload_n 1, 1) := by decide +kernel
theorem dX11_finish_20 : decode cX11_finish 20 = .ok (.iload_n 2, 1) := by decide +kernel
theorem dX11_finish_21 : decode cX11_finish 21 = .ok (.aload_n 3, 1) := by decide +kernel
theorem dX11_finish_22 : decode cX11_finish 22 = .ok (.aload_n 1, 1) := by decide +kernel
theorem dX11_finish_23 : decode cX11_finish 23 = .ok (.getfield 314, 3) := by decide +kernel
theorem dX11_finish_26 : decode cX11_finish 26 = .ok (.invokevirtual 317, 3) := by decide +kernel
theorem dX11_finish_29 : decode cX11_finish 29 = .ok (.invokevirtual 320, 3) := by decide +kernel
theorem dX11_finish_32 : decode cX11_finish 32 = .ok (.aload_n 3, 1) := by decide +kernel
theorem dX11_finish_33 : decode cX11_finish 33 = .ok (.aload_n 0, 1) := by decide +kernel
theorem dX11_finish_34 : decode cX11_finish 34 = .ok (.getfield 65, 3) := by decide +kernel
theorem dX11_finish_37 : decode cX11_finish 37 = .ok (.aload_n 0, 1) := by decide +kernel
theorem dX11_finish_38 : decode cX11_finish 38 = .ok (.getfield 68, 3) := by decide +kernel
theorem dX11_finish_41 : decode cX11_finish 41 = .ok (.aload_n 3, 1) := by decide +kernel
theorem dX11_finish_42 : decode cX11_finish 42 = .ok (.getfield 256, 3) := by decide +kernel
theorem dX11_finish_45 : decode cX11_finish 45 = .ok (.invokevirtual 324, 3) := by decide +kernel
theorem dX11_finish_48 : decode cX11_finish 48 = .ok (.putfield 256, 3) := by decide +kernel
theorem dX11_finish_51 : decode cX11_finish 51 = .ok (.aload_n 1, 1) := by decide +kernel
theorem dX11_finish_52 : decode cX11_finish 52 = .ok (.getfield 271, 3) := by decide +kernel
theorem dX11_finish_55 : decode cX11_finish 55 = .ok (.iconst 5, 1) := by decide +kernel
theorem dX11_finish_56 : decode cX11_finish 56 = .ok (.if_icmp .ne 28, 3) := by decide +kernel
theorem dX11_finish_59 : decode cX11_finish 59 = .ok (.aload_n 1, 1) := by decide +kernel
theorem dX11_finish_60 : decode cX11_finish 60 = .ok (.getfield 288, 3) := by decide +kernel
theorem dX11_finish_63 : decode cX11_finish 63 = .ok (.ifnull 21, 3) := by decide +kernel
theorem dX11_finish_66 : decode cX11_finish 66 = .ok (.aload_n 3, 1) := by decide +kernel
theorem dX11_finish_67 : decode cX11_finish 67 = .ok (.aload_n 1, 1) := by decide +kernel
theorem dX11_finish_68 : decode cX11_finish 68 = .ok (.getfield 288, 3) := by decide +kernel
theorem dX11_finish_71 : decode cX11_finish 71 = .ok (.getfield 328, 3) := by decide +kernel
theorem dX11_finish_74 : decode cX11_finish 74 = .ok (.aload_n 1, 1) := by decide +kernel
theorem dX11_finish_75 : decode cX11_finish 75 = .ok (.getfield 288, 3) := by decide +kernel
theorem dX11_finish_78 : decode cX11_finish 78 = .ok (.getfield 328, 3) := by decide +kernel
theorem dX11_finish_81 : decode cX11_finish 81 = .ok (.invokevirtual 331, 3) := by decide +kernel
theorem dX11_finish_84 : decode cX11_finish 84 = .ok (.aload_n 3, 1) := by decide +kernel
theorem dX11_finish_85 : decode cX11_finish 85 = .ok (.aload_n 1, 1) := by decide +kernel
theorem dX11_finish_86 : decode cX11_finish 86 = .ok (.getfield 335, 3) := by decide +kernel
theorem dX11_finish_89 : decode cX11_finish 89 = .ok (.putfield 338, 3) := by decide +kernel
theorem dX11_finish_92 : decode cX11_finish 92 = .ok (.aload_n 3, 1) := by decide +kernel
theorem dX11_finish_93 : decode cX11_finish 93 = .ok (.aload_n 1, 1) := by decide +kernel
theorem dX11_finish_94 : decode cX11_finish 94 = .ok (.getfield 341, 3) := by decide +kernel
theorem dX11_finish_97 : decode cX11_finish 97 = .ok (.putfield 344, 3) := by decide +kernel
theorem dX11_finish_100 : decode cX11_finish 100 = .ok (.return_, 1) := by decide +kernel
set_option maxRecDepth 100000 in
set_option maxHeartbeats 4000000 in
theorem c_X11_finish (l : Launch) (D : va_G) (t : Nat → ClassId) (G : GE) (κ : CS) (h : Nat) (a1 : Option Nat) (a2 : Int32) (post : CS → Prop) (hw : F_X11_finish G h a1 a2 post κ) (sz : Nat) : CMv l D t yX11_finish cX11_finish 4 4 107 G κ sz [.ref h, va_rf a1, .int a2] post := by
  refine c_go (by decide) (by cases a1 <;> exact Nat.le_of_ble_eq_true rfl) ?_
  intro p e s m below meth c ls A hF hr hlk hin hAe hH hA hE hl
  unfold cB
  rw [hAe]
  clear hAe
  have hF : FX p m c cX11_finish 4 s _ RX11 D t := hF
  have hx := hF.1.1
  have hb := hF.1.2.1
  have hl : lv_has ls 4 [(0, .ref h), (1, va_rf a1), (2, .int a2)] := (by have h2 := hl; clear hw; revert h2; cases a1 <;> exact id)
  unfold F_X11_finish at hw
  refine w_aloadq_n hF dX11_finish_0 rfl (lv_at hl 1 rfl) ?_
  refine cw_getP (q := a1) hF hH fk_X11_310 dX11_finish_1 hw (fun z1 hw => ?_)
  refine w_astoreq_n (lv' := [(3, va_rf z1), (0, .ref h), (1, va_rf a1), (2, .int a2)]) hF dX11_finish_4 rfl hl (by decide) rfl (fun ls hl => ?_)
  refine w_aloadq_n hF dX11_finish_5 rfl (lv_at hl 2 rfl) ?_
  refine cw_getI (q := a1) hF hH fk_X11_271 dX11_finish_6 hw (fun z2 hw => ?_)
  refine lv_bipush (v := 12) hx hb dX11_finish_9 (by decide) ?_
  obtain ⟨K5, hK6, hw⟩ := jc_open hw
  refine cw_join (K := K5) 51 (fun (x3 : Unit) => [(3, va_rf z1), (1, va_rf a1)]) (fun (x3 : Unit) => []) hl hH (fun x3 κ4 ls H locs cells slots hl hw hH => ?_) (fun jn7 => ?_)
  · have hw := hK6 x3 κ4 hw
    have hl : lv_has ls 4 [(3, va_rf z1), (1, va_rf a1)] := hl
    refine w_aloadq_n hF dX11_finish_51 rfl (lv_at hl 1 rfl) ?_
    refine cw_getI (q := a1) hF hH fk_X11_271 dX11_finish_52 hw (fun z8 hw => ?_)
    refine lv_iconst (v := 5) hx hb dX11_finish_55 (by decide) ?_
    obtain ⟨K11, hK12, hw⟩ := jc_open hw
    refine cw_join (K := K11) 84 (fun (x9 : Unit) => [(3, va_rf z1), (1, va_rf a1)]) (fun (x9 : Unit) => []) hl hH (fun x9 κ10 ls H locs cells slots hl hw hH => ?_) (fun jn13 => ?_)
    · have hw := hK12 x9 κ10 hw
      have hl : lv_has ls 4 [(3, va_rf z1), (1, va_rf a1)] := hl
      refine w_aloadq_n hF dX11_finish_84 rfl (lv_at hl 0 rfl) ?_
      refine w_aloadq_n hF dX11_finish_85 rfl (lv_at hl 1 rfl) ?_
      refine cw_getJ (q := a1) hF hH fk_X11_335 dX11_finish_86 hw (fun z14 hw => ?_)
      refine cw_putJ (q := z1) (v := z14) hF hH fk_X11_338 dX11_finish_89 rfl rfl rfl hw (fun κ15 H locs cells slots hw hH => ?_)
      refine w_aloadq_n hF dX11_finish_92 rfl (lv_at hl 0 rfl) ?_
      refine w_aloadq_n hF dX11_finish_93 rfl (lv_at hl 1 rfl) ?_
      refine cw_getJ (q := a1) hF hH fk_X11_341 dX11_finish_94 hw (fun z16 hw => ?_)
      refine cw_putJ (q := z1) (v := z16) hF hH fk_X11_344 dX11_finish_97 rfl rfl rfl hw (fun κ17 H locs cells slots hw hH => ?_)
      exact cw_retv hF hH ⟨rfl, rfl⟩ hr hlk dX11_finish_100 hw
    · skip
      refine w_icmp_ne (tgt := 84) hF dX11_finish_56 rfl hw (fun hw => ?_) (fun hw => ?_)
      · exact jn13 () κ4 ls _ _ _ _ hl hw hH
      · refine w_aloadq_n hF dX11_finish_59 rfl (lv_at hl 1 rfl) ?_
        refine cw_getP (q := a1) hF hH fk_X11_288 dX11_finish_60 hw (fun z18 hw => ?_)
        refine cw_ifnull (q := z18) (tgt := 84) hF dX11_finish_63 rfl hw (fun hw => ?_) (fun hw => ?_)
        · exact jn13 () κ4 ls _ _ _ _ hl hw hH
        · refine w_aloadq_n hF dX11_finish_66 rfl (lv_at hl 0 rfl) ?_
          refine w_aloadq_n hF dX11_finish_67 rfl (lv_at hl 1 rfl) ?_
          refine cw_getP (q := a1) hF hH fk_X11_288 dX11_finish_68 hw (fun z19 hw => ?_)
          refine cw_getJ (q := z19) hF hH fk_X11_328 dX11_finish_71 hw (fun z20 hw => ?_)
          refine w_aloadq_n hF dX11_finish_74 rfl (lv_at hl 1 rfl) ?_
          refine cw_getP (q := a1) hF hH fk_X11_288 dX11_finish_75 hw (fun z21 hw => ?_)
          refine cw_getJ (q := z21) hF hH fk_X11_328 dX11_finish_78 hw (fun z22 hw => ?_)
          refine cw_cVvq (q := z1) (As := [.long z20, .long z22]) (rest := []) hF hH hA hE mv_X11_331 ci_X2 (by decide) hw (fun b hw sz => c_X2_tellFile l D t G _ b z20 z22 _ hw sz) dX11_finish_81 ⟨Nat.le_of_ble_eq_true rfl, Nat.le_of_ble_eq_true rfl⟩ rfl hl.1 (Nat.le_of_ble_eq_true rfl) rfl (fun κ23 H locs cells slots hw hH => ?_)
          exact jn13 () κ23 ls _ _ _ _ hl hw hH
  · skip
    refine w_icmp_eq (tgt := 51) hF dX11_finish_11 rfl hw (fun hw => ?_) (fun hw => ?_)
    · have hl : lv_has ls 4 [(3, va_rf z1), (1, va_rf a1)] := lv_sub hl [0, 2] rfl
      exact jn7 () κ ls _ _ _ _ hl hw hH
    · refine lv_aload_n hx hb dX11_finish_14 rfl (lv_at hl 1 rfl) ?_
      refine lv_aload_n hx hb dX11_finish_15 rfl (lv_at hl 1 rfl) ?_
      refine cw_getPr (a := h) hF hH fk_X11_68 dX11_finish_16 hw (fun z25 hw => ?_)
      refine w_aloadq_n hF dX11_finish_19 rfl (lv_at hl 2 rfl) ?_
      refine lv_iload_n hx hb dX11_finish_20 rfl (lv_at hl 3 rfl) ?_
      refine w_aloadq_n hF dX11_finish_21 rfl (lv_at hl 0 rfl) ?_
      refine w_aloadq_n hF dX11_finish_22 rfl (lv_at hl 2 rfl) ?_
      refine cw_getI (q := a1) hF hH fk_X11_314 dX11_finish_23 hw (fun z26 hw => ?_)
      refine cw_cViq (q := z1) (As := [.int z26]) (rest := [.int a2, va_rf a1, va_rf z25, .ref h]) hF hH hA hE mv_X11_317 ci_X2 (by decide) hw (fun b hw sz => c_X2_grant l D t G _ b z26 _ hw sz) dX11_finish_26 ⟨Nat.le_of_ble_eq_true rfl, Nat.le_of_ble_eq_true rfl⟩ rfl hl.1 (by simp only [List.map_cons, List.map_nil, cat_rf]; exact Nat.le_of_ble_eq_true rfl) rfl (fun z28 κ27 H locs cells slots hw hH => ?_)
      refine cw_cVv (b := h) (As := [va_rf z25, va_rf a1, .int a2, .int z28]) (rest := []) hF hH hA hE mv_X11_320 ci_X11 (by decide) (fun sz => c_X11_seal l D t G _ h z25 a1 a2 z28 _ hw.2 sz) dX11_finish_29 hw.1 ⟨Nat.le_of_ble_eq_true rfl, Nat.le_of_ble_eq_true rfl⟩ rfl hl.1 (Nat.le_of_ble_eq_true rfl) rfl (fun κ29 H locs cells slots hw hH => ?_)
      refine w_aloadq_n hF dX11_finish_32 rfl (lv_at hl 0 rfl) ?_
      refine lv_aload_n hx hb dX11_finish_33 rfl (lv_at hl 1 rfl) ?_
      refine cw_getPr (a := h) hF hH fk_X11_65 dX11_finish_34 hw (fun z31 hw => ?_)
      refine lv_aload_n hx hb dX11_finish_37 rfl (lv_at hl 1 rfl) ?_
      refine cw_getPr (a := h) hF hH fk_X11_68 dX11_finish_38 hw (fun z32 hw => ?_)
      refine w_aloadq_n hF dX11_finish_41 rfl (lv_at hl 0 rfl) ?_
      refine cw_getI (q := z1) hF hH fk_X11_256 dX11_finish_42 hw (fun z33 hw => ?_)
      refine cw_cViq (q := z31) (As := [va_rf z32, .int z33]) (rest := [va_rf z1]) hF hH hA hE mv_X11_324 ci_X6 (by decide) hw (fun b hw sz => c_X6_chain l D t G _ b z32 z33 _ hw sz) dX11_finish_45 ⟨Nat.le_of_ble_eq_true rfl, Nat.le_of_ble_eq_true rfl⟩ rfl hl.1 (by simp only [List.map_cons, List.map_nil, cat_rf]; exact Nat.le_of_ble_eq_true rfl) rfl (fun z35 κ34 H locs cells slots hw hH => ?_)
      refine cw_putI (q := z1) (v := z35) hF hH fk_X11_256 dX11_finish_48 rfl rfl rfl hw (fun κ36 H locs cells slots hw hH => ?_)
      have hl : lv_has ls 4 [(3, va_rf z1), (1, va_rf a1)] := lv_sub hl [0, 2] rfl
      exact jn7 () κ36 ls _ _ _ _ hl hw hH
set_option maxRecDepth 100000 in
def F_X11_request (G : GE) (h : Nat) (a1 : Option Nat) (post : Int32 → CS → Prop) (κ : CS) : Prop := (21 + 12 ≤ κ.2) ∧ ∀ o1 : Nat, o1 ∉ sL κ.1 → ∀ κ2 : CS, κ2 = (h_uN κ.1 o1 8 0, κ.2 - (21 + 12)) → F_X0_init G o1 a1 (fun (κ3 : CS) => (o1 ∈ sL κ3.1 ∧ sK κ3.1 o1 = 8) ∧ F_X0_stands G o1  (fun (z6 : Int32) (κ5 : CS) => jc (fun (K9 : Unit → CS → Prop) => ((z6.toInt = 0) → K9 () κ5) ∧ ((¬ z6.toInt = 0) → (o1 ∈ sL κ5.1 ∧ sK κ5.1 o1 = 8) ∧ ∀ z16 : Int32, z16 = sI κ5.1 o1 5 → (o1 ∈ sL κ5.1 ∧ sK κ5.1 o1 = 8) ∧ ∀ z17 : Int64, z17 = sJ κ5.1 o1 8 → ∃ b : Nat, a1 = some b ∧ (b ∈ sL κ5.1 ∧ sK κ5.1 b = 3) ∧ F_X2_admits G b z16 z17 (fun (z19 : Int32) (κ18 : CS) => ((¬ z19.toInt = 0) → (0 ≤ (0 : Int32).toInt ∧ (0 : Int32).toInt ≤ 1) ∧ ∃ b : Nat, a1 = some b ∧ (b ∈ sL κ18.1 ∧ sK κ18.1 b = 3) ∧ ∀ κ20 : CS, κ20 = (h_uI κ18.1 b 12 0, κ18.2) → (h ∈ sL κ20.1 ∧ sK κ20.1 h = 1) ∧ F_X11_look G h (some o1) (fun (z22 : Int32) (κ21 : CS) => jc (fun (K25 : Int32 → CS → Prop) => ((¬ z22.toInt = 0) → K25 z22 κ21) ∧ ((z22.toInt = 0) → (h ∈ sL κ21.1 ∧ sK κ21.1 h = 1) ∧ F_X11_prepare G h (some o1) (fun (z70 : Int32) (κ69 : CS) => K25 z70 κ69) κ21)) (fun (x23 : Int32) (κ24 : CS) => (h ∈ sL κ24.1 ∧ sK κ24.1 h = 1) ∧ F_X11_settle G h  (fun (κ28 : CS) => jc (fun (K32 : Int32 → CS → Prop) => jc (fun (K52 : Unit → CS → Prop) => ((¬ x23.toInt = 0) → K52 () κ28) ∧ ((x23.toInt = 0) → (o1 ∈ sL κ28.1 ∧ sK κ28.1 o1 = 8) ∧ ∀ z65 : Option Nat, z65 = sP κ28.1 o1 15 → ((z65 = none) → K52 () κ28) ∧ ((¬ z65 = none) → (o1 ∈ sL κ28.1 ∧ sK κ28.1 o1 = 8) ∧ ∀ z66 : Option Nat, z66 = sP κ28.1 o1 15 → (h ∈ sL κ28.1 ∧ sK κ28.1 h = 1) ∧ F_X11_performOnFile G h (some o1) z66 (fun (z68 : Int32) (κ67 : CS) => K32 z68 κ67) κ28))) (fun (x50 : Unit) (κ51 : CS) => ((¬ x23.toInt = 0) → K32 x23 κ51) ∧ ((x23.toInt = 0) → (o1 ∈ sL κ51.1 ∧ sK κ51.1 o1 = 8) ∧ ∀ z55 : Int32, z55 = sI κ51.1 o1 5 → jc (fun (K58 : Int32 → CS → Prop) => ((¬ z55.toInt = (5 : Int32).toInt) → (h ∈ sL κ51.1 ∧ sK κ51.1 h = 1) ∧ F_X11_perform G h (some o1) (fun (z62 : Int32) (κ61 : CS) => K58 z62 κ61) κ51) ∧ ((z55.toInt = (5 : Int32).toInt) → (h ∈ sL κ51.1 ∧ sK κ51.1 h = 1) ∧ F_X11_openOrWait G h (some o1) (fun (z64 : Int32) (κ63 : CS) => K58 z64 κ63) κ51)) (fun (x56 : Int32) (κ57 : CS) => K32 x56 κ57)))) (fun (x30 : Int32) (κ31 : CS) => (h ∈ sL κ31.1 ∧ sK κ31.1 h = 1) ∧ F_X11_settle G h  (fun (κ35 : CS) => (h ∈ sL κ35.1 ∧ sK κ35.1 h = 1) ∧ F_X11_finish G h (some o1) x30 (fun (κ37 : CS) => ∃ b : Nat, a1 = some b ∧ (b ∈ sL κ37.1 ∧ sK κ37.1 b = 3) ∧ ∀ z39 : Int32, z39 = sI κ37.1 b 8 → (o1 ∈ sL κ37.1 ∧ sK κ37.1 o1 = 8) ∧ ∀ z40 : Int32, z40 = sI κ37.1 o1 2 → ∀ z41 : Int32, z41 = z39 + z40 → ∃ b : Nat, a1 = some b ∧ (b ∈ sL κ37.1 ∧ sK κ37.1 b = 3) ∧ ∀ κ42 : CS, κ42 = (h_uI κ37.1 b 8 z41, κ37.2) → (o1 ∈ sL κ42.1 ∧ sK κ42.1 o1 = 8) ∧ F_X0_last G o1  (fun (z44 : Int32) (κ43 : CS) => jc (fun (K47 : Int32 → CS → Prop) => ((¬ z44.toInt = 0) → K47 0 κ43) ∧ ((z44.toInt = 0) → K47 1 κ43)) (fun (x45 : Int32) (κ46 : CS) => (0 ≤ x45.toInt ∧ x45.toInt ≤ 1) ∧ post x45 κ46)) κ42) κ35) κ31)) κ24)) κ20) ∧ ((z19.toInt = 0) → K9 () κ18)) κ5)) (fun (x7 : Unit) (κ8 : CS) => (h ∈ sL κ8.1 ∧ sK κ8.1 h = 1) ∧ F_X11_shutOff G h a1 (fun (κ12 : CS) => (h ∈ sL κ12.1 ∧ sK κ12.1 h = 1) ∧ F_X11_settle G h  (fun (κ14 : CS) => (0 ≤ (0 : Int32).toInt ∧ (0 : Int32).toInt ≤ 1) ∧ post 0 κ14) κ12) κ8)) κ3) κ2
theorem dX11_request_0 : decode cX11_request 0 = .ok (.new 264, 3) := by decide +kernel
theorem dX11_request_3 : decode cX11_request 3 = .ok (.dup, 1) := by decide +kernel
theorem dX11_request_4 : decode cX11_request 4 = .ok (.aload_n 1, 1) := by decide +kernel
theorem dX11_request_5 : decode cX11_request 5 = .ok (.invokespecial 266, 3) := by decide +kernel
theorem dX11_request_8 : decode cX11_request 8 = .ok (.astore_n 2, 1) := by decide +kernel
theorem dX11_request_9 : decode cX11_request 9 = .ok (.aload_n 2, 1) := by decide +kernel
theorem dX11_request_10 : decode cX11_request 10 = .ok (.invokevirtual 268, 3) := by decide +kernel
theorem dX11_request_13 : decode cX11_request 13 = .ok (.ifCond .eq 18, 3) := by decide +kernel
theorem dX11_request_16 : decode cX11_request 16 = .ok (.aload_n 1, 1) := by decide +kernel
theorem dX11_request_17 : decode cX11_request 17 = .ok (.aload_n 2, 1) := by decide +kernel
theorem dX11_request_18 : decode cX11_request 18 = .ok (.getfield 271, 3) := by decide +kernel
theorem dX11_request_21 : decode cX11_request 21 = .ok (.aload_n 2, 1) := by decide +kernel
theorem dX11_request_22 : decode cX11_request 22 = .ok (.getfield 274, 3) := by decide +kernel
theorem dX11_request_25 : decode cX11_request 25 = .ok (.invokevirtual 277, 3) := by decide +kernel
theorem dX11_request_28 : decode cX11_request 28 = .ok (.ifCond .ne 14, 3) := by decide +kernel
theorem dX11_request_31 : decode cX11_request 31 = .ok (.aload_n 0, 1) := by decide +kernel
theorem dX11_request_32 : decode cX11_request 32 = .ok (.aload_n 1, 1) := by decide +kernel
theorem dX11_request_33 : decode cX11_request 33 = .ok (.invokevirtual 119, 3) := by decide +kernel
theorem dX11_request_36 : decode cX11_request 36 = .ok (.aload_n 0, 1) := by decide +kernel
theorem dX11_request_37 : decode cX11_request 37 = .ok (.invokevirtual 123, 3) := by decide +kernel
theorem dX11_request_40 : decode cX11_request 40 = .ok (.iconst 0, 1) := by decide +kernel
theorem dX11_request_41 : decode cX11_request 41 = .ok (.ireturn, 1) := by decide +kernel
theorem dX11_request_42 : decode cX11_request 42 = .ok (.aload_n 1, 1) := by decide +kernel
theorem dX11_request_43 : decode cX11_request 43 = .ok (.iconst 0, 1) := by decide +kernel
theorem dX11_request_44 : decode cX11_request 44 = .ok (.putfield 259, 3) := by decide +kernel
theorem dX11_request_47 : decode cX11_request 47 = .ok (.aload_n 0, 1) := by decide +kernel
theorem dX11_request_48 : decode cX11_request 48 = .ok (.aload_n 2, 1) := by decide +kernel
theorem dX11_request_49 : decode cX11_request 49 = .ok (.invokevirtual 281, 3) := by decide +kernel
theorem dX11_request_52 : decode cX11_request 52 = .ok (.istore_n 3, 1) := by decide +kernel
theorem dX11_request_53 : decode cX11_request 53 = .ok (.iload_n 3, 1) := by decide +kernel
theorem dX11_request_54 : decode cX11_request 54 = .ok (.ifCond .ne 9, 3) := by decide +kernel
theorem dX11_request_57 : decode cX11_request 57 = .ok (.aload_n 0, 1) := by decide +kernel
theorem dX11_request_58 : decode cX11_request 58 = .ok (.aload_n 2, 1) := by decide +kernel
theorem dX11_request_59 : decode cX11_request 59 = .ok (.invokevirtual 285, 3) := by decide +kernel
theorem dX11_request_62 : decode cX11_request 62 = .ok (.istore_n 3, 1) := by decide +kernel
theorem dX11_request_63 : decode cX11_request 63 = .ok (.aload_n 0, 1) := by decide +kernel
theorem dX11_request_64 : decode cX11_request 64 = .ok (.invokevirtual 123, 3) := by decide +kernel
theorem dX11_request_67 : decode cX11_request 67 = .ok (.iload_n 3, 1) := by decide +kernel
theorem dX11_request_68 : decode cX11_request 68 = .ok (.ifCond .ne 23, 3) := by decide +kernel
theorem dX11_request_71 : decode cX11_request 71 = .ok (.aload_n 2, 1) := by decide +kernel
theorem dX11_request_72 : decode cX11_request 72 = .ok (.getfield 288, 3) := by decide +kernel
theorem dX11_request_75 : decode cX11_request 75 = .ok (.ifnull 16, 3) := by decide +kernel
theorem dX11_request_78 : decode cX11_request 78 = .ok (.aload_n 0, 1) := by decide +kernel
theorem dX11_request_79 : decode cX11_request 79 = .ok (.aload_n 2, 1) := by decide +kernel
theorem dX11_request_80 : decode cX11_request 80 = .ok (.aload_n 2, 1) := by decide +kernel
theorem dX11_request_81 : decode cX11_request 81 = .ok (.getfield 288, 3) := by decide +kernel
theorem dX11_request_84 : decode cX11_request 84 = .ok (.invokevirtual 292, 3) := by decide +kernel
theorem dX11_request_87 : decode cX11_request 87 = .ok (.istore_n 3, 1) := by decide +kernel
theorem dX11_request_88 : decode cX11_request 88 = .ok (.goto 29, 3) := by decide +kernel
theorem dX11_request_91 : decode cX11_request 91 = .ok (.iload_n 3, 1) := by decide +kernel
theorem dX11_request_92 : decode cX11_request 92 = .ok (.ifCond .ne 25, 3) := by decide +kernel
theorem dX11_request_95 : decode cX11_request 95 = .ok (.aload_n 2, 1) := by decide +kernel
theorem dX11_request_96 : decode cX11_request 96 = .ok (.getfield 271, 3) := by decide +kernel
theorem dX11_request_99 : decode cX11_request 99 = .ok (.iconst 5, 1) := by decide +kernel
theorem dX11_request_100 : decode cX11_request 100 = .ok (.if_icmp .ne 11, 3) := by decide +kernel
theorem dX11_request_103 : decode cX11_request 103 = .ok (.aload_n 0, 1) := by decide +kernel
theorem dX11_request_104 : decode cX11_request 104 = .ok (.aload_n 2, 1) := by decide +kernel
theorem dX11_request_105 : decode cX11_request 105 = .ok (.invokevirtual 296, 3) := by decide +kernel
theorem dX11_request_108 : decode cX11_request 108 = .ok (.goto 8, 3) := by decide +kernel
theorem dX11_request_111 : decode cX11_request 111 = .ok (.aload_n 0, 1) := by decide +kernel
theorem dX11_request_112 : decode cX11_request 112 = .ok (.aload_n 2, 1) := by decide +kernel
theorem dX11_request_113 : decode cX11_request 113 = .ok (.invokevirtual 299, 3) := by decide +kernel
theorem dX11_request_116 : decode cX11_request 116 = .ok (.istore_n 3, 1) := by decide +kernel
theorem dX11_request_117 : decode cX11_request 117 = .ok (.aload_n 0, 1) := by decide +kernel
theorem dX11_request_118 : decode cX11_request 118 = .ok (.invokevirtual 123, 3) := by decide +kernel
theorem dX11_request_121 : decode cX11_request 121 = .ok (.aload_n 0, 1) := by decide +kernel
theorem dX11_request_122 : decode cX11_request 122 = .ok (.aload_n 2, 1) := by decide +kernel
theorem dX11_request_123 : decode cX11_request 123 = .ok (.iload_n 3, 1) := by decide +kernel
theorem dX11_request_124 : decode cX11_request 124 = .ok (.invokevirtual 302, 3) := by decide +kernel
theorem dX11_request_127 : decode cX11_request 127 = .ok (.aload_n 1, 1) := by decide +kernel
theorem dX11_request_128 : decode cX11_request 128 = .ok (.dup, 1) := by decide +kernel
theorem dX11_request_129 : decode cX11_request 129 = .ok (.getfield 253, 3) := by decide +kernel
theorem dX11_request_132 : decode cX11_request 132 = .ok (.aload_n 2, 1) := by decide +kernel
theorem dX11_request_133 : decode cX11_request 133 = .ok (.getfield 306, 3) := by decide +kernel
theorem dX11_request_136 : decode cX11_request 136 = .ok (.iadd, 1) := by decide +kernel
theorem dX11_request_137 : decode cX11_request 137 = .ok (.putfield 253, 3) := by decide +kernel
theorem dX11_request_140 : decode cX11_request 140 = .ok (.aload_n 2, 1) := by decide +kernel
theorem dX11_request_141 : decode cX11_request 141 = .ok (.invokevirtual 307, 3) := by decide +kernel
theorem dX11_request_144 : decode cX11_request 144 = .ok (.ifCond .ne 7, 3) := by decide +kernel
theorem dX11_request_147 : decode cX11_request 147 = .ok (.iconst 1, 1) := by decide +kernel
theorem dX11_request_148 : decode cX11_request 148 = .ok (.goto 4, 3) := by decide +kernel
theorem dX11_request_151 : decode cX11_request 151 = .ok (.iconst 0, 1) := by decide +kernel
theorem dX11_request_152 : decode cX11_request 152 = .ok (.ireturn, 1) := by decide +kernel
set_option maxRecDepth 100000 in
set_option maxHeartbeats 4000000 in
theorem c_X11_request (l : Launch) (D : va_G) (t : Nat → ClassId) (G : GE) (κ : CS) (h : Nat) (a1 : Option Nat) (post : Int32 → CS → Prop) (hw : F_X11_request G h a1 post κ) (sz : Nat) : CMi l D t yX11_request cX11_request 4 (some .boolean) 14 357 G κ sz [.ref h, va_rf a1] post := by
  refine c_go (by decide) (by cases a1 <;> exact Nat.le_of_ble_eq_true rfl) ?_
  intro p e s m below meth c ls A hF hr hlk hin hAe hH hA hE hl
  unfold cB
  rw [hAe]
  clear hAe
  have hF : FX p m c cX11_request 4 s _ RX11 D t := hF
  have hx := hF.1.1
  have hb := hF.1.2.1
  have hl : lv_has ls 4 [(0, .ref h), (1, va_rf a1)] := (by have h2 := hl; clear hw; revert h2; cases a1 <;> exact id)
  unfold F_X11_request at hw
  refine cw_new hF hH hA ci_X0 (by decide) rfl df_X0 dX11_request_0 (wc_16 15 rfl) (wc_21 14 rfl) (wc_5 10 rfl) hw (fun o1 κ2 H locs cells slots hw hH => ?_)
  refine lv_dup hx hb dX11_request_3 rfl ?_
  refine w_aloadq_n hF dX11_request_4 rfl (lv_at hl 1 rfl) ?_
  refine cw_cI (b := o1) (As := [va_rf a1]) (rest := [.ref o1]) hF hH hA hE mi_X11_266 (fun sz => c_X0_init l D t G _ o1 a1 _ hw sz) dX11_request_5 ⟨Nat.le_of_ble_eq_true rfl, Nat.le_of_ble_eq_true rfl⟩ rfl hl.1 (Nat.le_of_ble_eq_true rfl) rfl (fun κ3 H locs cells slots hw hH => ?_)
  refine lv_astore_n (lv' := [(2, .ref o1), (0, .ref h), (1, va_rf a1)]) hx hb dX11_request_8 rfl hl (by decide) (by generalize a1 = y; cases y <;> rfl) (fun ls hl => ?_)
  refine lv_aload_n hx hb dX11_request_9 rfl (lv_at hl 0 rfl) ?_
  refine cw_cVi (b := o1) (As := []) (rest := []) hF hH hA hE mv_X11_268 ci_X0 (by decide) (fun sz => c_X0_stands l D t G _ o1  _ hw.2 sz) dX11_request_10 hw.1 ⟨Nat.le_of_ble_eq_true rfl, Nat.le_of_ble_eq_true rfl⟩ rfl hl.1 (Nat.le_of_ble_eq_true rfl) rfl (fun z6 κ5 H locs cells slots hw hH => ?_)
  obtain ⟨K9, hK10, hw⟩ := jc_open hw
  refine cw_join (K := K9) 31 (fun (x7 : Unit) => [(1, va_rf a1), (0, .ref h)]) (fun (x7 : Unit) => []) hl hH (fun x7 κ8 ls H locs cells slots hl hw hH => ?_) (fun jn11 => ?_)
  · have hw := hK10 x7 κ8 hw
    have hl : lv_has ls 4 [(1, va_rf a1), (0, .ref h)] := hl
    refine lv_aload_n hx hb dX11_request_31 rfl (lv_at hl 1 rfl) ?_
    refine w_aloadq_n hF dX11_request_32 rfl (lv_at hl 0 rfl) ?_
    refine cw_cVv (b := h) (As := [va_rf a1]) (rest := []) hF hH hA hE mv_X11_119 ci_X11 (by decide) (fun sz => c_X11_shutOff l D t G _ h a1 _ hw.2 sz) dX11_request_33 hw.1 ⟨Nat.le_of_ble_eq_true rfl, Nat.le_of_ble_eq_true rfl⟩ rfl hl.1 (Nat.le_of_ble_eq_true rfl) rfl (fun κ12 H locs cells slots hw hH => ?_)
    refine lv_aload_n hx hb dX11_request_36 rfl (lv_at hl 1 rfl) ?_
    refine cw_cVv (b := h) (As := []) (rest := []) hF hH hA hE mv_X11_123 ci_X11 (by decide) (fun sz => c_X11_settle l D t G _ h  _ hw.2 sz) dX11_request_37 hw.1 ⟨Nat.le_of_ble_eq_true rfl, Nat.le_of_ble_eq_true rfl⟩ rfl hl.1 (Nat.le_of_ble_eq_true rfl) rfl (fun κ14 H locs cells slots hw hH => ?_)
    refine lv_iconst (v := 0) hx hb dX11_request_40 (by decide) ?_
    exact cw_retz hF hH ⟨rfl, rfl⟩ hr hlk dX11_request_41 hw
  · skip
    refine w_if_eq (tgt := 31) hF dX11_request_13 rfl hw (fun hw => ?_) (fun hw => ?_)
    · have hl : lv_has ls 4 [(1, va_rf a1), (0, .ref h)] := lv_sub hl [2, 1] rfl
      exact jn11 () κ5 ls _ _ _ _ hl hw hH
    · refine w_aloadq_n hF dX11_request_16 rfl (lv_at hl 2 rfl) ?_
      refine lv_aload_n hx hb dX11_request_17 rfl (lv_at hl 0 rfl) ?_
      refine cw_getIr (a := o1) hF hH fk_X11_271 dX11_request_18 hw (fun z16 hw => ?_)
      refine lv_aload_n hx hb dX11_request_21 rfl (lv_at hl 0 rfl) ?_
      refine cw_getJr (a := o1) hF hH fk_X11_274 dX11_request_22 hw (fun z17 hw => ?_)
      refine cw_cViq (q := a1) (As := [.int z16, .long z17]) (rest := []) hF hH hA hE mv_X11_277 ci_X2 (by decide) hw (fun b hw sz => c_X2_admits l D t G _ b z16 z17 _ hw sz) dX11_request_25 ⟨Nat.le_of_ble_eq_true rfl, Nat.le_of_ble_eq_true rfl⟩ rfl hl.1 (Nat.le_of_ble_eq_true rfl) rfl (fun z19 κ18 H locs cells slots hw hH => ?_)
      refine w_if_ne (tgt := 42) hF dX11_request_28 rfl hw (fun hw => ?_) (fun hw => ?_)
      · refine w_aloadq_n hF dX11_request_42 rfl (lv_at hl 2 rfl) ?_
        refine lv_iconst (v := 0) hx hb dX11_request_43 (by decide) ?_
        refine cw_putZ (q := a1) (v := 0) hF hH fk_X11_259 dX11_request_44 rfl rfl hw (fun κ20 H locs cells slots hw hH => ?_)
        refine lv_aload_n hx hb dX11_request_47 rfl (lv_at hl 1 rfl) ?_
        refine lv_aload_n hx hb dX11_request_48 rfl (lv_at hl 0 rfl) ?_
        refine cw_cVi (b := h) (As := [.ref o1]) (rest := []) hF hH hA hE mv_X11_281 ci_X11 (by decide) (fun sz => c_X11_look l D t G _ h (some o1) _ hw.2 sz) dX11_request_49 hw.1 ⟨Nat.le_of_ble_eq_true rfl, Nat.le_of_ble_eq_true rfl⟩ rfl hl.1 (Nat.le_of_ble_eq_true rfl) rfl (fun z22 κ21 H locs cells slots hw hH => ?_)
        refine lv_istore_n (lv' := [(3, .int z22), (2, .ref o1), (0, .ref h), (1, va_rf a1)]) hx hb dX11_request_52 rfl hl (by decide) rfl (fun ls hl => ?_)
        refine lv_iload_n hx hb dX11_request_53 rfl (lv_at hl 0 rfl) ?_
        obtain ⟨K25, hK26, hw⟩ := jc_open hw
        refine cw_join (K := K25) 63 (fun (x23 : Int32) => [(3, .int x23), (2, .ref o1), (1, va_rf a1), (0, .ref h)]) (fun (x23 : Int32) => []) hl hH (fun x23 κ24 ls H locs cells slots hl hw hH => ?_) (fun jn27 => ?_)
        · have hw := hK26 x23 κ24 hw
          have hl : lv_has ls 4 [(3, .int x23), (2, .ref o1), (1, va_rf a1), (0, .ref h)] := hl
          refine lv_aload_n hx hb dX11_request_63 rfl (lv_at hl 3 rfl) ?_
          refine cw_cVv (b := h) (As := []) (rest := []) hF hH hA hE mv_X11_123 ci_X11 (by decide) (fun sz => c_X11_settle l D t G _ h  _ hw.2 sz) dX11_request_64 hw.1 ⟨Nat.le_of_ble_eq_true rfl, Nat.le_of_ble_eq_true rfl⟩ rfl hl.1 (Nat.le_of_ble_eq_true rfl) rfl (fun κ28 H locs cells slots hw hH => ?_)
          refine lv_iload_n hx hb dX11_request_67 rfl (lv_at hl 0 rfl) ?_
          obtain ⟨K32, hK33, hw⟩ := jc_open hw
          refine cw_join (K := K32) 117 (fun (x30 : Int32) => [(3, .int x30), (2, .ref o1), (1, va_rf a1), (0, .ref h)]) (fun (x30 : Int32) => []) hl hH (fun x30 κ31 ls H locs cells slots hl hw hH => ?_) (fun jn34 => ?_)
          · have hw := hK33 x30 κ31 hw
            have hl : lv_has ls 4 [(3, .int x30), (2, .ref o1), (1, va_rf a1), (0, .ref h)] := hl
            refine lv_aload_n hx hb dX11_request_117 rfl (lv_at hl 3 rfl) ?_
            refine cw_cVv (b := h) (As := []) (rest := []) hF hH hA hE mv_X11_123 ci_X11 (by decide) (fun sz => c_X11_settle l D t G _ h  _ hw.2 sz) dX11_request_118 hw.1 ⟨Nat.le_of_ble_eq_true rfl, Nat.le_of_ble_eq_true rfl⟩ rfl hl.1 (Nat.le_of_ble_eq_true rfl) rfl (fun κ35 H locs cells slots hw hH => ?_)
            refine lv_aload_n hx hb dX11_request_121 rfl (lv_at hl 3 rfl) ?_
            refine lv_aload_n hx hb dX11_request_122 rfl (lv_at hl 1 rfl) ?_
            refine lv_iload_n hx hb dX11_request_123 rfl (lv_at hl 0 rfl) ?_
            refine cw_cVv (b := h) (As := [.ref o1, .int x30]) (rest := []) hF hH hA hE mv_X11_302 ci_X11 (by decide) (fun sz => c_X11_finish l D t G _ h (some o1) x30 _ hw.2 sz) dX11_request_124 hw.1 ⟨Nat.le_of_ble_eq_true rfl, Nat.le_of_ble_eq_true rfl⟩ rfl hl.1 (Nat.le_of_ble_eq_true rfl) rfl (fun κ37 H locs cells slots hw hH => ?_)
            refine w_aloadq_n hF dX11_request_127 rfl (lv_at hl 2 rfl) ?_
            refine lv_dup hx hb dX11_request_128 (cat_rf _) ?_
            refine cw_getI (q := a1) hF hH fk_X11_253 dX11_request_129 hw (fun z39 hw => ?_)
            refine lv_aload_n hx hb dX11_request_132 rfl (lv_at hl 1 rfl) ?_
            refine cw_getIr (a := o1) hF hH fk_X11_306 dX11_request_133 hw (fun z40 hw => ?_)
            refine lv_iadd hx hb dX11_request_136 ?_
            refine w_nmi hw (fun z41 hw => ?_)
            refine cw_putI (q := a1) (v := z41) hF hH fk_X11_253 dX11_request_137 rfl rfl rfl hw (fun κ42 H locs cells slots hw hH => ?_)
            refine lv_aload_n hx hb dX11_request_140 rfl (lv_at hl 1 rfl) ?_
            refine cw_cVi (b := o1) (As := []) (rest := []) hF hH hA hE mv_X11_307 ci_X0 (by decide) (fun sz => c_X0_last l D t G _ o1  _ hw.2 sz) dX11_request_141 hw.1 ⟨Nat.le_of_ble_eq_true rfl, Nat.le_of_ble_eq_true rfl⟩ rfl hl.1 (Nat.le_of_ble_eq_true rfl) rfl (fun z44 κ43 H locs cells slots hw hH => ?_)
            obtain ⟨K47, hK48, hw⟩ := jc_open hw
            refine cw_join (K := K47) 152 (fun (x45 : Int32) => []) (fun (x45 : Int32) => [.int x45]) hl hH (fun x45 κ46 ls H locs cells slots hl hw hH => ?_) (fun jn49 => ?_)
            · have hw := hK48 x45 κ46 hw
              have hl : lv_has ls 4 [] := hl
              exact cw_retz hF hH ⟨rfl, rfl⟩ hr hlk dX11_request_152 hw
            · skip
              refine w_if_ne (tgt := 151) hF dX11_request_144 rfl hw (fun hw => ?_) (fun hw => ?_)
              · refine lv_iconst (v := 0) hx hb dX11_request_151 (by decide) ?_
                have hl : lv_has ls 4 [] := lv_sub hl [] rfl
                exact jn49 0 κ43 ls _ _ _ _ hl hw hH
              · refine lv_iconst (v := 1) hx hb dX11_request_147 (by decide) ?_
                refine lv_goto (tgt := 152) hx hb dX11_request_148 rfl ?_
                have hl : lv_has ls 4 [] := lv_sub hl [] rfl
                exact jn49 1 κ43 ls _ _ _ _ hl hw hH
          · skip
            obtain ⟨K52, hK53, hw⟩ := jc_open hw
            refine cw_join (K := K52) 91 (fun (x50 : Unit) => [(3, .int x23), (2, .ref o1), (1, va_rf a1), (0, .ref h)]) (fun (x50 : Unit) => []) hl hH (fun x50 κ51 ls H locs cells slots hl hw hH => ?_) (fun jn54 => ?_)
            · have hw := hK53 x50 κ51 hw
              have hl : lv_has ls 4 [(3, .int x23), (2, .ref o1), (1, va_rf a1), (0, .ref h)] := hl
              refine lv_iload_n hx hb dX11_request_91 rfl (lv_at hl 0 rfl) ?_
              refine w_if_ne (tgt := 117) hF dX11_request_92 rfl hw (fun hw => ?_) (fun hw => ?_)
              · exact jn34 x23 κ51 ls _ _ _ _ hl hw hH
              · refine lv_aload_n hx hb dX11_request_95 rfl (lv_at hl 1 rfl) ?_
                refine cw_getIr (a := o1) hF hH fk_X11_271 dX11_request_96 hw (fun z55 hw => ?_)
                refine lv_iconst (v := 5) hx hb dX11_request_99 (by decide) ?_
                obtain ⟨K58, hK59, hw⟩ := jc_open hw
                refine cw_join (K := K58) 116 (fun (x56 : Int32) => [(2, .ref o1), (1, va_rf a1), (0, .ref h)]) (fun (x56 : Int32) => [.int x56]) hl hH (fun x56 κ57 ls H locs cells slots hl hw hH => ?_) (fun jn60 => ?_)
                · have hw := hK59 x56 κ57 hw
                  have hl : lv_has ls 4 [(2, .ref o1), (1, va_rf a1), (0, .ref h)] := hl
                  refine lv_istore_n (lv' := [(3, .int x56), (2, .ref o1), (1, va_rf a1), (0, .ref h)]) hx hb dX11_request_116 rfl hl (by decide) rfl (fun ls hl => ?_)
                  exact jn34 x56 κ57 ls _ _ _ _ hl hw hH
                · skip
                  refine w_icmp_ne (tgt := 111) hF dX11_request_100 rfl hw (fun hw => ?_) (fun hw => ?_)
                  · refine lv_aload_n hx hb dX11_request_111 rfl (lv_at hl 3 rfl) ?_
                    refine lv_aload_n hx hb dX11_request_112 rfl (lv_at hl 1 rfl) ?_
                    refine cw_cVi (b := h) (As := [.ref o1]) (rest := []) hF hH hA hE mv_X11_299 ci_X11 (by decide) (fun sz => c_X11_perform l D t G _ h (some o1) _ hw.2 sz) dX11_request_113 hw.1 ⟨Nat.le_of_ble_eq_true rfl, Nat.le_of_ble_eq_true rfl⟩ rfl hl.1 (Nat.le_of_ble_eq_true rfl) rfl (fun z62 κ61 H locs cells slots hw hH => ?_)
                    have hl : lv_has ls 4 [(2, .ref o1), (1, va_rf a1), (0, .ref h)] := lv_sub hl [1, 2, 3] rfl
                    exact jn60 z62 κ61 ls _ _ _ _ hl hw hH
                  · refine lv_aload_n hx hb dX11_request_103 rfl (lv_at hl 3 rfl) ?_
                    refine lv_aload_n hx hb dX11_request_104 rfl (lv_at hl 1 rfl) ?_
                    refine cw_cVi (b := h) (As := [.ref o1]) (rest := []) hF hH hA hE mv_X11_296 ci_X11 (by decide) (fun sz => c_X11_openOrWait l D t G _ h (some o1) _ hw.2 sz) dX11_request_105 hw.1 ⟨Nat.le_of_ble_eq_true rfl, Nat.le_of_ble_eq_true rfl⟩ rfl hl.1 (Nat.le_of_ble_eq_true rfl) rfl (fun z64 κ63 H locs cells slots hw hH => ?_)
                    refine lv_goto (tgt := 116) hx hb dX11_request_108 rfl ?_
                    have hl : lv_has ls 4 [(2, .ref o1), (1, va_rf a1), (0, .ref h)] := lv_sub hl [1, 2, 3] rfl
                    exact jn60 z64 κ63 ls _ _ _ _ hl hw hH
            · skip
              refine w_if_ne (tgt := 91) hF dX11_request_68 rfl hw (fun hw => ?_) (fun hw => ?_)
              · exact jn54 () κ28 ls _ _ _ _ hl hw hH
              · refine lv_aload_n hx hb dX11_request_71 rfl (lv_at hl 1 rfl) ?_
                refine cw_getPr (a := o1) hF hH fk_X11_288 dX11_request_72 hw (fun z65 hw => ?_)
                refine cw_ifnull (q := z65) (tgt := 91) hF dX11_request_75 rfl hw (fun hw => ?_) (fun hw => ?_)
                · exact jn54 () κ28 ls _ _ _ _ hl hw hH
                · refine lv_aload_n hx hb dX11_request_78 rfl (lv_at hl 3 rfl) ?_
                  refine lv_aload_n hx hb dX11_request_79 rfl (lv_at hl 1 rfl) ?_
                  refine lv_aload_n hx hb dX11_request_80 rfl (lv_at hl 1 rfl) ?_
                  refine cw_getPr (a := o1) hF hH fk_X11_288 dX11_request_81 hw (fun z66 hw => ?_)
                  refine cw_cVi (b := h) (As := [.ref o1, va_rf z66]) (rest := []) hF hH hA hE mv_X11_292 ci_X11 (by decide) (fun sz => c_X11_performOnFile l D t G _ h (some o1) z66 _ hw.2 sz) dX11_request_84 hw.1 ⟨Nat.le_of_ble_eq_true rfl, Nat.le_of_ble_eq_true rfl⟩ rfl hl.1 (Nat.le_of_ble_eq_true rfl) rfl (fun z68 κ67 H locs cells slots hw hH => ?_)
                  refine lv_istore_n (lv' := [(3, .int z68), (2, .ref o1), (1, va_rf a1), (0, .ref h)]) hx hb dX11_request_87 rfl hl (by decide) rfl (fun ls hl => ?_)
                  refine lv_goto (tgt := 117) hx hb dX11_request_88 rfl ?_
                  exact jn34 z68 κ67 ls _ _ _ _ hl hw hH
        · skip
          refine w_if_ne (tgt := 63) hF dX11_request_54 rfl hw (fun hw => ?_) (fun hw => ?_)
          · have hl : lv_has ls 4 [(3, .int z22), (2, .ref o1), (1, va_rf a1), (0, .ref h)] := lv_sub hl [0, 1, 3, 2] rfl
            exact jn27 z22 κ21 ls _ _ _ _ hl hw hH
          · refine lv_aload_n hx hb dX11_request_57 rfl (lv_at hl 2 rfl) ?_
            refine lv_aload_n hx hb dX11_request_58 rfl (lv_at hl 1 rfl) ?_
            refine cw_cVi (b := h) (As := [.ref o1]) (rest := []) hF hH hA hE mv_X11_285 ci_X11 (by decide) (fun sz => c_X11_prepare l D t G _ h (some o1) _ hw.2 sz) dX11_request_59 hw.1 ⟨Nat.le_of_ble_eq_true rfl, Nat.le_of_ble_eq_true rfl⟩ rfl hl.1 (Nat.le_of_ble_eq_true rfl) rfl (fun z70 κ69 H locs cells slots hw hH => ?_)
            refine lv_istore_n (lv' := [(3, .int z70), (2, .ref o1), (0, .ref h), (1, va_rf a1)]) hx hb dX11_request_62 rfl hl (by decide) rfl (fun ls hl => ?_)
            have hl : lv_has ls 4 [(3, .int z70), (2, .ref o1), (1, va_rf a1), (0, .ref h)] := lv_sub hl [0, 1, 3, 2] rfl
            exact jn27 z70 κ69 ls _ _ _ _ hl hw hH
      · have hl : lv_has ls 4 [(1, va_rf a1), (0, .ref h)] := lv_sub hl [2, 1] rfl
        exact jn11 () κ18 ls _ _ _ _ hl hw hH
set_option maxRecDepth 100000 in
def F_X11_come (G : GE) (h : Nat) (a1 : Int32) (post : Int32 → CS → Prop) (κ : CS) : Prop := (h ∈ sL κ.1 ∧ sK κ.1 h = 1) ∧ ∀ z1 : Option Nat, z1 = sP κ.1 h 0 → ∃ b : Nat, z1 = some b ∧ (b ∈ sL κ.1 ∧ sK κ.1 b = 2) ∧ ∀ z2 : Int32, z2 = sI κ.1 b 1 → (h ∈ sL κ.1 ∧ sK κ.1 h = 1) ∧ ∀ z3 : Option Nat, z3 = sP κ.1 h 0 → ∃ b : Nat, z3 = some b ∧ (b ∈ sL κ.1 ∧ sK κ.1 b = 2) ∧ ∀ z4 : Option Nat, z4 = sP κ.1 b 0 → ∃ n : Nat, AL G κ z4 n ∧ ∀ z5 : Int32, z5 = nI n → ∀ z7 : Int32, z7.toInt = min z2.toInt z5.toInt → (h ∈ sL κ.1 ∧ sK κ.1 h = 1) ∧ ∀ z8 : Option Nat, z8 = sP κ.1 h 0 → ∃ b : Nat, z8 = some b ∧ (b ∈ sL κ.1 ∧ sK κ.1 b = 2) ∧ ∀ κ9 : CS, κ9 = (h_uI κ.1 b 1 0, κ.2) → (h ∈ sL κ9.1 ∧ sK κ9.1 h = 1) ∧ F_X11_connection G h a1 (fun (z11 : Option Nat) (κ10 : CS) => jc (fun (K14 : Unit → CS → Prop) => ((z11 = none) → K14 () κ10) ∧ ((¬ z11 = none) → ∃ b : Nat, z11 = some b ∧ (b ∈ sL κ10.1 ∧ sK κ10.1 b = 3) ∧ ∀ z17 : Int32, z17 = sI κ10.1 b 0 → ((¬ z17.toInt = 0) → lc (fun (K20 : (Int32 × Int32) → CS → Prop) (x18 : Int32 × Int32) (κ19 : CS) => jc (fun (K24 : Unit → CS → Prop) => ((z7.toInt ≤ x18.1.toInt) → K24 () κ19) ∧ ((x18.1.toInt < z7.toInt) → ∃ b : Nat, z11 = some b ∧ (b ∈ sL κ19.1 ∧ sK κ19.1 b = 3) ∧ ∀ z27 : Int32, z27 = sI κ19.1 b 0 → ((z27.toInt = 0) → K24 () κ19) ∧ ((¬ z27.toInt = 0) → ∃ b : Nat, z11 = some b ∧ (b ∈ sL κ19.1 ∧ sK κ19.1 b = 3) ∧ ∀ z28 : Option Nat, z28 = sP κ19.1 b 2 → (h ∈ sL κ19.1 ∧ sK κ19.1 h = 1) ∧ ∀ z29 : Option Nat, z29 = sP κ19.1 h 0 → ∃ b : Nat, z29 = some b ∧ (b ∈ sL κ19.1 ∧ sK κ19.1 b = 2) ∧ ∀ z30 : Option Nat, z30 = sP κ19.1 b 0 → ∃ (f : Nat → Int32) (n : Nat), BA G κ19 z30 f n ∧ (0 ≤ x18.1.toInt ∧ x18.1.toInt < (n : Int)) ∧ ∀ z31 : Int32, z31 = f x18.1.toInt.toNat → ∃ b : Nat, z28 = some b ∧ (b ∈ sL κ19.1 ∧ sK κ19.1 b = 2) ∧ F_X6_add G b z31 (fun (κ32 : CS) => ∃ b : Nat, z11 = some b ∧ (b ∈ sL κ32.1 ∧ sK κ32.1 b = 3) ∧ F_X2_frame G b  (fun (z35 : Int32) (κ34 : CS) => jc (fun (K38 : Unit → CS → Prop) => ((¬ z35.toInt = (2 : Int32).toInt) → ((¬ z35.toInt = (1 : Int32).toInt) → K38 () κ34) ∧ ((z35.toInt = (1 : Int32).toInt) → (h ∈ sL κ34.1 ∧ sK κ34.1 h = 1) ∧ F_X11_beginMessage G h z11 (fun (κ48 : CS) => lc (fun (K52 : (Int32 × Int32) → CS → Prop) (x50 : Int32 × Int32) (κ51 : CS) => jc (fun (K56 : Unit → CS → Prop) => (((4000 : Int32).toInt ≤ x50.1.toInt) → K56 () κ51) ∧ ((x50.1.toInt < (4000 : Int32).toInt) → ((x50.2.toInt = 0) → K56 () κ51) ∧ ((¬ x50.2.toInt = 0) → (h ∈ sL κ51.1 ∧ sK κ51.1 h = 1) ∧ F_X11_request G h z11 (fun (z65 : Int32) (κ64 : CS) => ∀ z66 : Int32, z66 = x50.1 + 1 → K52 (z66, z65) κ64) κ51))) (fun (x54 : Unit) (κ55 : CS) => ∃ b : Nat, z11 = some b ∧ (b ∈ sL κ55.1 ∧ sK κ55.1 b = 3) ∧ ∀ z59 : Option Nat, z59 = sP κ55.1 b 2 → ∃ b : Nat, z59 = some b ∧ (b ∈ sL κ55.1 ∧ sK κ55.1 b = 2) ∧ ∀ κ60 : CS, κ60 = (h_uI κ55.1 b 1 0, κ55.2) → (h ∈ sL κ60.1 ∧ sK κ60.1 h = 1) ∧ ∀ z61 : Option Nat, z61 = sP κ60.1 h 14 → ∃ b : Nat, z11 = some b ∧ (b ∈ sL κ60.1 ∧ sK κ60.1 b = 3) ∧ F_X2_post G b z61 (fun (κ62 : CS) => K38 () κ62) κ60)) (0, 1) κ48) κ34)) ∧ ((z35.toInt = (2 : Int32).toInt) → (h ∈ sL κ34.1 ∧ sK κ34.1 h = 1) ∧ F_X11_shutOff G h z11 (fun (κ67 : CS) => (h ∈ sL κ67.1 ∧ sK κ67.1 h = 1) ∧ F_X11_settle G h  (fun (κ69 : CS) => K38 () κ69) κ67) κ34)) (fun (x36 : Unit) (κ37 : CS) => jc (fun (K43 : Int32 → CS → Prop) => ((¬ z35.toInt = 0) → K43 1 κ37) ∧ ((z35.toInt = 0) → K43 0 κ37)) (fun (x41 : Int32) (κ42 : CS) => ∀ z46 : Int32, z46 = x18.2 + x41 → ∀ z47 : Int32, z47 = x18.1 + 1 → K20 (z47, z46) κ42))) κ32) κ19))) (fun (x22 : Unit) (κ23 : CS) => post x18.2 κ23)) (0, 0) κ10) ∧ ((z17.toInt = 0) → K14 () κ10))) (fun (x12 : Unit) (κ13 : CS) => post (-1) κ13)) κ9
theorem dX11_come_0 : decode cX11_come 0 = .ok (.aload_n 0, 1) := by decide +kernel
theorem dX11_come_1 : decode cX11_come 1 = .ok (.getfield 10, 3) := by decide +kernel
theorem dX11_come_4 : decode cX11_come 4 = .ok (.getfield 85, 3) := by decide +kernel
theorem dX11_come_7 : decode cX11_come 7 = .ok (.aload_n 0, 1) := by decide +kernel
theorem dX11_come_8 : decode cX11_come 8 = .ok (.getfield 10, 3) := by decide +kernel
theorem dX11_come_11 : decode cX11_come 11 = .ok (.getfield 126, 3) := by decide +kernel
theorem dX11_come_14 : decode cX11_come 14 = .ok (.arraylength, 1) := by decide +kernel
theorem dX11_come_15 : decode cX11_come 15 = .ok (.invokestatic 130, 3) := by decide +kernel
theorem dX11_come_18 : decode cX11_come 18 = .ok (.istore_n 2, 1) := by decide +kernel
theorem dX11_come_19 : decode cX11_come 19 = .ok (.aload_n 0, 1) := by decide +kernel
theorem dX11_come_20 : decode cX11_come 20 = .ok (.getfield 10, 3) := by decide +kernel
theorem dX11_come_23 : decode cX11_come 23 = .ok (.iconst 0, 1) := by decide +kernel
theorem dX11_come_24 : decode cX11_come 24 = .ok (.putfield 85, 3) := by decide +kernel
theorem dX11_come_27 : decode cX11_come 27 = .ok (.aload_n 0, 1) := by decide +kernel
theorem dX11_come_28 : decode cX11_come 28 = .ok (.iload_n 1, 1) := by decide +kernel
theorem dX11_come_29 : decode cX11_come 29 = .ok (.invokevirtual 108, 3) := by decide +kernel
theorem dX11_come_32 : decode cX11_come 32 = .ok (.astore_n 3, 1) := by decide +kernel
theorem dX11_come_33 : decode cX11_come 33 = .ok (.aload_n 3, 1) := by decide +kernel
theorem dX11_come_34 : decode cX11_come 34 = .ok (.ifnull 10, 3) := by decide +kernel
theorem dX11_come_37 : decode cX11_come 37 = .ok (.aload_n 3, 1) := by decide +kernel
theorem dX11_come_38 : decode cX11_come 38 = .ok (.getfield 112, 3) := by decide +kernel
theorem dX11_come_41 : decode cX11_come 41 = .ok (.ifCond .ne 5, 3) := by decide +kernel
theorem dX11_come_44 : decode cX11_come 44 = .ok (.iconst (-1), 1) := by decide +kernel
theorem dX11_come_45 : decode cX11_come 45 = .ok (.ireturn, 1) := by decide +kernel
theorem dX11_come_46 : decode cX11_come 46 = .ok (.iconst 0, 1) := by decide +kernel
theorem dX11_come_47 : decode cX11_come 47 = .ok (.istore 4, 2) := by decide +kernel
theorem dX11_come_49 : decode cX11_come 49 = .ok (.iconst 0, 1) := by decide +kernel
theorem dX11_come_50 : decode cX11_come 50 = .ok (.istore 5, 2) := by decide +kernel
theorem dX11_come_52 : decode cX11_come 52 = .ok (.iload 5, 2) := by decide +kernel
theorem dX11_come_54 : decode cX11_come 54 = .ok (.iload_n 2, 1) := by decide +kernel
theorem dX11_come_55 : decode cX11_come 55 = .ok (.if_icmp .ge 131, 3) := by decide +kernel
theorem dX11_come_58 : decode cX11_come 58 = .ok (.aload_n 3, 1) := by decide +kernel
theorem dX11_come_59 : decode cX11_come 59 = .ok (.getfield 112, 3) := by decide +kernel
theorem dX11_come_62 : decode cX11_come 62 = .ok (.ifCond .eq 124, 3) := by decide +kernel
theorem dX11_come_65 : decode cX11_come 65 = .ok (.aload_n 3, 1) := by decide +kernel
theorem dX11_come_66 : decode cX11_come 66 = .ok (.getfield 136, 3) := by decide +kernel
theorem dX11_come_69 : decode cX11_come 69 = .ok (.aload_n 0, 1) := by decide +kernel
theorem dX11_come_70 : decode cX11_come 70 = .ok (.getfield 10, 3) := by decide +kernel
theorem dX11_come_73 : decode cX11_come 73 = .ok (.getfield 126, 3) := by decide +kernel
theorem dX11_come_76 : decode cX11_come 76 = .ok (.iload 5, 2) := by decide +kernel
theorem dX11_come_78 : decode cX11_come 78 = .ok (.baload, 1) := by decide +kernel
theorem dX11_come_79 : decode cX11_come 79 = .ok (.invokevirtual 139, 3) := by decide +kernel
theorem dX11_come_82 : decode cX11_come 82 = .ok (.aload_n 3, 1) := by decide +kernel
theorem dX11_come_83 : decode cX11_come 83 = .ok (.invokevirtual 142, 3) := by decide +kernel
theorem dX11_come_86 : decode cX11_come 86 = .ok (.istore 6, 2) := by decide +kernel
theorem dX11_come_88 : decode cX11_come 88 = .ok (.iload 6, 2) := by decide +kernel
theorem dX11_come_90 : decode cX11_come 90 = .ok (.iconst 2, 1) := by decide +kernel
theorem dX11_come_91 : decode cX11_come 91 = .ok (.if_icmp .ne 15, 3) := by decide +kernel
theorem dX11_come_94 : decode cX11_come 94 = .ok (.aload_n 0, 1) := by decide +kernel
theorem dX11_come_95 : decode cX11_come 95 = .ok (.aload_n 3, 1) := by decide +kernel
theorem dX11_come_96 : decode cX11_come 96 = .ok (.invokevirtual 119, 3) := by decide +kernel
theorem dX11_come_99 : decode cX11_come 99 = .ok (.aload_n 0, 1) := by decide +kernel
theorem dX11_come_100 : decode cX11_come 100 = .ok (.invokevirtual 123, 3) := by decide +kernel
theorem dX11_come_103 : decode cX11_come 103 = .ok (.goto 62, 3) := by decide +kernel
theorem dX11_come_106 : decode cX11_come 106 = .ok (.iload 6, 2) := by decide +kernel
theorem dX11_come_108 : decode cX11_come 108 = .ok (.iconst 1, 1) := by decide +kernel
theorem dX11_come_109 : decode cX11_come 109 = .ok (.if_icmp .ne 56, 3) := by decide +kernel
theorem dX11_come_112 : decode cX11_come 112 = .ok (.aload_n 0, 1) := by decide +kernel
theorem dX11_come_113 : decode cX11_come 113 = .ok (.aload_n 3, 1) := by decide +kernel
theorem dX11_come_114 : decode cX11_come 114 = .ok (.invokevirtual 145, 3) := by decide +kernel
theorem dX11_come_117 : decode cX11_come 117 = .ok (.iconst 1, 1) := by decide +kernel
theorem dX11_come_118 : decode cX11_come 118 = .ok (.istore 7, 2) := by decide +kernel
theorem dX11_come_120 : decode cX11_come 120 = .ok (.iconst 0, 1) := by decide +kernel
theorem dX11_come_121 : decode cX11_come 121 = .ok (.istore 8, 2) := by decide +kernel
theorem dX11_come_123 : decode cX11_come 123 = .ok (.iload 8, 2) := by decide +kernel
theorem dX11_come_125 : decode cX11_come 125 = .ok (.sipush 4000, 3) := by decide +kernel
theorem dX11_come_128 : decode cX11_come 128 = .ok (.if_icmp .ge 21, 3) := by decide +kernel
theorem dX11_come_131 : decode cX11_come 131 = .ok (.iload 7, 2) := by decide +kernel
theorem dX11_come_133 : decode cX11_come 133 = .ok (.ifCond .eq 16, 3) := by decide +kernel
theorem dX11_come_136 : decode cX11_come 136 = .ok (.aload_n 0, 1) := by decide +kernel
theorem dX11_come_137 : decode cX11_come 137 = .ok (.aload_n 3, 1) := by decide +kernel
theorem dX11_come_138 : decode cX11_come 138 = .ok (.invokevirtual 148, 3) := by decide +kernel
theorem dX11_come_141 : decode cX11_come 141 = .ok (.istore 7, 2) := by decide +kernel
theorem dX11_come_143 : decode cX11_come 143 = .ok (.iinc 8 1, 3) := by decide +kernel
theorem dX11_come_146 : decode cX11_come 146 = .ok (.goto (-23), 3) := by decide +kernel
theorem dX11_come_149 : decode cX11_come 149 = .ok (.aload_n 3, 1) := by decide +kernel
theorem dX11_come_150 : decode cX11_come 150 = .ok (.getfield 136, 3) := by decide +kernel
theorem dX11_come_153 : decode cX11_come 153 = .ok (.iconst 0, 1) := by decide +kernel
theorem dX11_come_154 : decode cX11_come 154 = .ok (.putfield 85, 3) := by decide +kernel
theorem dX11_come_157 : decode cX11_come 157 = .ok (.aload_n 3, 1) := by decide +kernel
theorem dX11_come_158 : decode cX11_come 158 = .ok (.aload_n 0, 1) := by decide +kernel
theorem dX11_come_159 : decode cX11_come 159 = .ok (.getfield 65, 3) := by decide +kernel
theorem dX11_come_162 : decode cX11_come 162 = .ok (.invokevirtual 152, 3) := by decide +kernel
theorem dX11_come_165 : decode cX11_come 165 = .ok (.iload 4, 2) := by decide +kernel
theorem dX11_come_167 : decode cX11_come 167 = .ok (.iload 6, 2) := by decide +kernel
theorem dX11_come_169 : decode cX11_come 169 = .ok (.ifCond .ne 7, 3) := by decide +kernel
theorem dX11_come_172 : decode cX11_come 172 = .ok (.iconst 0, 1) := by decide +kernel
theorem dX11_come_173 : decode cX11_come 173 = .ok (.goto 4, 3) := by decide +kernel
theorem dX11_come_176 : decode cX11_come 176 = .ok (.iconst 1, 1) := by decide +kernel
theorem dX11_come_177 : decode cX11_come 177 = .ok (.iadd, 1) := by decide +kernel
theorem dX11_come_178 : decode cX11_come 178 = .ok (.istore 4, 2) := by decide +kernel
theorem dX11_come_180 : decode cX11_come 180 = .ok (.iinc 5 1, 3) := by decide +kernel
theorem dX11_come_183 : decode cX11_come 183 = .ok (.goto (-131), 3) := by decide +kernel
theorem dX11_come_186 : decode cX11_come 186 = .ok (.iload 4, 2) := by decide +kernel
theorem dX11_come_188 : decode cX11_come 188 = .ok (.ireturn, 1) := by decide +kernel
set_option maxRecDepth 100000 in
set_option maxHeartbeats 4000000 in
theorem c_X11_come (l : Launch) (D : va_G) (t : Nat → ClassId) (G : GE) (κ : CS) (h : Nat) (a1 : Int32) (post : Int32 → CS → Prop) (hw : F_X11_come G h a1 post κ) (sz : Nat) : CMi l D t yX11_come cX11_come 9 (some .int) 15 380 G κ sz [.ref h, .int a1] post := by
  refine c_go (by decide) (Nat.le_of_ble_eq_true rfl) ?_
  intro p e s m below meth c ls A hF hr hlk hin hAe hH hA hE hl
  unfold cB
  rw [hAe]
  clear hAe
  have hF : FX p m c cX11_come 9 s _ RX11 D t := hF
  have hx := hF.1.1
  have hb := hF.1.2.1
  have hl : lv_has ls 9 [(0, .ref h), (1, .int a1)] := hl
  unfold F_X11_come at hw
  refine lv_aload_n hx hb dX11_come_0 rfl (lv_at hl 0 rfl) ?_
  refine cw_getPr (a := h) hF hH fk_X11_10 dX11_come_1 hw (fun z1 hw => ?_)
  refine cw_getI (q := z1) hF hH fk_X11_85 dX11_come_4 hw (fun z2 hw => ?_)
  refine lv_aload_n hx hb dX11_come_7 rfl (lv_at hl 0 rfl) ?_
  refine cw_getPr (a := h) hF hH fk_X11_10 dX11_come_8 hw (fun z3 hw => ?_)
  refine cw_getP (q := z3) hF hH fk_X11_126 dX11_come_11 hw (fun z4 hw => ?_)
  refine cw_alen (q := z4) hF hH hE dX11_come_14 hw (fun z5 hw => ?_)
  refine cw_mmin hF hH hl.1 (wc_15 33 rfl) (wc_10 25 rfl) (wc_5 5 rfl) (wc_10 24 rfl) (Nat.le_of_ble_eq_true rfl) (Nat.le_of_ble_eq_true rfl) dX11_come_15 hw (fun z7 hw => ?_)
  refine lv_istore_n (lv' := [(2, .int z7), (0, .ref h), (1, .int a1)]) hx hb dX11_come_18 rfl hl (by decide) rfl (fun ls hl => ?_)
  refine lv_aload_n hx hb dX11_come_19 rfl (lv_at hl 1 rfl) ?_
  refine cw_getPr (a := h) hF hH fk_X11_10 dX11_come_20 hw (fun z8 hw => ?_)
  refine lv_iconst (v := 0) hx hb dX11_come_23 (by decide) ?_
  refine cw_putI (q := z8) (v := 0) hF hH fk_X11_85 dX11_come_24 rfl rfl rfl hw (fun κ9 H locs cells slots hw hH => ?_)
  refine lv_aload_n hx hb dX11_come_27 rfl (lv_at hl 1 rfl) ?_
  refine lv_iload_n hx hb dX11_come_28 rfl (lv_at hl 2 rfl) ?_
  refine cw_cVq (b := h) (As := [.int a1]) (rest := []) hF hH hA hE mv_X11_108 ci_X11 (by decide) (fun sz => c_X11_connection l D t G _ h a1 _ hw.2 sz) dX11_come_29 hw.1 ⟨Nat.le_of_ble_eq_true rfl, Nat.le_of_ble_eq_true rfl⟩ rfl hl.1 (Nat.le_of_ble_eq_true rfl) rfl (fun z11 κ10 H locs cells slots hw hH => ?_)
  refine w_astoreq_n (lv' := [(3, va_rf z11), (2, .int z7), (0, .ref h), (1, .int a1)]) hF dX11_come_32 rfl hl (by decide) rfl (fun ls hl => ?_)
  refine w_aloadq_n hF dX11_come_33 rfl (lv_at hl 0 rfl) ?_
  obtain ⟨K14, hK15, hw⟩ := jc_open hw
  refine cw_join (K := K14) 44 (fun (x12 : Unit) => []) (fun (x12 : Unit) => []) hl hH (fun x12 κ13 ls H locs cells slots hl hw hH => ?_) (fun jn16 => ?_)
  · have hw := hK15 x12 κ13 hw
    have hl : lv_has ls 9 [] := hl
    refine lv_iconst (v := (-1)) hx hb dX11_come_44 (by decide) ?_
    exact cw_reti hF hH ⟨rfl, rfl⟩ hr rfl hlk dX11_come_45 hw
  · skip
    refine cw_ifnull (q := z11) (tgt := 44) hF dX11_come_34 rfl hw (fun hw => ?_) (fun hw => ?_)
    · have hl : lv_has ls 9 [] := lv_sub hl [] rfl
      exact jn16 () κ10 ls _ _ _ _ hl hw hH
    · refine w_aloadq_n hF dX11_come_37 rfl (lv_at hl 0 rfl) ?_
      refine cw_getI (q := z11) hF hH fk_X11_112 dX11_come_38 hw (fun z17 hw => ?_)
      refine w_if_ne (tgt := 46) hF dX11_come_41 rfl hw (fun hw => ?_) (fun hw => ?_)
      · refine lv_iconst (v := 0) hx hb dX11_come_46 (by decide) ?_
        refine lv_istore (lv' := [(4, .int 0), (3, va_rf z11), (2, .int z7), (0, .ref h), (1, .int a1)]) hx hb dX11_come_47 hl (by decide) (by generalize z11 = y; cases y <;> rfl) (fun ls hl => ?_)
        refine lv_iconst (v := 0) hx hb dX11_come_49 (by decide) ?_
        refine lv_istore (lv' := [(5, .int 0), (4, .int 0), (3, va_rf z11), (2, .int z7), (0, .ref h), (1, .int a1)]) hx hb dX11_come_50 hl (by decide) rfl (fun ls hl => ?_)
        have hl : lv_has ls 9 [(5, .int 0), (4, .int 0), (3, va_rf z11), (2, .int z7), (0, .ref h)] := lv_sub hl [0, 1, 2, 3, 4] rfl
        refine cw_loop (β := Int32 × Int32) (fun x18 => [(5, .int x18.1), (4, .int x18.2), (3, va_rf z11), (2, .int z7), (0, .ref h)]) (0, 0) hl hw hH (fun K20 x18 κ19 ls H locs cells slots hl hw hH ih21 => ?_)
        have hl : lv_has ls 9 [(5, .int x18.1), (4, .int x18.2), (3, va_rf z11), (2, .int z7), (0, .ref h)] := hl
        refine lv_iload hx hb dX11_come_52 (lv_at hl 0 rfl) ?_
        refine lv_iload_n hx hb dX11_come_54 rfl (lv_at hl 3 rfl) ?_
        obtain ⟨K24, hK25, hw⟩ := jc_open hw
        refine cw_join (K := K24) 186 (fun (x22 : Unit) => [(4, .int x18.2)]) (fun (x22 : Unit) => []) hl hH (fun x22 κ23 ls H locs cells slots hl hw hH => ?_) (fun jn26 => ?_)
        · have hw := hK25 x22 κ23 hw
          have hl : lv_has ls 9 [(4, .int x18.2)] := hl
          refine lv_iload hx hb dX11_come_186 (lv_at hl 0 rfl) ?_
          exact cw_reti hF hH ⟨rfl, rfl⟩ hr rfl hlk dX11_come_188 hw
        · skip
          refine w_icmp_ge (tgt := 186) hF dX11_come_55 rfl hw (fun hw => ?_) (fun hw => ?_)
          · have hl : lv_has ls 9 [(4, .int x18.2)] := lv_sub hl [1] rfl
            exact jn26 () κ19 ls _ _ _ _ hl hw hH
          · refine w_aloadq_n hF dX11_come_58 rfl (lv_at hl 2 rfl) ?_
            refine cw_getI (q := z11) hF hH fk_X11_112 dX11_come_59 hw (fun z27 hw => ?_)
            refine w_if_eq (tgt := 186) hF dX11_come_62 rfl hw (fun hw => ?_) (fun hw => ?_)
            · have hl : lv_has ls 9 [(4, .int x18.2)] := lv_sub hl [1] rfl
              exact jn26 () κ19 ls _ _ _ _ hl hw hH
            · refine w_aloadq_n hF dX11_come_65 rfl (lv_at hl 2 rfl) ?_
              refine cw_getP (q := z11) hF hH fk_X11_136 dX11_come_66 hw (fun z28 hw => ?_)
              refine lv_aload_n hx hb dX11_come_69 rfl (lv_at hl 4 rfl) ?_
              refine cw_getPr (a := h) hF hH fk_X11_10 dX11_come_70 hw (fun z29 hw => ?_)
              refine cw_getP (q := z29) hF hH fk_X11_126 dX11_come_73 hw (fun z30 hw => ?_)
              refine lv_iload hx hb dX11_come_76 (lv_at hl 0 rfl) ?_
              refine cw_bald (q := z30) hF hH hE dX11_come_78 hw (fun z31 hw => ?_)
              refine cw_cVvq (q := z28) (As := [.int z31]) (rest := []) hF hH hA hE mv_X11_139 ci_X6 (by decide) hw (fun b hw sz => c_X6_add l D t G _ b z31 _ hw sz) dX11_come_79 ⟨Nat.le_of_ble_eq_true rfl, Nat.le_of_ble_eq_true rfl⟩ rfl hl.1 (Nat.le_of_ble_eq_true rfl) rfl (fun κ32 H locs cells slots hw hH => ?_)
              refine w_aloadq_n hF dX11_come_82 rfl (lv_at hl 2 rfl) ?_
              refine cw_cViq (q := z11) (As := []) (rest := []) hF hH hA hE mv_X11_142 ci_X2 (by decide) hw (fun b hw sz => c_X2_frame l D t G _ b  _ hw sz) dX11_come_83 ⟨Nat.le_of_ble_eq_true rfl, Nat.le_of_ble_eq_true rfl⟩ rfl hl.1 (Nat.le_of_ble_eq_true rfl) rfl (fun z35 κ34 H locs cells slots hw hH => ?_)
              refine lv_istore (lv' := [(6, .int z35), (5, .int x18.1), (4, .int x18.2), (3, va_rf z11), (2, .int z7), (0, .ref h)]) hx hb dX11_come_86 hl (by decide) rfl (fun ls hl => ?_)
              refine lv_iload hx hb dX11_come_88 (lv_at hl 0 rfl) ?_
              refine lv_iconst (v := 2) hx hb dX11_come_90 (by decide) ?_
              obtain ⟨K38, hK39, hw⟩ := jc_open hw
              refine cw_join (K := K38) 165 (fun (x36 : Unit) => [(6, .int z35), (5, .int x18.1), (4, .int x18.2), (3, va_rf z11), (2, .int z7), (0, .ref h)]) (fun (x36 : Unit) => []) hl hH (fun x36 κ37 ls H locs cells slots hl hw hH => ?_) (fun jn40 => ?_)
              · have hw := hK39 x36 κ37 hw
                have hl : lv_has ls 9 [(6, .int z35), (5, .int x18.1), (4, .int x18.2), (3, va_rf z11), (2, .int z7), (0, .ref h)] := hl
                refine lv_iload hx hb dX11_come_165 (lv_at hl 2 rfl) ?_
                refine lv_iload hx hb dX11_come_167 (lv_at hl 0 rfl) ?_
                obtain ⟨K43, hK44, hw⟩ := jc_open hw
                refine cw_join (K := K43) 177 (fun (x41 : Int32) => [(5, .int x18.1), (3, va_rf z11), (2, .int z7), (0, .ref h)]) (fun (x41 : Int32) => [.int x41, .int x18.2]) hl hH (fun x41 κ42 ls H locs cells slots hl hw hH => ?_) (fun jn45 => ?_)
                · have hw := hK44 x41 κ42 hw
                  have hl : lv_has ls 9 [(5, .int x18.1), (3, va_rf z11), (2, .int z7), (0, .ref h)] := hl
                  refine lv_iadd hx hb dX11_come_177 ?_
                  refine w_nmi hw (fun z46 hw => ?_)
                  refine lv_istore (lv' := [(4, .int z46), (5, .int x18.1), (3, va_rf z11), (2, .int z7), (0, .ref h)]) hx hb dX11_come_178 hl (by decide) (by generalize z11 = y; cases y <;> rfl) (fun ls hl => ?_)
                  obtain ⟨z47, ez47⟩ : ∃ z : Int32, z = x18.1 + 1 := ⟨_, rfl⟩
                  have hw := hw z47 ez47
                  refine lv_iinc (lv' := [(5, .int z47), (4, .int z46), (3, va_rf z11), (2, .int z7), (0, .ref h)]) (k := 1) (v := z47) hx hb dX11_come_180 hl rfl ez47.symm (by decide) rfl (fun ls hl => ?_)
                  refine lv_goto (tgt := 52) hx hb dX11_come_183 rfl ?_
                  exact ih21 (z47, z46) κ42 ls _ _ _ _ hl hw hH
                · skip
                  refine w_if_ne (tgt := 176) hF dX11_come_169 rfl hw (fun hw => ?_) (fun hw => ?_)
                  · refine lv_iconst (v := 1) hx hb dX11_come_176 (by decide) ?_
                    have hl : lv_has ls 9 [(5, .int x18.1), (3, va_rf z11), (2, .int z7), (0, .ref h)] := lv_sub hl [1, 3, 4, 5] rfl
                    exact jn45 1 κ37 ls _ _ _ _ hl hw hH
                  · refine lv_iconst (v := 0) hx hb dX11_come_172 (by decide) ?_
                    refine lv_goto (tgt := 177) hx hb dX11_come_173 rfl ?_
                    have hl : lv_has ls 9 [(5, .int x18.1), (3, va_rf z11), (2, .int z7), (0, .ref h)] := lv_sub hl [1, 3, 4, 5] rfl
                    exact jn45 0 κ37 ls _ _ _ _ hl hw hH
              · skip
                refine w_icmp_ne (tgt := 106) hF dX11_come_91 rfl hw (fun hw => ?_) (fun hw => ?_)
                · refine lv_iload hx hb dX11_come_106 (lv_at hl 0 rfl) ?_
                  refine lv_iconst (v := 1) hx hb dX11_come_108 (by decide) ?_
                  refine w_icmp_ne (tgt := 165) hF dX11_come_109 rfl hw (fun hw => ?_) (fun hw => ?_)
                  · exact jn40 () κ34 ls _ _ _ _ hl hw hH
                  · refine lv_aload_n hx hb dX11_come_112 rfl (lv_at hl 5 rfl) ?_
                    refine w_aloadq_n hF dX11_come_113 rfl (lv_at hl 3 rfl) ?_
                    refine cw_cVv (b := h) (As := [va_rf z11]) (rest := []) hF hH hA hE mv_X11_145 ci_X11 (by decide) (fun sz => c_X11_beginMessage l D t G _ h z11 _ hw.2 sz) dX11_come_114 hw.1 ⟨Nat.le_of_ble_eq_true rfl, Nat.le_of_ble_eq_true rfl⟩ rfl hl.1 (Nat.le_of_ble_eq_true rfl) rfl (fun κ48 H locs cells slots hw hH => ?_)
                    refine lv_iconst (v := 1) hx hb dX11_come_117 (by decide) ?_
                    refine lv_istore (lv' := [(7, .int 1), (6, .int z35), (5, .int x18.1), (4, .int x18.2), (3, va_rf z11), (2, .int z7), (0, .ref h)]) hx hb dX11_come_118 hl (by decide) rfl (fun ls hl => ?_)
                    refine lv_iconst (v := 0) hx hb dX11_come_120 (by decide) ?_
                    refine lv_istore (lv' := [(8, .int 0), (7, .int 1), (6, .int z35), (5, .int x18.1), (4, .int x18.2), (3, va_rf z11), (2, .int z7), (0, .ref h)]) hx hb dX11_come_121 hl (by decide) rfl (fun ls hl => ?_)
                    refine cw_loop (β := Int32 × Int32) (fun x50 => [(8, .int x50.1), (7, .int x50.2), (6, .int z35), (5, .int x18.1), (4, .int x18.2), (3, va_rf z11), (2, .int z7), (0, .ref h)]) (0, 1) hl hw hH (fun K52 x50 κ51 ls H locs cells slots hl hw hH ih53 => ?_)
                    have hl : lv_has ls 9 [(8, .int x50.1), (7, .int x50.2), (6, .int z35), (5, .int x18.1), (4, .int x18.2), (3, va_rf z11), (2, .int z7), (0, .ref h)] := hl
                    refine lv_iload hx hb dX11_come_123 (lv_at hl 0 rfl) ?_
                    refine lv_sipush (v := 4000) hx hb dX11_come_125 (by decide) ?_
                    obtain ⟨K56, hK57, hw⟩ := jc_open hw
                    refine cw_join (K := K56) 149 (fun (x54 : Unit) => [(6, .int z35), (5, .int x18.1), (4, .int x18.2), (3, va_rf z11), (2, .int z7), (0, .ref h)]) (fun (x54 : Unit) => []) hl hH (fun x54 κ55 ls H locs cells slots hl hw hH => ?_) (fun jn58 => ?_)
                    · have hw := hK57 x54 κ55 hw
                      have hl : lv_has ls 9 [(6, .int z35), (5, .int x18.1), (4, .int x18.2), (3, va_rf z11), (2, .int z7), (0, .ref h)] := hl
                      refine w_aloadq_n hF dX11_come_149 rfl (lv_at hl 3 rfl) ?_
                      refine cw_getP (q := z11) hF hH fk_X11_136 dX11_come_150 hw (fun z59 hw => ?_)
                      refine lv_iconst (v := 0) hx hb dX11_come_153 (by decide) ?_
                      refine cw_putI (q := z59) (v := 0) hF hH fk_X11_85 dX11_come_154 rfl rfl rfl hw (fun κ60 H locs cells slots hw hH => ?_)
                      refine w_aloadq_n hF dX11_come_157 rfl (lv_at hl 3 rfl) ?_
                      refine lv_aload_n hx hb dX11_come_158 rfl (lv_at hl 5 rfl) ?_
                      refine cw_getPr (a := h) hF hH fk_X11_65 dX11_come_159 hw (fun z61 hw => ?_)
                      refine cw_cVvq (q := z11) (As := [va_rf z61]) (rest := []) hF hH hA hE mv_X11_152 ci_X2 (by decide) hw (fun b hw sz => c_X2_post l D t G _ b z61 _ hw sz) dX11_come_162 ⟨Nat.le_of_ble_eq_true rfl, Nat.le_of_ble_eq_true rfl⟩ rfl hl.1 (Nat.le_of_ble_eq_true rfl) rfl (fun κ62 H locs cells slots hw hH => ?_)
                      exact jn40 () κ62 ls _ _ _ _ hl hw hH
                    · skip
                      refine w_icmp_ge (tgt := 149) hF dX11_come_128 rfl hw (fun hw => ?_) (fun hw => ?_)
                      · have hl : lv_has ls 9 [(6, .int z35), (5, .int x18.1), (4, .int x18.2), (3, va_rf z11), (2, .int z7), (0, .ref h)] := lv_sub hl [2, 3, 4, 5, 6, 7] rfl
                        exact jn58 () κ51 ls _ _ _ _ hl hw hH
                      · refine lv_iload hx hb dX11_come_131 (lv_at hl 1 rfl) ?_
                        refine w_if_eq (tgt := 149) hF dX11_come_133 rfl hw (fun hw => ?_) (fun hw => ?_)
                        · have hl : lv_has ls 9 [(6, .int z35), (5, .int x18.1), (4, .int x18.2), (3, va_rf z11), (2, .int z7), (0, .ref h)] := lv_sub hl [2, 3, 4, 5, 6, 7] rfl
                          exact jn58 () κ51 ls _ _ _ _ hl hw hH
                        · refine lv_aload_n hx hb dX11_come_136 rfl (lv_at hl 7 rfl) ?_
                          refine w_aloadq_n hF dX11_come_137 rfl (lv_at hl 5 rfl) ?_
                          refine cw_cVi (b := h) (As := [va_rf z11]) (rest := []) hF hH hA hE mv_X11_148 ci_X11 (by decide) (fun sz => c_X11_request l D t G _ h z11 _ hw.2 sz) dX11_come_138 hw.1 ⟨Nat.le_of_ble_eq_true rfl, Nat.le_of_ble_eq_true rfl⟩ rfl hl.1 (Nat.le_of_ble_eq_true rfl) rfl (fun z65 κ64 H locs cells slots hw hH => ?_)
                          refine lv_istore (lv' := [(7, .int z65), (8, .int x50.1), (6, .int z35), (5, .int x18.1), (4, .int x18.2), (3, va_rf z11), (2, .int z7), (0, .ref h)]) hx hb dX11_come_141 hl (by decide) rfl (fun ls hl => ?_)
                          obtain ⟨z66, ez66⟩ : ∃ z : Int32, z = x50.1 + 1 := ⟨_, rfl⟩
                          have hw := hw z66 ez66
                          refine lv_iinc (lv' := [(8, .int z66), (7, .int z65), (6, .int z35), (5, .int x18.1), (4, .int x18.2), (3, va_rf z11), (2, .int z7), (0, .ref h)]) (k := 1) (v := z66) hx hb dX11_come_143 hl rfl ez66.symm (by decide) rfl (fun ls hl => ?_)
                          refine lv_goto (tgt := 123) hx hb dX11_come_146 rfl ?_
                          exact ih53 (z66, z65) κ64 ls _ _ _ _ hl hw hH
                · refine lv_aload_n hx hb dX11_come_94 rfl (lv_at hl 5 rfl) ?_
                  refine w_aloadq_n hF dX11_come_95 rfl (lv_at hl 3 rfl) ?_
                  refine cw_cVv (b := h) (As := [va_rf z11]) (rest := []) hF hH hA hE mv_X11_119 ci_X11 (by decide) (fun sz => c_X11_shutOff l D t G _ h z11 _ hw.2 sz) dX11_come_96 hw.1 ⟨Nat.le_of_ble_eq_true rfl, Nat.le_of_ble_eq_true rfl⟩ rfl hl.1 (Nat.le_of_ble_eq_true rfl) rfl (fun κ67 H locs cells slots hw hH => ?_)
                  refine lv_aload_n hx hb dX11_come_99 rfl (lv_at hl 5 rfl) ?_
                  refine cw_cVv (b := h) (As := []) (rest := []) hF hH hA hE mv_X11_123 ci_X11 (by decide) (fun sz => c_X11_settle l D t G _ h  _ hw.2 sz) dX11_come_100 hw.1 ⟨Nat.le_of_ble_eq_true rfl, Nat.le_of_ble_eq_true rfl⟩ rfl hl.1 (Nat.le_of_ble_eq_true rfl) rfl (fun κ69 H locs cells slots hw hH => ?_)
                  refine lv_goto (tgt := 165) hx hb dX11_come_103 rfl ?_
                  exact jn40 () κ69 ls _ _ _ _ hl hw hH
      · have hl : lv_has ls 9 [] := lv_sub hl [] rfl
        exact jn16 () κ10 ls _ _ _ _ hl hw hH
set_option maxRecDepth 100000 in
def F_X11_isOpen (G : GE) (h : Nat) (a1 : Int32) (post : Int32 → CS → Prop) (κ : CS) : Prop := (h ∈ sL κ.1 ∧ sK κ.1 h = 1) ∧ F_X11_connection G h a1 (fun (z2 : Option Nat) (κ1 : CS) => jc (fun (K5 : Int32 → CS → Prop) => jc (fun (K10 : Unit → CS → Prop) => ((z2 = none) → K10 () κ1) ∧ ((¬ z2 = none) → ∃ b : Nat, z2 = some b ∧ (b ∈ sL κ1.1 ∧ sK κ1.1 b = 3) ∧ ∀ z13 : Int32, z13 = sI κ1.1 b 0 → ((z13.toInt = 0) → K10 () κ1) ∧ ((¬ z13.toInt = 0) → K5 1 κ1))) (fun (x8 : Unit) (κ9 : CS) => K5 0 κ9)) (fun (x3 : Int32) (κ4 : CS) => (0 ≤ x3.toInt ∧ x3.toInt ≤ 1) ∧ post x3 κ4)) κ
theorem dX11_isOpen_0 : decode cX11_isOpen 0 = .ok (.aload_n 0, 1) := by decide +kernel
theorem dX11_isOpen_1 : decode cX11_isOpen 1 = .ok (.iload_n 1, 1) := by decide +kernel
theorem dX11_isOpen_2 : decode cX11_isOpen 2 = .ok (.invokevirtual 108, 3) := by decide +kernel
theorem dX11_isOpen_5 : decode cX11_isOpen 5 = .ok (.astore_n 2, 1) := by decide +kernel
theorem dX11_isOpen_6 : decode cX11_isOpen 6 = .ok (.aload_n 2, 1) := by decide +kernel
theorem dX11_isOpen_7 : decode cX11_isOpen 7 = .ok (.ifnull 14, 3) := by decide +kernel
theorem dX11_isOpen_10 : decode cX11_isOpen 10 = .ok (.aload_n 2, 1) := by decide +kernel
theorem dX11_isOpen_11 : decode cX11_isOpen 11 = .ok (.getfield 112, 3) := by decide +kernel
theorem dX11_isOpen_14 : decode cX11_isOpen 14 = .ok (.ifCond .eq 7, 3) := by decide +kernel
theorem dX11_isOpen_17 : decode cX11_isOpen 17 = .ok (.iconst 1, 1) := by decide +kernel
theorem dX11_isOpen_18 : decode cX11_isOpen 18 = .ok (.goto 4, 3) := by decide +kernel
theorem dX11_isOpen_21 : decode cX11_isOpen 21 = .ok (.iconst 0, 1) := by decide +kernel
theorem dX11_isOpen_22 : decode cX11_isOpen 22 = .ok (.ireturn, 1) := by decide +kernel
set_option maxRecDepth 100000 in
set_option maxHeartbeats 4000000 in
theorem c_X11_isOpen (l : Launch) (D : va_G) (t : Nat → ClassId) (G : GE) (κ : CS) (h : Nat) (a1 : Int32) (post : Int32 → CS → Prop) (hw : F_X11_isOpen G h a1 post κ) (sz : Nat) : CMi l D t yX11_isOpen cX11_isOpen 3 (some .boolean) 1 35 G κ sz [.ref h, .int a1] post := by
  refine c_go (by decide) (Nat.le_of_ble_eq_true rfl) ?_
  intro p e s m below meth c ls A hF hr hlk hin hAe hH hA hE hl
  unfold cB
  rw [hAe]
  clear hAe
  have hF : FX p m c cX11_isOpen 3 s _ RX11 D t := hF
  have hx := hF.1.1
  have hb := hF.1.2.1
  have hl : lv_has ls 3 [(0, .ref h), (1, .int a1)] := hl
  unfold F_X11_isOpen at hw
  refine lv_aload_n hx hb dX11_isOpen_0 rfl (lv_at hl 0 rfl) ?_
  refine lv_iload_n hx hb dX11_isOpen_1 rfl (lv_at hl 1 rfl) ?_
  refine cw_cVq (b := h) (As := [.int a1]) (rest := []) hF hH hA hE mv_X11_108 ci_X11 (by decide) (fun sz => c_X11_connection l D t G _ h a1 _ hw.2 sz) dX11_isOpen_2 hw.1 ⟨Nat.le_of_ble_eq_true rfl, Nat.le_of_ble_eq_true rfl⟩ rfl hl.1 (Nat.le_of_ble_eq_true rfl) rfl (fun z2 κ1 H locs cells slots hw hH => ?_)
  refine w_astoreq_n (lv' := [(2, va_rf z2), (0, .ref h), (1, .int a1)]) hF dX11_isOpen_5 rfl hl (by decide) rfl (fun ls hl => ?_)
  refine w_aloadq_n hF dX11_isOpen_6 rfl (lv_at hl 0 rfl) ?_
  obtain ⟨K5, hK6, hw⟩ := jc_open hw
  refine cw_join (K := K5) 22 (fun (x3 : Int32) => []) (fun (x3 : Int32) => [.int x3]) hl hH (fun x3 κ4 ls H locs cells slots hl hw hH => ?_) (fun jn7 => ?_)
  · have hw := hK6 x3 κ4 hw
    have hl : lv_has ls 3 [] := hl
    exact cw_retz hF hH ⟨rfl, rfl⟩ hr hlk dX11_isOpen_22 hw
  · skip
    obtain ⟨K10, hK11, hw⟩ := jc_open hw
    refine cw_join (K := K10) 21 (fun (x8 : Unit) => []) (fun (x8 : Unit) => []) hl hH (fun x8 κ9 ls H locs cells slots hl hw hH => ?_) (fun jn12 => ?_)
    · have hw := hK11 x8 κ9 hw
      have hl : lv_has ls 3 [] := hl
      refine lv_iconst (v := 0) hx hb dX11_isOpen_21 (by decide) ?_
      exact jn7 0 κ9 ls _ _ _ _ hl hw hH
    · skip
      refine cw_ifnull (q := z2) (tgt := 21) hF dX11_isOpen_7 rfl hw (fun hw => ?_) (fun hw => ?_)
      · have hl : lv_has ls 3 [] := lv_sub hl [] rfl
        exact jn12 () κ1 ls _ _ _ _ hl hw hH
      · refine w_aloadq_n hF dX11_isOpen_10 rfl (lv_at hl 0 rfl) ?_
        refine cw_getI (q := z2) hF hH fk_X11_112 dX11_isOpen_11 hw (fun z13 hw => ?_)
        refine w_if_eq (tgt := 21) hF dX11_isOpen_14 rfl hw (fun hw => ?_) (fun hw => ?_)
        · have hl : lv_has ls 3 [] := lv_sub hl [] rfl
          exact jn12 () κ1 ls _ _ _ _ hl hw hH
        · refine lv_iconst (v := 1) hx hb dX11_isOpen_17 (by decide) ?_
          refine lv_goto (tgt := 22) hx hb dX11_isOpen_18 rfl ?_
          have hl : lv_has ls 3 [] := lv_sub hl [] rfl
          exact jn7 1 κ1 ls _ _ _ _ hl hw hH
set_option maxRecDepth 100000 in
def F_X11_tick (G : GE) (h : Nat) (a1 : Int32) (post : Int32 → CS → Prop) (κ : CS) : Prop := jc (fun (K3 : Unit → CS → Prop) => ((a1.toInt < 0) → K3 () κ) ∧ ((0 ≤ a1.toInt) → ((a1.toInt ≤ (1000000 : Int32).toInt) → (h ∈ sL κ.1 ∧ sK κ.1 h = 1) ∧ ∀ z6 : Int64, z6 = sJ κ.1 h 7 → ∀ z7 : Int64, z7 = (a1 : Int32).toInt64 → ∀ z8 : Int64, z8 = z6 + z7 → (h ∈ sL κ.1 ∧ sK κ.1 h = 1) ∧ ∀ κ9 : CS, κ9 = (h_uJ κ.1 h 7 z8, κ.2) → lc (fun (K12 : Int32 → CS → Prop) (x10 : Int32) (κ11 : CS) => (h ∈ sL κ11.1 ∧ sK κ11.1 h = 1) ∧ ∀ z14 : Option Nat, z14 = sP κ11.1 h 10 → ∃ b : Nat, z14 = some b ∧ (b ∈ sL κ11.1 ∧ sK κ11.1 b = 7) ∧ F_Jx4a65c_size_8abf5 G b  (fun (z16 : Int32) (κ15 : CS) => ((z16.toInt ≤ x10.toInt) → (0 ≤ (1 : Int32).toInt ∧ (1 : Int32).toInt ≤ 1) ∧ post 1 κ15) ∧ ((x10.toInt < z16.toInt) → (h ∈ sL κ15.1 ∧ sK κ15.1 h = 1) ∧ ∀ z17 : Option Nat, z17 = sP κ15.1 h 10 → ∃ b : Nat, z17 = some b ∧ (b ∈ sL κ15.1 ∧ sK κ15.1 b = 7) ∧ F_Jx4a65c_get_915e3 G b x10 (fun (z19 : Option Nat) (κ18 : CS) => (z19 = none ∨ ∃ b : Nat, z19 = some b ∧ b ∈ sL κ18.1 ∧ sK κ18.1 b = 10) ∧ ∃ b : Nat, z19 = some b ∧ (b ∈ sL κ18.1 ∧ sK κ18.1 b = 10) ∧ ∀ z20 : Int32, z20 = sI κ18.1 b 8 → jc (fun (K23 : Unit → CS → Prop) => ((z20.toInt = 0) → K23 () κ18) ∧ ((¬ z20.toInt = 0) → (h ∈ sL κ18.1 ∧ sK κ18.1 h = 1) ∧ ∀ z27 : Int64, z27 = sJ κ18.1 h 7 → ∃ b : Nat, z19 = some b ∧ (b ∈ sL κ18.1 ∧ sK κ18.1 b = 10) ∧ ∀ z28 : Int64, z28 = sJ κ18.1 b 10 → ∀ z29 : Int64, z29 = z27 - z28 → ((z29.toInt < (35 : Int64).toInt) → K23 () κ18) ∧ (((35 : Int64).toInt ≤ z29.toInt) → (h ∈ sL κ18.1 ∧ sK κ18.1 h = 1) ∧ F_X11_endBreak G h z19 0 (fun (κ30 : CS) => (h ∈ sL κ30.1 ∧ sK κ30.1 h = 1) ∧ F_X11_settle G h  (fun (κ32 : CS) => K23 () κ32) κ30) κ18))) (fun (x21 : Unit) (κ22 : CS) => ∀ z26 : Int32, z26 = x10 + 1 → K12 z26 κ22)) κ15)) κ11) 0 κ9) ∧ (((1000000 : Int32).toInt < a1.toInt) → K3 () κ))) (fun (x1 : Unit) (κ2 : CS) => (0 ≤ (0 : Int32).toInt ∧ (0 : Int32).toInt ≤ 1) ∧ post 0 κ2)
theorem dX11_tick_0 : decode cX11_tick 0 = .ok (.iload_n 1, 1) := by decide +kernel
theorem dX11_tick_1 : decode cX11_tick 1 = .ok (.ifCond .lt 9, 3) := by decide +kernel
theorem dX11_tick_4 : decode cX11_tick 4 = .ok (.iload_n 1, 1) := by decide +kernel
theorem dX11_tick_5 : decode cX11_tick 5 = .ok (.ldc 156, 2) := by decide +kernel
theorem dX11_tick_7 : decode cX11_tick 7 = .ok (.if_icmp .le 5, 3) := by decide +kernel
theorem dX11_tick_10 : decode cX11_tick 10 = .ok (.iconst 0, 1) := by decide +kernel
theorem dX11_tick_11 : decode cX11_tick 11 = .ok (.ireturn, 1) := by decide +kernel
theorem dX11_tick_12 : decode cX11_tick 12 = .ok (.aload_n 0, 1) := by decide +kernel
theorem dX11_tick_13 : decode cX11_tick 13 = .ok (.dup, 1) := by decide +kernel
theorem dX11_tick_14 : decode cX11_tick 14 = .ok (.getfield 157, 3) := by decide +kernel
theorem dX11_tick_17 : decode cX11_tick 17 = .ok (.iload_n 1, 1) := by decide +kernel
theorem dX11_tick_18 : decode cX11_tick 18 = .ok (.i2l, 1) := by decide +kernel
theorem dX11_tick_19 : decode cX11_tick 19 = .ok (.ladd, 1) := by decide +kernel
theorem dX11_tick_20 : decode cX11_tick 20 = .ok (.putfield 157, 3) := by decide +kernel
theorem dX11_tick_23 : decode cX11_tick 23 = .ok (.iconst 0, 1) := by decide +kernel
theorem dX11_tick_24 : decode cX11_tick 24 = .ok (.istore_n 2, 1) := by decide +kernel
theorem dX11_tick_25 : decode cX11_tick 25 = .ok (.iload_n 2, 1) := by decide +kernel
theorem dX11_tick_26 : decode cX11_tick 26 = .ok (.aload_n 0, 1) := by decide +kernel
theorem dX11_tick_27 : decode cX11_tick 27 = .ok (.getfield 52, 3) := by decide +kernel
theorem dX11_tick_30 : decode cX11_tick 30 = .ok (.invokevirtual 161, 3) := by decide +kernel
theorem dX11_tick_33 : decode cX11_tick 33 = .ok (.if_icmp .ge 54, 3) := by decide +kernel
theorem dX11_tick_36 : decode cX11_tick 36 = .ok (.aload_n 0, 1) := by decide +kernel
theorem dX11_tick_37 : decode cX11_tick 37 = .ok (.getfield 52, 3) := by decide +kernel
theorem dX11_tick_40 : decode cX11_tick 40 = .ok (.iload_n 2, 1) := by decide +kernel
theorem dX11_tick_41 : decode cX11_tick 41 = .ok (.invokevirtual 164, 3) := by decide +kernel
theorem dX11_tick_44 : decode cX11_tick 44 = .ok (.checkcast 168, 3) := by decide +kernel
theorem dX11_tick_47 : decode cX11_tick 47 = .ok (.astore_n 3, 1) := by decide +kernel
theorem dX11_tick_48 : decode cX11_tick 48 = .ok (.aload_n 3, 1) := by decide +kernel
theorem dX11_tick_49 : decode cX11_tick 49 = .ok (.getfield 170, 3) := by decide +kernel
theorem dX11_tick_52 : decode cX11_tick 52 = .ok (.ifCond .eq 29, 3) := by decide +kernel
theorem dX11_tick_55 : decode cX11_tick 55 = .ok (.aload_n 0, 1) := by decide +kernel
theorem dX11_tick_56 : decode cX11_tick 56 = .ok (.getfield 157, 3) := by decide +kernel
theorem dX11_tick_59 : decode cX11_tick 59 = .ok (.aload_n 3, 1) := by decide +kernel
theorem dX11_tick_60 : decode cX11_tick 60 = .ok (.getfield 173, 3) := by decide +kernel
theorem dX11_tick_63 : decode cX11_tick 63 = .ok (.lsub, 1) := by decide +kernel
theorem dX11_tick_64 : decode cX11_tick 64 = .ok (.ldc2_w 176, 3) := by decide +kernel
theorem dX11_tick_67 : decode cX11_tick 67 = .ok (.lcmp, 1) := by decide +kernel
theorem dX11_tick_68 : decode cX11_tick 68 = .ok (.ifCond .lt 13, 3) := by decide +kernel
theorem dX11_tick_71 : decode cX11_tick 71 = .ok (.aload_n 0, 1) := by decide +kernel
theorem dX11_tick_72 : decode cX11_tick 72 = .ok (.aload_n 3, 1) := by decide +kernel
theorem dX11_tick_73 : decode cX11_tick 73 = .ok (.iconst 0, 1) := by decide +kernel
theorem dX11_tick_74 : decode cX11_tick 74 = .ok (.invokevirtual 178, 3) := by decide +kernel
theorem dX11_tick_77 : decode cX11_tick 77 = .ok (.aload_n 0, 1) := by decide +kernel
theorem dX11_tick_78 : decode cX11_tick 78 = .ok (.invokevirtual 123, 3) := by decide +kernel
theorem dX11_tick_81 : decode cX11_tick 81 = .ok (.iinc 2 1, 3) := by decide +kernel
theorem dX11_tick_84 : decode cX11_tick 84 = .ok (.goto (-59), 3) := by decide +kernel
theorem dX11_tick_87 : decode cX11_tick 87 = .ok (.iconst 1, 1) := by decide +kernel
theorem dX11_tick_88 : decode cX11_tick 88 = .ok (.ireturn, 1) := by decide +kernel
set_option maxRecDepth 100000 in
set_option maxHeartbeats 4000000 in
theorem c_X11_tick (l : Launch) (D : va_G) (t : Nat → ClassId) (G : GE) (κ : CS) (h : Nat) (a1 : Int32) (post : Int32 → CS → Prop) (hw : F_X11_tick G h a1 post κ) (sz : Nat) : CMi l D t yX11_tick cX11_tick 4 (some .boolean) 11 274 G κ sz [.ref h, .int a1] post := by
  refine c_go (by decide) (Nat.le_of_ble_eq_true rfl) ?_
  intro p e s m below meth c ls A hF hr hlk hin hAe hH hA hE hl
  unfold cB
  rw [hAe]
  clear hAe
  have hF : FX p m c cX11_tick 4 s _ RX11 D t := hF
  have hx := hF.1.1
  have hb := hF.1.2.1
  have hl : lv_has ls 4 [(0, .ref h), (1, .int a1)] := hl
  unfold F_X11_tick at hw
  refine lv_iload_n hx hb dX11_tick_0 rfl (lv_at hl 1 rfl) ?_
  obtain ⟨K3, hK4, hw⟩ := jc_open hw
  refine cw_join (K := K3) 10 (fun (x1 : Unit) => []) (fun (x1 : Unit) => []) hl hH (fun x1 κ2 ls H locs cells slots hl hw hH => ?_) (fun jn5 => ?_)
  · have hw := hK4 x1 κ2 hw
    have hl : lv_has ls 4 [] := hl
    refine lv_iconst (v := 0) hx hb dX11_tick_10 (by decide) ?_
    exact cw_retz hF hH ⟨rfl, rfl⟩ hr hlk dX11_tick_11 hw
  · skip
    refine w_if_lt (tgt := 10) hF dX11_tick_1 rfl hw (fun hw => ?_) (fun hw => ?_)
    · have hl : lv_has ls 4 [] := lv_sub hl [] rfl
      exact jn5 () κ ls _ _ _ _ hl hw hH
    · refine lv_iload_n hx hb dX11_tick_4 rfl (lv_at hl 1 rfl) ?_
      refine lv_ldc (v := 1000000) hx hb hF.1.2.2.2.1 (hF.1.2.2.2.2 _ (wc_15 38 rfl)) dX11_tick_5 ?_
      refine w_icmp_le (tgt := 12) hF dX11_tick_7 rfl hw (fun hw => ?_) (fun hw => ?_)
      · refine lv_aload_n hx hb dX11_tick_12 rfl (lv_at hl 0 rfl) ?_
        refine lv_dup hx hb dX11_tick_13 rfl ?_
        refine cw_getJr (a := h) hF hH fk_X11_157 dX11_tick_14 hw (fun z6 hw => ?_)
        refine lv_iload_n hx hb dX11_tick_17 rfl (lv_at hl 1 rfl) ?_
        refine lv_i2l hx hb dX11_tick_18 rfl ?_
        refine w_nml hw (fun z7 hw => ?_)
        refine lv_ladd hx hb dX11_tick_19 ?_
        refine w_nml hw (fun z8 hw => ?_)
        refine cw_putJr (a := h) (v := z8) hF hH fk_X11_157 dX11_tick_20 rfl rfl rfl hw (fun κ9 H locs cells slots hw hH => ?_)
        refine lv_iconst (v := 0) hx hb dX11_tick_23 (by decide) ?_
        refine lv_istore_n (lv' := [(2, .int 0), (0, .ref h), (1, .int a1)]) hx hb dX11_tick_24 rfl hl (by decide) rfl (fun ls hl => ?_)
        have hl : lv_has ls 4 [(2, .int 0), (0, .ref h)] := lv_sub hl [0, 1] rfl
        refine cw_loop (β := Int32) (fun x10 => [(2, .int x10), (0, .ref h)]) 0 hl hw hH (fun K12 x10 κ11 ls H locs cells slots hl hw hH ih13 => ?_)
        have hl : lv_has ls 4 [(2, .int x10), (0, .ref h)] := hl
        refine lv_iload_n hx hb dX11_tick_25 rfl (lv_at hl 0 rfl) ?_
        refine lv_aload_n hx hb dX11_tick_26 rfl (lv_at hl 1 rfl) ?_
        refine cw_getPr (a := h) hF hH fk_X11_52 dX11_tick_27 hw (fun z14 hw => ?_)
        refine cw_cViq (q := z14) (As := []) (rest := [.int x10]) hF hH hA hE mv_X11_161 ci_Jx4a65c (by decide) hw (fun b hw sz => c_Jx4a65c_size_8abf5 l D t G _ b  _ hw sz) dX11_tick_30 ⟨Nat.le_of_ble_eq_true rfl, Nat.le_of_ble_eq_true rfl⟩ rfl hl.1 (Nat.le_of_ble_eq_true rfl) rfl (fun z16 κ15 H locs cells slots hw hH => ?_)
        refine w_icmp_ge (tgt := 87) hF dX11_tick_33 rfl hw (fun hw => ?_) (fun hw => ?_)
        · refine lv_iconst (v := 1) hx hb dX11_tick_87 (by decide) ?_
          exact cw_retz hF hH ⟨rfl, rfl⟩ hr hlk dX11_tick_88 hw
        · refine lv_aload_n hx hb dX11_tick_36 rfl (lv_at hl 1 rfl) ?_
          refine cw_getPr (a := h) hF hH fk_X11_52 dX11_tick_37 hw (fun z17 hw => ?_)
          refine lv_iload_n hx hb dX11_tick_40 rfl (lv_at hl 0 rfl) ?_
          refine cw_cVqq (q := z17) (As := [.int x10]) (rest := []) hF hH hA hE mv_X11_164 ci_Jx4a65c (by decide) hw (fun b hw sz => c_Jx4a65c_get_915e3 l D t G _ b x10 _ hw sz) dX11_tick_41 ⟨Nat.le_of_ble_eq_true rfl, Nat.le_of_ble_eq_true rfl⟩ rfl hl.1 (Nat.le_of_ble_eq_true rfl) rfl (fun z19 κ18 H locs cells slots hw hH => ?_)
          refine cw_cast (q := z19) hF hH ci_X5 (by decide) (wc_16 7 rfl) (by decide) dX11_tick_44 hw (fun hw => ?_)
          refine w_astoreq_n (lv' := [(3, va_rf z19), (2, .int x10), (0, .ref h)]) hF dX11_tick_47 rfl hl (by decide) rfl (fun ls hl => ?_)
          refine w_aloadq_n hF dX11_tick_48 rfl (lv_at hl 0 rfl) ?_
          refine cw_getI (q := z19) hF hH fk_X11_170 dX11_tick_49 hw (fun z20 hw => ?_)
          obtain ⟨K23, hK24, hw⟩ := jc_open hw
          refine cw_join (K := K23) 81 (fun (x21 : Unit) => [(2, .int x10), (0, .ref h)]) (fun (x21 : Unit) => []) hl hH (fun x21 κ22 ls H locs cells slots hl hw hH => ?_) (fun jn25 => ?_)
          · have hw := hK24 x21 κ22 hw
            have hl : lv_has ls 4 [(2, .int x10), (0, .ref h)] := hl
            obtain ⟨z26, ez26⟩ : ∃ z : Int32, z = x10 + 1 := ⟨_, rfl⟩
            have hw := hw z26 ez26
            refine lv_iinc (lv' := [(2, .int z26), (0, .ref h)]) (k := 0) (v := z26) hx hb dX11_tick_81 hl rfl ez26.symm (by decide) rfl (fun ls hl => ?_)
            refine lv_goto (tgt := 25) hx hb dX11_tick_84 rfl ?_
            exact ih13 z26 κ22 ls _ _ _ _ hl hw hH
          · skip
            refine w_if_eq (tgt := 81) hF dX11_tick_52 rfl hw (fun hw => ?_) (fun hw => ?_)
            · have hl : lv_has ls 4 [(2, .int x10), (0, .ref h)] := lv_sub hl [1, 2] rfl
              exact jn25 () κ18 ls _ _ _ _ hl hw hH
            · refine lv_aload_n hx hb dX11_tick_55 rfl (lv_at hl 2 rfl) ?_
              refine cw_getJr (a := h) hF hH fk_X11_157 dX11_tick_56 hw (fun z27 hw => ?_)
              refine w_aloadq_n hF dX11_tick_59 rfl (lv_at hl 0 rfl) ?_
              refine cw_getJ (q := z19) hF hH fk_X11_173 dX11_tick_60 hw (fun z28 hw => ?_)
              refine lv_lsub hx hb dX11_tick_63 ?_
              refine w_nml hw (fun z29 hw => ?_)
              refine lv_ldc2 (v := 35) hx hb hF.1.2.2.2.1 (hF.1.2.2.2.2 _ (wc_36 20 rfl)) dX11_tick_64 ?_
              refine w_lif_lt (tgt := 81) hF dX11_tick_67 dX11_tick_68 rfl hw (fun hw => ?_) (fun hw => ?_)
              · have hl : lv_has ls 4 [(2, .int x10), (0, .ref h)] := lv_sub hl [1, 2] rfl
                exact jn25 () κ18 ls _ _ _ _ hl hw hH
              · refine lv_aload_n hx hb dX11_tick_71 rfl (lv_at hl 2 rfl) ?_
                refine w_aloadq_n hF dX11_tick_72 rfl (lv_at hl 0 rfl) ?_
                refine lv_iconst (v := 0) hx hb dX11_tick_73 (by decide) ?_
                refine cw_cVv (b := h) (As := [va_rf z19, .int 0]) (rest := []) hF hH hA hE mv_X11_178 ci_X11 (by decide) (fun sz => c_X11_endBreak l D t G _ h z19 0 _ hw.2 sz) dX11_tick_74 hw.1 ⟨Nat.le_of_ble_eq_true rfl, Nat.le_of_ble_eq_true rfl⟩ rfl hl.1 (Nat.le_of_ble_eq_true rfl) rfl (fun κ30 H locs cells slots hw hH => ?_)
                refine lv_aload_n hx hb dX11_tick_77 rfl (lv_at hl 2 rfl) ?_
                refine cw_cVv (b := h) (As := []) (rest := []) hF hH hA hE mv_X11_123 ci_X11 (by decide) (fun sz => c_X11_settle l D t G _ h  _ hw.2 sz) dX11_tick_78 hw.1 ⟨Nat.le_of_ble_eq_true rfl, Nat.le_of_ble_eq_true rfl⟩ rfl hl.1 (Nat.le_of_ble_eq_true rfl) rfl (fun κ32 H locs cells slots hw hH => ?_)
                have hl : lv_has ls 4 [(2, .int x10), (0, .ref h)] := lv_sub hl [1, 2] rfl
                exact jn25 () κ32 ls _ _ _ _ hl hw hH
      · have hl : lv_has ls 4 [] := lv_sub hl [] rfl
        exact jn5 () κ ls _ _ _ _ hl hw hH
set_option maxRecDepth 100000 in
def F_Jx4a65c_clear_da8c8 (G : GE) (h : Nat) (post : CS → Prop) (κ : CS) : Prop := (h ∈ sL κ.1 ∧ sK κ.1 h = 7) ∧ ∀ z1 : Int32, z1 = sI κ.1 h 0 → ∀ z2 : Int32, z2 = z1 + 1 → (h ∈ sL κ.1 ∧ sK κ.1 h = 7) ∧ ∀ κ3 : CS, κ3 = (h_uI κ.1 h 0 z2, κ.2) → (h ∈ sL κ3.1 ∧ sK κ3.1 h = 7) ∧ ∀ z4 : Option Nat, z4 = sP κ3.1 h 1 → (h ∈ sL κ3.1 ∧ sK κ3.1 h = 7) ∧ ∀ z5 : Int32, z5 = sI κ3.1 h 2 → (h ∈ sL κ3.1 ∧ sK κ3.1 h = 7) ∧ ∀ κ6 : CS, κ6 = (h_uI κ3.1 h 2 0, κ3.2) → lc (fun (K9 : Int32 → CS → Prop) (x7 : Int32) (κ8 : CS) => ((z5.toInt ≤ x7.toInt) → post κ8) ∧ ((x7.toInt < z5.toInt) → ∃ b : Nat, z4 = some b ∧ (b ∈ sL κ8.1 ∧ 24 ≤ sK κ8.1 b ∧ sK κ8.1 b < 28) ∧ (0 ≤ x7.toInt ∧ x7.toInt < (sN κ8.1 b : Int)) ∧ ((none : Option Nat) = none ∨ ∃ e : Nat, (none : Option Nat) = some e ∧ e ∈ sL κ8.1 ∧ stOk (sK κ8.1 b) (sK κ8.1 e) = true) ∧ ∀ κ11 : CS, κ11 = (h_uP κ8.1 b x7.toInt.toNat (none : Option Nat), κ8.2) → ∀ z12 : Int32, z12 = x7 + 1 → K9 z12 κ11)) 0 κ6
theorem dJx4a65c_clear_da8c8_0 : decode cJx4a65c_clear_da8c8 0 = .ok (.aload_n 0, 1) := by decide +kernel
theorem dJx4a65c_clear_da8c8_1 : decode cJx4a65c_clear_da8c8 1 = .ok (.dup, 1) := by decide +kernel
theorem dJx4a65c_clear_da8c8_2 : decode cJx4a65c_clear_da8c8 2 = .ok (.getfield 63, 3) := by decide +kernel
theorem dJx4a65c_clear_da8c8_5 : decode cJx4a65c_clear_da8c8 5 = .ok (.iconst 1, 1) := by decide +kernel
theorem dJx4a65c_clear_da8c8_6 : decode cJx4a65c_clear_da8c8 6 = .ok (.iadd, 1) := by decide +kernel
theorem dJx4a65c_clear_da8c8_7 : decode cJx4a65c_clear_da8c8 7 = .ok (.putfield 63, 3) := by decide +kernel
theorem dJx4a65c_clear_da8c8_10 : decode cJx4a65c_clear_da8c8 10 = .ok (.aload_n 0, 1) := by decide +kernel
theorem dJx4a65c_clear_da8c8_11 : decode cJx4a65c_clear_da8c8 11 = .ok (.getfield 9, 3) := by decide +kernel
theorem dJx4a65c_clear_da8c8_14 : decode cJx4a65c_clear_da8c8 14 = .ok (.astore_n 1, 1) := by decide +kernel
theorem dJx4a65c_clear_da8c8_15 : decode cJx4a65c_clear_da8c8 15 = .ok (.aload_n 0, 1) := by decide +kernel
theorem dJx4a65c_clear_da8c8_16 : decode cJx4a65c_clear_da8c8 16 = .ok (.getfield 48, 3) := by decide +kernel
theorem dJx4a65c_clear_da8c8_19 : decode cJx4a65c_clear_da8c8 19 = .ok (.istore_n 2, 1) := by decide +kernel
theorem dJx4a65c_clear_da8c8_20 : decode cJx4a65c_clear_da8c8 20 = .ok (.aload_n 0, 1) := by decide +kernel
theorem dJx4a65c_clear_da8c8_21 : decode cJx4a65c_clear_da8c8 21 = .ok (.iconst 0, 1) := by decide +kernel
theorem dJx4a65c_clear_da8c8_22 : decode cJx4a65c_clear_da8c8 22 = .ok (.dup_x1, 1) := by decide +kernel
theorem dJx4a65c_clear_da8c8_23 : decode cJx4a65c_clear_da8c8 23 = .ok (.putfield 48, 3) := by decide +kernel
theorem dJx4a65c_clear_da8c8_26 : decode cJx4a65c_clear_da8c8 26 = .ok (.istore_n 3, 1) := by decide +kernel
theorem dJx4a65c_clear_da8c8_27 : decode cJx4a65c_clear_da8c8 27 = .ok (.iload_n 3, 1) := by decide +kernel
theorem dJx4a65c_clear_da8c8_28 : decode cJx4a65c_clear_da8c8 28 = .ok (.iload_n 2, 1) := by decide +kernel
theorem dJx4a65c_clear_da8c8_29 : decode cJx4a65c_clear_da8c8 29 = .ok (.if_icmp .ge 13, 3) := by decide +kernel
theorem dJx4a65c_clear_da8c8_32 : decode cJx4a65c_clear_da8c8 32 = .ok (.aload_n 1, 1) := by decide +kernel
theorem dJx4a65c_clear_da8c8_33 : decode cJx4a65c_clear_da8c8 33 = .ok (.iload_n 3, 1) := by decide +kernel
theorem dJx4a65c_clear_da8c8_34 : decode cJx4a65c_clear_da8c8 34 = .ok (.aconst_null, 1) := by decide +kernel
theorem dJx4a65c_clear_da8c8_35 : decode cJx4a65c_clear_da8c8 35 = .ok (.aastore, 1) := by decide +kernel
theorem dJx4a65c_clear_da8c8_36 : decode cJx4a65c_clear_da8c8 36 = .ok (.iinc 3 1, 3) := by decide +kernel
theorem dJx4a65c_clear_da8c8_39 : decode cJx4a65c_clear_da8c8 39 = .ok (.goto (-12), 3) := by decide +kernel
theorem dJx4a65c_clear_da8c8_42 : decode cJx4a65c_clear_da8c8 42 = .ok (.return_, 1) := by decide +kernel
set_option maxRecDepth 100000 in
set_option maxHeartbeats 4000000 in
theorem c_Jx4a65c_clear_da8c8 (l : Launch) (D : va_G) (t : Nat → ClassId) (G : GE) (κ : CS) (h : Nat) (post : CS → Prop) (hw : F_Jx4a65c_clear_da8c8 G h post κ) (sz : Nat) : CMv l D t yJx4a65c_clear_da8c8 cJx4a65c_clear_da8c8 4 0 14 G κ sz [.ref h] post := by
  refine c_go (by decide) (Nat.le_of_ble_eq_true rfl) ?_
  intro p e s m below meth c ls A hF hr hlk hin hAe hH hA hE hl
  unfold cB
  rw [hAe]
  clear hAe
  have hF : FX p m c cJx4a65c_clear_da8c8 4 s _ RJx4a65c D t := hF
  have hx := hF.1.1
  have hb := hF.1.2.1
  have hl : lv_has ls 4 [(0, .ref h)] := hl
  unfold F_Jx4a65c_clear_da8c8 at hw
  refine lv_aload_n hx hb dJx4a65c_clear_da8c8_0 rfl (lv_at hl 0 rfl) ?_
  refine lv_dup hx hb dJx4a65c_clear_da8c8_1 rfl ?_
  refine cw_getM (a := h) hF hH (wc_8 36 rfl) (wc_9 2 rfl) dJx4a65c_clear_da8c8_2 hw (fun z1 hw => ?_)
  refine lv_iconst (v := 1) hx hb dJx4a65c_clear_da8c8_5 (by decide) ?_
  refine lv_iadd hx hb dJx4a65c_clear_da8c8_6 ?_
  refine w_nmi hw (fun z2 hw => ?_)
  refine cw_putM (a := h) hF hH (wc_8 36 rfl) (wc_9 2 rfl) dJx4a65c_clear_da8c8_7 hw (fun κ3 H locs cells slots hw hH => ?_)
  refine lv_aload_n hx hb dJx4a65c_clear_da8c8_10 rfl (lv_at hl 0 rfl) ?_
  refine cw_getPr (a := h) hF hH fk_Jx4a65c_9 dJx4a65c_clear_da8c8_11 hw (fun z4 hw => ?_)
  refine w_astoreq_n (lv' := [(1, va_rf z4), (0, .ref h)]) hF dJx4a65c_clear_da8c8_14 rfl hl (by decide) rfl (fun ls hl => ?_)
  refine lv_aload_n hx hb dJx4a65c_clear_da8c8_15 rfl (lv_at hl 1 rfl) ?_
  refine cw_getIr (a := h) hF hH fk_Jx4a65c_48 dJx4a65c_clear_da8c8_16 hw (fun z5 hw => ?_)
  refine lv_istore_n (lv' := [(2, .int z5), (1, va_rf z4), (0, .ref h)]) hx hb dJx4a65c_clear_da8c8_19 rfl hl (by decide) (by generalize z4 = y; cases y <;> rfl) (fun ls hl => ?_)
  refine lv_aload_n hx hb dJx4a65c_clear_da8c8_20 rfl (lv_at hl 2 rfl) ?_
  refine lv_iconst (v := 0) hx hb dJx4a65c_clear_da8c8_21 (by decide) ?_
  refine lv_dup_x1 hx hb dJx4a65c_clear_da8c8_22 rfl rfl ?_
  refine cw_putIr (a := h) (v := 0) hF hH fk_Jx4a65c_48 dJx4a65c_clear_da8c8_23 rfl rfl rfl hw (fun κ6 H locs cells slots hw hH => ?_)
  refine lv_istore_n (lv' := [(3, .int 0), (2, .int z5), (1, va_rf z4), (0, .ref h)]) hx hb dJx4a65c_clear_da8c8_26 rfl hl (by decide) rfl (fun ls hl => ?_)
  have hl : lv_has ls 4 [(3, .int 0), (2, .int z5), (1, va_rf z4)] := lv_sub hl [0, 1, 2] rfl
  refine cw_loop (β := Int32) (fun x7 => [(3, .int x7), (2, .int z5), (1, va_rf z4)]) 0 hl hw hH (fun K9 x7 κ8 ls H locs cells slots hl hw hH ih10 => ?_)
  have hl : lv_has ls 4 [(3, .int x7), (2, .int z5), (1, va_rf z4)] := hl
  refine lv_iload_n hx hb dJx4a65c_clear_da8c8_27 rfl (lv_at hl 0 rfl) ?_
  refine lv_iload_n hx hb dJx4a65c_clear_da8c8_28 rfl (lv_at hl 1 rfl) ?_
  refine w_icmp_ge (tgt := 42) hF dJx4a65c_clear_da8c8_29 rfl hw (fun hw => ?_) (fun hw => ?_)
  · exact cw_retv hF hH ⟨rfl, rfl⟩ hr hlk dJx4a65c_clear_da8c8_42 hw
  · refine w_aloadq_n hF dJx4a65c_clear_da8c8_32 rfl (lv_at hl 2 rfl) ?_
    refine lv_iload_n hx hb dJx4a65c_clear_da8c8_33 rfl (lv_at hl 0 rfl) ?_
    refine cw_null dJx4a65c_clear_da8c8_34 hF ?_
    refine cw_aast (q := z4) (v := (none : Option Nat)) hF hH dJx4a65c_clear_da8c8_35 hw (fun κ11 H locs cells slots hw hH => ?_)
    obtain ⟨z12, ez12⟩ : ∃ z : Int32, z = x7 + 1 := ⟨_, rfl⟩
    have hw := hw z12 ez12
    refine lv_iinc (lv' := [(3, .int z12), (2, .int z5), (1, va_rf z4)]) (k := 0) (v := z12) hx hb dJx4a65c_clear_da8c8_36 hl rfl ez12.symm (by decide) rfl (fun ls hl => ?_)
    refine lv_goto (tgt := 27) hx hb dJx4a65c_clear_da8c8_39 rfl ?_
    exact ih10 z12 κ11 ls _ _ _ _ hl hw hH
set_option maxRecDepth 100000 in
def F_J7_fill_d0a16 (G : GE) (a0 : Option Nat) (a1 : Int64) (post : CS → Prop) (κ : CS) : Prop := ∃ n : Nat, AL G κ a0 n ∧ ∀ z1 : Int32, z1 = nI n → lc (fun (K4 : Int32 → CS → Prop) (x2 : Int32) (κ3 : CS) => ((z1.toInt ≤ x2.toInt) → post κ3) ∧ ((x2.toInt < z1.toInt) → ∃ b : Nat, a0 = some b ∧ (b ∈ sL κ3.1 ∧ sK κ3.1 b = 22) ∧ (0 ≤ x2.toInt ∧ x2.toInt < (sN κ3.1 b : Int)) ∧ ∀ κ6 : CS, κ6 = (h_uJ κ3.1 b x2.toInt.toNat a1, κ3.2) → ∀ z7 : Int32, z7 = x2 + 1 → K4 z7 κ6)) 0 κ
theorem dJ7_fill_d0a16_0 : decode cJ7_fill_d0a16 0 = .ok (.iconst 0, 1) := by decide +kernel
theorem dJ7_fill_d0a16_1 : decode cJ7_fill_d0a16 1 = .ok (.istore_n 3, 1) := by decide +kernel
theorem dJ7_fill_d0a16_2 : decode cJ7_fill_d0a16 2 = .ok (.aload_n 0, 1) := by decide +kernel
theorem dJ7_fill_d0a16_3 : decode cJ7_fill_d0a16 3 = .ok (.arraylength, 1) := by decide +kernel
theorem dJ7_fill_d0a16_4 : decode cJ7_fill_d0a16 4 = .ok (.istore 4, 2) := by decide +kernel
theorem dJ7_fill_d0a16_6 : decode cJ7_fill_d0a16 6 = .ok (.iload_n 3, 1) := by decide +kernel
theorem dJ7_fill_d0a16_7 : decode cJ7_fill_d0a16 7 = .ok (.iload 4, 2) := by decide +kernel
theorem dJ7_fill_d0a16_9 : decode cJ7_fill_d0a16 9 = .ok (.if_icmp .ge 13, 3) := by decide +kernel
theorem dJ7_fill_d0a16_12 : decode cJ7_fill_d0a16 12 = .ok (.aload_n 0, 1) := by decide +kernel
theorem dJ7_fill_d0a16_13 : decode cJ7_fill_d0a16 13 = .ok (.iload_n 3, 1) := by decide +kernel
theorem dJ7_fill_d0a16_14 : decode cJ7_fill_d0a16 14 = .ok (.lload_n 1, 1) := by decide +kernel
theorem dJ7_fill_d0a16_15 : decode cJ7_fill_d0a16 15 = .ok (.lastore, 1) := by decide +kernel
theorem dJ7_fill_d0a16_16 : decode cJ7_fill_d0a16 16 = .ok (.iinc 3 1, 3) := by decide +kernel
theorem dJ7_fill_d0a16_19 : decode cJ7_fill_d0a16 19 = .ok (.goto (-13), 3) := by decide +kernel
theorem dJ7_fill_d0a16_22 : decode cJ7_fill_d0a16 22 = .ok (.return_, 1) := by decide +kernel
set_option maxRecDepth 100000 in
set_option maxHeartbeats 4000000 in
theorem c_J7_fill_d0a16 (l : Launch) (D : va_G) (t : Nat → ClassId) (G : GE) (κ : CS) (a0 : Option Nat) (a1 : Int64) (post : CS → Prop) (hw : F_J7_fill_d0a16 G a0 a1 post κ) (sz : Nat) : CMv l D t yJ7_fill_d0a16 cJ7_fill_d0a16 5 0 14 G κ sz [va_rf a0, .long a1] post := by
  refine c_go (by decide) (by cases a0 <;> exact Nat.le_of_ble_eq_true rfl) ?_
  intro p e s m below meth c ls A hF hr hlk hin hAe hH hA hE hl
  unfold cB
  rw [hAe]
  clear hAe
  have hF : FX p m c cJ7_fill_d0a16 5 s _ RJ7 D t := hF
  have hx := hF.1.1
  have hb := hF.1.2.1
  have hl : lv_has ls 5 [(0, va_rf a0), (1, .long a1)] := (by have h2 := hl; clear hw; revert h2; cases a0 <;> exact id)
  unfold F_J7_fill_d0a16 at hw
  refine lv_iconst (v := 0) hx hb dJ7_fill_d0a16_0 (by decide) ?_
  refine lv_istore_n (lv' := [(3, .int 0), (0, va_rf a0), (1, .long a1)]) hx hb dJ7_fill_d0a16_1 rfl hl (by decide) rfl (fun ls hl => ?_)
  refine w_aloadq_n hF dJ7_fill_d0a16_2 rfl (lv_at hl 1 rfl) ?_
  refine cw_alen (q := a0) hF hH hE dJ7_fill_d0a16_3 hw (fun z1 hw => ?_)
  refine lv_istore (lv' := [(4, .int z1), (3, .int 0), (0, va_rf a0), (1, .long a1)]) hx hb dJ7_fill_d0a16_4 hl (by decide) rfl (fun ls hl => ?_)
  have hl : lv_has ls 5 [(4, .int z1), (3, .int 0), (1, .long a1), (0, va_rf a0)] := lv_sub hl [0, 1, 3, 2] rfl
  refine cw_loop (β := Int32) (fun x2 => [(4, .int z1), (3, .int x2), (1, .long a1), (0, va_rf a0)]) 0 hl hw hH (fun K4 x2 κ3 ls H locs cells slots hl hw hH ih5 => ?_)
  have hl : lv_has ls 5 [(4, .int z1), (3, .int x2), (1, .long a1), (0, va_rf a0)] := hl
  refine lv_iload_n hx hb dJ7_fill_d0a16_6 rfl (lv_at hl 1 rfl) ?_
  refine lv_iload hx hb dJ7_fill_d0a16_7 (lv_at hl 0 rfl) ?_
  refine w_icmp_ge (tgt := 22) hF dJ7_fill_d0a16_9 rfl hw (fun hw => ?_) (fun hw => ?_)
  · exact cw_retv hF hH ⟨rfl, rfl⟩ hr hlk dJ7_fill_d0a16_22 hw
  · refine w_aloadq_n hF dJ7_fill_d0a16_12 rfl (lv_at hl 3 rfl) ?_
    refine lv_iload_n hx hb dJ7_fill_d0a16_13 rfl (lv_at hl 1 rfl) ?_
    refine lv_lload_n hx hb dJ7_fill_d0a16_14 rfl (lv_at hl 2 rfl) ?_
    refine cw_last (q := a0) hF hH dJ7_fill_d0a16_15 hw (fun κ6 H locs cells slots hw hH => ?_)
    obtain ⟨z7, ez7⟩ : ∃ z : Int32, z = x2 + 1 := ⟨_, rfl⟩
    have hw := hw z7 ez7
    refine lv_iinc (lv' := [(3, .int z7), (4, .int z1), (1, .long a1), (0, va_rf a0)]) (k := 1) (v := z7) hx hb dJ7_fill_d0a16_16 hl rfl ez7.symm (by decide) rfl (fun ls hl => ?_)
    refine lv_goto (tgt := 6) hx hb dJ7_fill_d0a16_19 rfl ?_
    have hl : lv_has ls 5 [(4, .int z1), (3, .int z7), (1, .long a1), (0, va_rf a0)] := lv_sub hl [1, 0, 2, 3] rfl
    exact ih5 z7 κ6 ls _ _ _ _ hl hw hH
set_option maxRecDepth 100000 in
def F_X11_crash (G : GE) (h : Nat) (a1 : Int32) (post : Int32 → CS → Prop) (κ : CS) : Prop := jc (fun (K3 : Unit → CS → Prop) => ((a1.toInt < 0) → K3 () κ) ∧ ((0 ≤ a1.toInt) → (h ∈ sL κ.1 ∧ sK κ.1 h = 1) ∧ ∀ z6 : Int32, z6 = sI κ.1 h 6 → ((a1.toInt ≤ z6.toInt) → (h ∈ sL κ.1 ∧ sK κ.1 h = 1) ∧ ∀ z7 : Int32, z7 = sI κ.1 h 6 → (h ∈ sL κ.1 ∧ sK κ.1 h = 1) ∧ ∀ κ8 : CS, κ8 = (h_uI κ.1 h 6 a1, κ.2) → (h ∈ sL κ8.1 ∧ sK κ8.1 h = 1) ∧ F_X11_comeToDisk G h  (fun (κ9 : CS) => (h ∈ sL κ9.1 ∧ sK κ9.1 h = 1) ∧ ∀ z11 : Option Nat, z11 = sP κ9.1 h 3 → (h ∈ sL κ9.1 ∧ sK κ9.1 h = 1) ∧ ∀ z12 : Option Nat, z12 = sP κ9.1 h 4 → ∃ b : Nat, z11 = some b ∧ (b ∈ sL κ9.1 ∧ sK κ9.1 b = 6) ∧ F_X9_copyFrom G b z12 (fun (κ13 : CS) => lc (fun (K17 : Int32 → CS → Prop) (x15 : Int32) (κ16 : CS) => (h ∈ sL κ16.1 ∧ sK κ16.1 h = 1) ∧ ∀ z19 : Option Nat, z19 = sP κ16.1 h 1 → ∃ n : Nat, AL G κ16 z19 n ∧ ∀ z20 : Int32, z20 = nI n → ((z20.toInt ≤ x15.toInt) → (h ∈ sL κ16.1 ∧ sK κ16.1 h = 1) ∧ ∀ z21 : Option Nat, z21 = sP κ16.1 h 8 → ∃ b : Nat, z21 = some b ∧ (b ∈ sL κ16.1 ∧ sK κ16.1 b = 7) ∧ F_Jx4a65c_clear_da8c8 G b  (fun (κ22 : CS) => (h ∈ sL κ22.1 ∧ sK κ22.1 h = 1) ∧ ∀ z24 : Option Nat, z24 = sP κ22.1 h 9 → ∃ b : Nat, z24 = some b ∧ (b ∈ sL κ22.1 ∧ sK κ22.1 b = 7) ∧ F_Jx4a65c_clear_da8c8 G b  (fun (κ25 : CS) => (h ∈ sL κ25.1 ∧ sK κ25.1 h = 1) ∧ ∀ z27 : Option Nat, z27 = sP κ25.1 h 10 → ∃ b : Nat, z27 = some b ∧ (b ∈ sL κ25.1 ∧ sK κ25.1 b = 7) ∧ F_Jx4a65c_clear_da8c8 G b  (fun (κ28 : CS) => (h ∈ sL κ28.1 ∧ sK κ28.1 h = 1) ∧ ∀ z30 : Option Nat, z30 = sP κ28.1 h 11 → ∃ b : Nat, z30 = some b ∧ (b ∈ sL κ28.1 ∧ sK κ28.1 b = 7) ∧ F_Jx4a65c_clear_da8c8 G b  (fun (κ31 : CS) => (h ∈ sL κ31.1 ∧ sK κ31.1 h = 1) ∧ ∀ z33 : Option Nat, z33 = sP κ31.1 h 12 → ∃ b : Nat, z33 = some b ∧ (b ∈ sL κ31.1 ∧ sK κ31.1 b = 7) ∧ F_Jx4a65c_clear_da8c8 G b  (fun (κ34 : CS) => (h ∈ sL κ34.1 ∧ sK κ34.1 h = 1) ∧ ∀ z36 : Option Nat, z36 = sP κ34.1 h 13 → F_J7_fill_d0a16 G z36 0 (fun (κ37 : CS) => post z7 κ37) κ34) κ31) κ28) κ25) κ22) κ16) ∧ ((x15.toInt < z20.toInt) → (h ∈ sL κ16.1 ∧ sK κ16.1 h = 1) ∧ ∀ z39 : Option Nat, z39 = sP κ16.1 h 1 → ∃ b : Nat, z39 = some b ∧ (b ∈ sL κ16.1 ∧ 24 ≤ sK κ16.1 b ∧ sK κ16.1 b < 28) ∧ (0 ≤ x15.toInt ∧ x15.toInt < (sN κ16.1 b : Int)) ∧ ∀ z40 : Option Nat, z40 = sP κ16.1 b x15.toInt.toNat → ∃ b : Nat, z40 = some b ∧ (b ∈ sL κ16.1 ∧ sK κ16.1 b = 3) ∧ F_X2_vanish G b  (fun (κ41 : CS) => ∀ z43 : Int32, z43 = x15 + 1 → K17 z43 κ41) κ16)) 0 κ13) κ9) κ8) ∧ ((z6.toInt < a1.toInt) → K3 () κ))) (fun (x1 : Unit) (κ2 : CS) => post (-1) κ2)
theorem dX11_crash_0 : decode cX11_crash 0 = .ok (.iload_n 1, 1) := by decide +kernel
theorem dX11_crash_1 : decode cX11_crash 1 = .ok (.ifCond .lt 11, 3) := by decide +kernel
theorem dX11_crash_4 : decode cX11_crash 4 = .ok (.iload_n 1, 1) := by decide +kernel
theorem dX11_crash_5 : decode cX11_crash 5 = .ok (.aload_n 0, 1) := by decide +kernel
theorem dX11_crash_6 : decode cX11_crash 6 = .ok (.getfield 182, 3) := by decide +kernel
theorem dX11_crash_9 : decode cX11_crash 9 = .ok (.if_icmp .le 5, 3) := by decide +kernel
theorem dX11_crash_12 : decode cX11_crash 12 = .ok (.iconst (-1), 1) := by decide +kernel
theorem dX11_crash_13 : decode cX11_crash 13 = .ok (.ireturn, 1) := by decide +kernel
theorem dX11_crash_14 : decode cX11_crash 14 = .ok (.aload_n 0, 1) := by decide +kernel
theorem dX11_crash_15 : decode cX11_crash 15 = .ok (.getfield 182, 3) := by decide +kernel
theorem dX11_crash_18 : decode cX11_crash 18 = .ok (.istore_n 2, 1) := by decide +kernel
theorem dX11_crash_19 : decode cX11_crash 19 = .ok (.aload_n 0, 1) := by decide +kernel
theorem dX11_crash_20 : decode cX11_crash 20 = .ok (.iload_n 1, 1) := by decide +kernel
theorem dX11_crash_21 : decode cX11_crash 21 = .ok (.putfield 182, 3) := by decide +kernel
theorem dX11_crash_24 : decode cX11_crash 24 = .ok (.aload_n 0, 1) := by decide +kernel
theorem dX11_crash_25 : decode cX11_crash 25 = .ok (.invokevirtual 185, 3) := by decide +kernel
theorem dX11_crash_28 : decode cX11_crash 28 = .ok (.aload_n 0, 1) := by decide +kernel
theorem dX11_crash_29 : decode cX11_crash 29 = .ok (.getfield 29, 3) := by decide +kernel
theorem dX11_crash_32 : decode cX11_crash 32 = .ok (.aload_n 0, 1) := by decide +kernel
theorem dX11_crash_33 : decode cX11_crash 33 = .ok (.getfield 33, 3) := by decide +kernel
theorem dX11_crash_36 : decode cX11_crash 36 = .ok (.invokevirtual 188, 3) := by decide +kernel
theorem dX11_crash_39 : decode cX11_crash 39 = .ok (.iconst 0, 1) := by decide +kernel
theorem dX11_crash_40 : decode cX11_crash 40 = .ok (.istore_n 3, 1) := by decide +kernel
theorem dX11_crash_41 : decode cX11_crash 41 = .ok (.iload_n 3, 1) := by decide +kernel
theorem dX11_crash_42 : decode cX11_crash 42 = .ok (.aload_n 0, 1) := by decide +kernel
theorem dX11_crash_43 : decode cX11_crash 43 = .ok (.getfield 18, 3) := by decide +kernel
theorem dX11_crash_46 : decode cX11_crash 46 = .ok (.arraylength, 1) := by decide +kernel
theorem dX11_crash_47 : decode cX11_crash 47 = .ok (.if_icmp .ge 18, 3) := by decide +kernel
theorem dX11_crash_50 : decode cX11_crash 50 = .ok (.aload_n 0, 1) := by decide +kernel
theorem dX11_crash_51 : decode cX11_crash 51 = .ok (.getfield 18, 3) := by decide +kernel
theorem dX11_crash_54 : decode cX11_crash 54 = .ok (.iload_n 3, 1) := by decide +kernel
theorem dX11_crash_55 : decode cX11_crash 55 = .ok (.aaload, 1) := by decide +kernel
theorem dX11_crash_56 : decode cX11_crash 56 = .ok (.invokevirtual 192, 3) := by decide +kernel
theorem dX11_crash_59 : decode cX11_crash 59 = .ok (.iinc 3 1, 3) := by decide +kernel
theorem dX11_crash_62 : decode cX11_crash 62 = .ok (.goto (-21), 3) := by decide +kernel
theorem dX11_crash_65 : decode cX11_crash 65 = .ok (.aload_n 0, 1) := by decide +kernel
theorem dX11_crash_66 : decode cX11_crash 66 = .ok (.getfield 45, 3) := by decide +kernel
theorem dX11_crash_69 : decode cX11_crash 69 = .ok (.invokevirtual 195, 3) := by decide +kernel
theorem dX11_crash_72 : decode cX11_crash 72 = .ok (.aload_n 0, 1) := by decide +kernel
theorem dX11_crash_73 : decode cX11_crash 73 = .ok (.getfield 49, 3) := by decide +kernel
theorem dX11_crash_76 : decode cX11_crash 76 = .ok (.invokevirtual 195, 3) := by decide +kernel
theorem dX11_crash_79 : decode cX11_crash 79 = .ok (.aload_n 0, 1) := by decide +kernel
theorem dX11_crash_80 : decode cX11_crash 80 = .ok (.getfield 52, 3) := by decide +kernel
theorem dX11_crash_83 : decode cX11_crash 83 = .ok (.invokevirtual 195, 3) := by decide +kernel
theorem dX11_crash_86 : decode cX11_crash 86 = .ok (.aload_n 0, 1) := by decide +kernel
theorem dX11_crash_87 : decode cX11_crash 87 = .ok (.getfield 55, 3) := by decide +kernel
theorem dX11_crash_90 : decode cX11_crash 90 = .ok (.invokevirtual 195, 3) := by decide +kernel
theorem dX11_crash_93 : decode cX11_crash 93 = .ok (.aload_n 0, 1) := by decide +kernel
theorem dX11_crash_94 : decode cX11_crash 94 = .ok (.getfield 58, 3) := by decide +kernel
theorem dX11_crash_97 : decode cX11_crash 97 = .ok (.invokevirtual 195, 3) := by decide +kernel
theorem dX11_crash_100 : decode cX11_crash 100 = .ok (.aload_n 0, 1) := by decide +kernel
theorem dX11_crash_101 : decode cX11_crash 101 = .ok (.getfield 61, 3) := by decide +kernel
theorem dX11_crash_104 : decode cX11_crash 104 = .ok (.lconst 0, 1) := by decide +kernel
theorem dX11_crash_105 : decode cX11_crash 105 = .ok (.invokestatic 198, 3) := by decide +kernel
theorem dX11_crash_108 : decode cX11_crash 108 = .ok (.iload_n 2, 1) := by decide +kernel
theorem dX11_crash_109 : decode cX11_crash 109 = .ok (.ireturn, 1) := by decide +kernel
set_option maxRecDepth 100000 in
set_option maxHeartbeats 4000000 in
theorem c_X11_crash (l : Launch) (D : va_G) (t : Nat → ClassId) (G : GE) (κ : CS) (h : Nat) (a1 : Int32) (post : Int32 → CS → Prop) (hw : F_X11_crash G h a1 post κ) (sz : Nat) : CMi l D t yX11_crash cX11_crash 4 (some .int) 4 107 G κ sz [.ref h, .int a1] post := by
  refine c_go (by decide) (Nat.le_of_ble_eq_true rfl) ?_
  intro p e s m below meth c ls A hF hr hlk hin hAe hH hA hE hl
  unfold cB
  rw [hAe]
  clear hAe
  have hF : FX p m c cX11_crash 4 s _ RX11 D t := hF
  have hx := hF.1.1
  have hb := hF.1.2.1
  have hl : lv_has ls 4 [(0, .ref h), (1, .int a1)] := hl
  unfold F_X11_crash at hw
  refine lv_iload_n hx hb dX11_crash_0 rfl (lv_at hl 1 rfl) ?_
  obtain ⟨K3, hK4, hw⟩ := jc_open hw
  refine cw_join (K := K3) 12 (fun (x1 : Unit) => []) (fun (x1 : Unit) => []) hl hH (fun x1 κ2 ls H locs cells slots hl hw hH => ?_) (fun jn5 => ?_)
  · have hw := hK4 x1 κ2 hw
    have hl : lv_has ls 4 [] := hl
    refine lv_iconst (v := (-1)) hx hb dX11_crash_12 (by decide) ?_
    exact cw_reti hF hH ⟨rfl, rfl⟩ hr rfl hlk dX11_crash_13 hw
  · skip
    refine w_if_lt (tgt := 12) hF dX11_crash_1 rfl hw (fun hw => ?_) (fun hw => ?_)
    · have hl : lv_has ls 4 [] := lv_sub hl [] rfl
      exact jn5 () κ ls _ _ _ _ hl hw hH
    · refine lv_iload_n hx hb dX11_crash_4 rfl (lv_at hl 1 rfl) ?_
      refine lv_aload_n hx hb dX11_crash_5 rfl (lv_at hl 0 rfl) ?_
      refine cw_getIr (a := h) hF hH fk_X11_182 dX11_crash_6 hw (fun z6 hw => ?_)
      refine w_icmp_le (tgt := 14) hF dX11_crash_9 rfl hw (fun hw => ?_) (fun hw => ?_)
      · refine lv_aload_n hx hb dX11_crash_14 rfl (lv_at hl 0 rfl) ?_
        refine cw_getIr (a := h) hF hH fk_X11_182 dX11_crash_15 hw (fun z7 hw => ?_)
        refine lv_istore_n (lv' := [(2, .int z7), (0, .ref h), (1, .int a1)]) hx hb dX11_crash_18 rfl hl (by decide) rfl (fun ls hl => ?_)
        refine lv_aload_n hx hb dX11_crash_19 rfl (lv_at hl 1 rfl) ?_
        refine lv_iload_n hx hb dX11_crash_20 rfl (lv_at hl 2 rfl) ?_
        refine cw_putIr (a := h) (v := a1) hF hH fk_X11_182 dX11_crash_21 rfl rfl rfl hw (fun κ8 H locs cells slots hw hH => ?_)
        refine lv_aload_n hx hb dX11_crash_24 rfl (lv_at hl 1 rfl) ?_
        refine cw_cVv (b := h) (As := []) (rest := []) hF hH hA hE mv_X11_185 ci_X11 (by decide) (fun sz => c_X11_comeToDisk l D t G _ h  _ hw.2 sz) dX11_crash_25 hw.1 ⟨Nat.le_of_ble_eq_true rfl, Nat.le_of_ble_eq_true rfl⟩ rfl hl.1 (Nat.le_of_ble_eq_true rfl) rfl (fun κ9 H locs cells slots hw hH => ?_)
        refine lv_aload_n hx hb dX11_crash_28 rfl (lv_at hl 1 rfl) ?_
        refine cw_getPr (a := h) hF hH fk_X11_29 dX11_crash_29 hw (fun z11 hw => ?_)
        refine lv_aload_n hx hb dX11_crash_32 rfl (lv_at hl 1 rfl) ?_
        refine cw_getPr (a := h) hF hH fk_X11_33 dX11_crash_33 hw (fun z12 hw => ?_)
        refine cw_cVvq (q := z11) (As := [va_rf z12]) (rest := []) hF hH hA hE mv_X11_188 ci_X9 (by decide) hw (fun b hw sz => c_X9_copyFrom l D t G _ b z12 _ hw sz) dX11_crash_36 ⟨Nat.le_of_ble_eq_true rfl, Nat.le_of_ble_eq_true rfl⟩ rfl hl.1 (Nat.le_of_ble_eq_true rfl) rfl (fun κ13 H locs cells slots hw hH => ?_)
        refine lv_iconst (v := 0) hx hb dX11_crash_39 (by decide) ?_
        refine lv_istore_n (lv' := [(3, .int 0), (2, .int z7), (0, .ref h), (1, .int a1)]) hx hb dX11_crash_40 rfl hl (by decide) rfl (fun ls hl => ?_)
        have hl : lv_has ls 4 [(3, .int 0), (2, .int z7), (0, .ref h)] := lv_sub hl [0, 1, 2] rfl
        refine cw_loop (β := Int32) (fun x15 => [(3, .int x15), (2, .int z7), (0, .ref h)]) 0 hl hw hH (fun K17 x15 κ16 ls H locs cells slots hl hw hH ih18 => ?_)
        have hl : lv_has ls 4 [(3, .int x15), (2, .int z7), (0, .ref h)] := hl
        refine lv_iload_n hx hb dX11_crash_41 rfl (lv_at hl 0 rfl) ?_
        refine lv_aload_n hx hb dX11_crash_42 rfl (lv_at hl 2 rfl) ?_
        refine cw_getPr (a := h) hF hH fk_X11_18 dX11_crash_43 hw (fun z19 hw => ?_)
        refine cw_alen (q := z19) hF hH hE dX11_crash_46 hw (fun z20 hw => ?_)
        refine w_icmp_ge (tgt := 65) hF dX11_crash_47 rfl hw (fun hw => ?_) (fun hw => ?_)
        · refine lv_aload_n hx hb dX11_crash_65 rfl (lv_at hl 2 rfl) ?_
          refine cw_getPr (a := h) hF hH fk_X11_45 dX11_crash_66 hw (fun z21 hw => ?_)
          refine cw_cVvq (q := z21) (As := []) (rest := []) hF hH hA hE mv_X11_195 ci_Jx4a65c (by decide) hw (fun b hw sz => c_Jx4a65c_clear_da8c8 l D t G _ b  _ hw sz) dX11_crash_69 ⟨Nat.le_of_ble_eq_true rfl, Nat.le_of_ble_eq_true rfl⟩ rfl hl.1 (Nat.le_of_ble_eq_true rfl) rfl (fun κ22 H locs cells slots hw hH => ?_)
          refine lv_aload_n hx hb dX11_crash_72 rfl (lv_at hl 2 rfl) ?_
          refine cw_getPr (a := h) hF hH fk_X11_49 dX11_crash_73 hw (fun z24 hw => ?_)
          refine cw_cVvq (q := z24) (As := []) (rest := []) hF hH hA hE mv_X11_195 ci_Jx4a65c (by decide) hw (fun b hw sz => c_Jx4a65c_clear_da8c8 l D t G _ b  _ hw sz) dX11_crash_76 ⟨Nat.le_of_ble_eq_true rfl, Nat.le_of_ble_eq_true rfl⟩ rfl hl.1 (Nat.le_of_ble_eq_true rfl) rfl (fun κ25 H locs cells slots hw hH => ?_)
          refine lv_aload_n hx hb dX11_crash_79 rfl (lv_at hl 2 rfl) ?_
          refine cw_getPr (a := h) hF hH fk_X11_52 dX11_crash_80 hw (fun z27 hw => ?_)
          refine cw_cVvq (q := z27) (As := []) (rest := []) hF hH hA hE mv_X11_195 ci_Jx4a65c (by decide) hw (fun b hw sz => c_Jx4a65c_clear_da8c8 l D t G _ b  _ hw sz) dX11_crash_83 ⟨Nat.le_of_ble_eq_true rfl, Nat.le_of_ble_eq_true rfl⟩ rfl hl.1 (Nat.le_of_ble_eq_true rfl) rfl (fun κ28 H locs cells slots hw hH => ?_)
          refine lv_aload_n hx hb dX11_crash_86 rfl (lv_at hl 2 rfl) ?_
          refine cw_getPr (a := h) hF hH fk_X11_55 dX11_crash_87 hw (fun z30 hw => ?_)
          refine cw_cVvq (q := z30) (As := []) (rest := []) hF hH hA hE mv_X11_195 ci_Jx4a65c (by decide) hw (fun b hw sz => c_Jx4a65c_clear_da8c8 l D t G _ b  _ hw sz) dX11_crash_90 ⟨Nat.le_of_ble_eq_true rfl, Nat.le_of_ble_eq_true rfl⟩ rfl hl.1 (Nat.le_of_ble_eq_true rfl) rfl (fun κ31 H locs cells slots hw hH => ?_)
          refine lv_aload_n hx hb dX11_crash_93 rfl (lv_at hl 2 rfl) ?_
          refine cw_getPr (a := h) hF hH fk_X11_58 dX11_crash_94 hw (fun z33 hw => ?_)
          refine cw_cVvq (q := z33) (As := []) (rest := []) hF hH hA hE mv_X11_195 ci_Jx4a65c (by decide) hw (fun b hw sz => c_Jx4a65c_clear_da8c8 l D t G _ b  _ hw sz) dX11_crash_97 ⟨Nat.le_of_ble_eq_true rfl, Nat.le_of_ble_eq_true rfl⟩ rfl hl.1 (Nat.le_of_ble_eq_true rfl) rfl (fun κ34 H locs cells slots hw hH => ?_)
          refine lv_aload_n hx hb dX11_crash_100 rfl (lv_at hl 2 rfl) ?_
          refine cw_getPr (a := h) hF hH fk_X11_61 dX11_crash_101 hw (fun z36 hw => ?_)
          refine lv_lconst (v := 0) hx hb dX11_crash_104 (by decide) ?_
          refine cw_cSv (As := [va_rf z36, .long 0]) (rest := []) hF hH hA hE ms_X11_198 (fun sz => c_J7_fill_d0a16 l D t G _ z36 0 _ hw sz) dX11_crash_105 ⟨Nat.le_of_ble_eq_true rfl, Nat.le_of_ble_eq_true rfl⟩ rfl hl.1 (Nat.le_of_ble_eq_true rfl) rfl (fun κ37 H locs cells slots hw hH => ?_)
          refine lv_iload_n hx hb dX11_crash_108 rfl (lv_at hl 1 rfl) ?_
          exact cw_reti hF hH ⟨rfl, rfl⟩ hr rfl hlk dX11_crash_109 hw
        · refine lv_aload_n hx hb dX11_crash_50 rfl (lv_at hl 2 rfl) ?_
          refine cw_getPr (a := h) hF hH fk_X11_18 dX11_crash_51 hw (fun z39 hw => ?_)
          refine lv_iload_n hx hb dX11_crash_54 rfl (lv_at hl 0 rfl) ?_
          refine cw_aald (q := z39) hF hH dX11_crash_55 hw (fun z40 hw => ?_)
          refine cw_cVvq (q := z40) (As := []) (rest := []) hF hH hA hE mv_X11_192 ci_X2 (by decide) hw (fun b hw sz => c_X2_vanish l D t G _ b  _ hw sz) dX11_crash_56 ⟨Nat.le_of_ble_eq_true rfl, Nat.le_of_ble_eq_true rfl⟩ rfl hl.1 (Nat.le_of_ble_eq_true rfl) rfl (fun κ41 H locs cells slots hw hH => ?_)
          obtain ⟨z43, ez43⟩ : ∃ z : Int32, z = x15 + 1 := ⟨_, rfl⟩
          have hw := hw z43 ez43
          refine lv_iinc (lv' := [(3, .int z43), (2, .int z7), (0, .ref h)]) (k := 0) (v := z43) hx hb dX11_crash_59 hl rfl ez43.symm (by decide) rfl (fun ls hl => ?_)
          refine lv_goto (tgt := 41) hx hb dX11_crash_62 rfl ?_
          exact ih18 z43 κ41 ls _ _ _ _ hl hw hH
      · have hl : lv_has ls 4 [] := lv_sub hl [] rfl
        exact jn5 () κ ls _ _ _ _ hl hw hH

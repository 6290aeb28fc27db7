/-! the class, lifted: 12 -/
set_option maxRecDepth 100000 in
def F_X11_infoSize (G : GE) (a0 : Int32) (a1 : Int32) (post : Int32 → CS → Prop) (κ : CS) : Prop := ((¬ a0.toInt = (2 : Int32).toInt) → ((a0.toInt = (1 : Int32).toInt) → ((a1.toInt = 4) → post 40 κ) ∧ ((a1.toInt = 5) → post 24 κ) ∧ ((a1.toInt = 18) → post 80 κ) ∧ ((¬ a1.toInt = 4 ∧ ¬ a1.toInt = 5 ∧ ¬ a1.toInt = 18) → post 0 κ)) ∧ ((¬ a0.toInt = (1 : Int32).toInt) → post 0 κ)) ∧ ((a0.toInt = (2 : Int32).toInt) → jc (fun (K3 : Int32 → CS → Prop) => ((¬ a1.toInt = (3 : Int32).toInt) → K3 0 κ) ∧ ((a1.toInt = (3 : Int32).toInt) → K3 24 κ)) (fun (x1 : Int32) (κ2 : CS) => post x1 κ2))
theorem dX11_infoSize_0 : decode cX11_infoSize 0 = .ok (.iload_n 0, 1) := by decide +kernel
theorem dX11_infoSize_1 : decode cX11_infoSize 1 = .ok (.iconst 2, 1) := by decide +kernel
theorem dX11_infoSize_2 : decode cX11_infoSize 2 = .ok (.if_icmp .ne 15, 3) := by decide +kernel
theorem dX11_infoSize_5 : decode cX11_infoSize 5 = .ok (.iload_n 1, 1) := by decide +kernel
theorem dX11_infoSize_6 : decode cX11_infoSize 6 = .ok (.iconst 3, 1) := by decide +kernel
theorem dX11_infoSize_7 : decode cX11_infoSize 7 = .ok (.if_icmp .ne 8, 3) := by decide +kernel
theorem dX11_infoSize_10 : decode cX11_infoSize 10 = .ok (.bipush 24, 2) := by decide +kernel
theorem dX11_infoSize_12 : decode cX11_infoSize 12 = .ok (.goto 4, 3) := by decide +kernel
theorem dX11_infoSize_15 : decode cX11_infoSize 15 = .ok (.iconst 0, 1) := by decide +kernel
theorem dX11_infoSize_16 : decode cX11_infoSize 16 = .ok (.ireturn, 1) := by decide +kernel
theorem dX11_infoSize_17 : decode cX11_infoSize 17 = .ok (.iload_n 0, 1) := by decide +kernel
theorem dX11_infoSize_18 : decode cX11_infoSize 18 = .ok (.iconst 1, 1) := by decide +kernel
theorem dX11_infoSize_19 : decode cX11_infoSize 19 = .ok (.if_icmp .eq 5, 3) := by decide +kernel
theorem dX11_infoSize_22 : decode cX11_infoSize 22 = .ok (.iconst 0, 1) := by decide +kernel
theorem dX11_infoSize_23 : decode cX11_infoSize 23 = .ok (.ireturn, 1) := by decide +kernel
theorem dX11_infoSize_24 : decode cX11_infoSize 24 = .ok (.iload_n 1, 1) := by decide +kernel
theorem dX11_infoSize_25 : decode cX11_infoSize 25 = .ok (.lookupswitch 44 #[(4, 35), (5, 38), (18, 41)], 35) := by decide +kernel
theorem dX11_infoSize_60 : decode cX11_infoSize 60 = .ok (.bipush 40, 2) := by decide +kernel
theorem dX11_infoSize_62 : decode cX11_infoSize 62 = .ok (.ireturn, 1) := by decide +kernel
theorem dX11_infoSize_63 : decode cX11_infoSize 63 = .ok (.bipush 24, 2) := by decide +kernel
theorem dX11_infoSize_65 : decode cX11_infoSize 65 = .ok (.ireturn, 1) := by decide +kernel
theorem dX11_infoSize_66 : decode cX11_infoSize 66 = .ok (.bipush 80, 2) := by decide +kernel
theorem dX11_infoSize_68 : decode cX11_infoSize 68 = .ok (.ireturn, 1) := by decide +kernel
theorem dX11_infoSize_69 : decode cX11_infoSize 69 = .ok (.iconst 0, 1) := by decide +kernel
theorem dX11_infoSize_70 : decode cX11_infoSize 70 = .ok (.ireturn, 1) := by decide +kernel
set_option maxRecDepth 100000 in
set_option maxHeartbeats 4000000 in
theorem c_X11_infoSize (l : Launch) (D : va_G) (t : Nat → ClassId) (G : GE) (κ : CS) (a0 : Int32) (a1 : Int32) (post : Int32 → CS → Prop) (hw : F_X11_infoSize G a0 a1 post κ) (sz : Nat) : CMi l D t yX11_infoSize cX11_infoSize 2 (some .int) 0 14 G κ sz [.int a0, .int a1] post := by
  refine c_go (by decide) (Nat.le_of_ble_eq_true rfl) ?_
  intro p e s m below meth c ls A hF hr hlk hin hAe hH hA hE hl
  unfold cB
  rw [hAe]
  clear hAe
  have hF : FX p m c cX11_infoSize 2 s _ RX11 D t := hF
  have hx := hF.1.1
  have hb := hF.1.2.1
  have hl : lv_has ls 2 [(0, .int a0), (1, .int a1)] := hl
  unfold F_X11_infoSize at hw
  refine lv_iload_n hx hb dX11_infoSize_0 rfl (lv_at hl 0 rfl) ?_
  refine lv_iconst (v := 2) hx hb dX11_infoSize_1 (by decide) ?_
  refine w_icmp_ne (tgt := 17) hF dX11_infoSize_2 rfl hw (fun hw => ?_) (fun hw => ?_)
  · refine lv_iload_n hx hb dX11_infoSize_17 rfl (lv_at hl 0 rfl) ?_
    refine lv_iconst (v := 1) hx hb dX11_infoSize_18 (by decide) ?_
    refine w_icmp_eq (tgt := 24) hF dX11_infoSize_19 rfl hw (fun hw => ?_) (fun hw => ?_)
    · refine lv_iload_n hx hb dX11_infoSize_24 rfl (lv_at hl 1 rfl) ?_
      by_cases z25_4 : a1.toInt = 4
      · have hw := hw.1 z25_4
        refine lv_lookup (off := 35) (tgt := 60) hx hb dX11_infoSize_25 (by decide) (by rw [z25_4]; rfl) rfl ?_
        refine lv_bipush (v := 40) hx hb dX11_infoSize_60 (by decide) ?_
        exact cw_reti hF hH ⟨rfl, rfl⟩ hr rfl hlk dX11_infoSize_62 hw
      by_cases z25_5 : a1.toInt = 5
      · have hw := hw.2.1 z25_5
        refine lv_lookup (off := 38) (tgt := 63) hx hb dX11_infoSize_25 (by decide) (by rw [z25_5]; rfl) rfl ?_
        refine lv_bipush (v := 24) hx hb dX11_infoSize_63 (by decide) ?_
        exact cw_reti hF hH ⟨rfl, rfl⟩ hr rfl hlk dX11_infoSize_65 hw
      by_cases z25_18 : a1.toInt = 18
      · have hw := hw.2.2.1 z25_18
        refine lv_lookup (off := 41) (tgt := 66) hx hb dX11_infoSize_25 (by decide) (by rw [z25_18]; rfl) rfl ?_
        refine lv_bipush (v := 80) hx hb dX11_infoSize_66 (by decide) ?_
        exact cw_reti hF hH ⟨rfl, rfl⟩ hr rfl hlk dX11_infoSize_68 hw
      have hw := hw.2.2.2 ⟨z25_4, z25_5, z25_18⟩
      refine lv_lookup (off := 44) (tgt := 69) hx hb dX11_infoSize_25 (by decide) (by simp only [Op.lookupswitch.offset]; rw [if_neg (fun q => z25_4 q.symm), if_neg (fun q => z25_5 q.symm), if_neg (fun q => z25_18 q.symm)]) rfl ?_
      refine lv_iconst (v := 0) hx hb dX11_infoSize_69 (by decide) ?_
      exact cw_reti hF hH ⟨rfl, rfl⟩ hr rfl hlk dX11_infoSize_70 hw
    · refine lv_iconst (v := 0) hx hb dX11_infoSize_22 (by decide) ?_
      exact cw_reti hF hH ⟨rfl, rfl⟩ hr rfl hlk dX11_infoSize_23 hw
  · refine lv_iload_n hx hb dX11_infoSize_5 rfl (lv_at hl 1 rfl) ?_
    refine lv_iconst (v := 3) hx hb dX11_infoSize_6 (by decide) ?_
    obtain ⟨K3, hK4, hw⟩ := jc_open hw
    refine cw_join (K := K3) 16 (fun (x1 : Int32) => []) (fun (x1 : Int32) => [.int x1]) hl hH (fun x1 κ2 ls H locs cells slots hl hw hH => ?_) (fun jn5 => ?_)
    · have hw := hK4 x1 κ2 hw
      have hl : lv_has ls 2 [] := hl
      exact cw_reti hF hH ⟨rfl, rfl⟩ hr rfl hlk dX11_infoSize_16 hw
    · skip
      refine w_icmp_ne (tgt := 15) hF dX11_infoSize_7 rfl hw (fun hw => ?_) (fun hw => ?_)
      · refine lv_iconst (v := 0) hx hb dX11_infoSize_15 (by decide) ?_
        have hl : lv_has ls 2 [] := lv_sub hl [] rfl
        exact jn5 0 κ ls _ _ _ _ hl hw hH
      · refine lv_bipush (v := 24) hx hb dX11_infoSize_10 (by decide) ?_
        refine lv_goto (tgt := 16) hx hb dX11_infoSize_12 rfl ?_
        have hl : lv_has ls 2 [] := lv_sub hl [] rfl
        exact jn5 24 κ ls _ _ _ _ hl hw hH
set_option maxRecDepth 100000 in
def F_X11_queryInfo (G : GE) (h : Nat) (a1 : Option Nat) (a2 : Option Nat) (post : Int32 → CS → Prop) (κ : CS) : Prop := ∃ b : Nat, a1 = some b ∧ (b ∈ sL κ.1 ∧ sK κ.1 b = 8) ∧ F_X0_number G b 66 1 (fun (z2 : Int64) (κ1 : CS) => ∀ z3 : Int32, z3 = (z2 : Int64).toInt32 → ∃ b : Nat, a1 = some b ∧ (b ∈ sL κ1.1 ∧ sK κ1.1 b = 8) ∧ F_X0_number G b 67 1 (fun (z5 : Int64) (κ4 : CS) => ∀ z6 : Int32, z6 = (z5 : Int64).toInt32 → F_X11_infoSize G z3 z6 (fun (z8 : Int32) (κ7 : CS) => ((¬ z8.toInt = 0) → jc (fun (K11 : Unit → CS → Prop) => ((¬ z3.toInt = (1 : Int32).toInt) → K11 () κ7) ∧ ((z3.toInt = (1 : Int32).toInt) → ∃ b : Nat, a2 = some b ∧ (b ∈ sL κ7.1 ∧ sK κ7.1 b = 10) ∧ ∀ z93 : Int32, z93 = sI κ7.1 b 3 → ∀ z94 : Int32, z94 = z93 &&& 128 → ((¬ z94.toInt = 0) → K11 () κ7) ∧ ((z94.toInt = 0) → post (-1073741790) κ7))) (fun (x9 : Unit) (κ10 : CS) => ∃ b : Nat, a1 = some b ∧ (b ∈ sL κ10.1 ∧ sK κ10.1 b = 8) ∧ F_X0_number G b 68 4 (fun (z15 : Int64) (κ14 : CS) => ∀ z16 : Int64, z16 = (z8 : Int32).toInt64 → ((z16.toInt ≤ z15.toInt) → (h ∈ sL κ14.1 ∧ sK κ14.1 h = 1) ∧ ∀ z17 : Option Nat, z17 = sP κ14.1 h 15 → ∀ z18 : Int32, z18 = 72 + z8 → ∃ b : Nat, z17 = some b ∧ (b ∈ sL κ14.1 ∧ sK κ14.1 b = 2) ∧ F_X6_begin G b z18 (fun (κ19 : CS) => (h ∈ sL κ19.1 ∧ sK κ19.1 h = 1) ∧ ∀ z21 : Option Nat, z21 = sP κ19.1 h 15 → ∃ b : Nat, z21 = some b ∧ (b ∈ sL κ19.1 ∧ sK κ19.1 b = 2) ∧ F_X6_put G b 64 2 9 (fun (κ22 : CS) => (h ∈ sL κ22.1 ∧ sK κ22.1 h = 1) ∧ ∀ z24 : Option Nat, z24 = sP κ22.1 h 15 → ∃ b : Nat, z24 = some b ∧ (b ∈ sL κ22.1 ∧ sK κ22.1 b = 2) ∧ F_X6_put G b 66 2 72 (fun (κ25 : CS) => (h ∈ sL κ25.1 ∧ sK κ25.1 h = 1) ∧ ∀ z27 : Option Nat, z27 = sP κ25.1 h 15 → ∀ z28 : Int64, z28 = (z8 : Int32).toInt64 → ∃ b : Nat, z27 = some b ∧ (b ∈ sL κ25.1 ∧ sK κ25.1 b = 2) ∧ F_X6_put G b 68 4 z28 (fun (κ29 : CS) => ((¬ z3.toInt = (2 : Int32).toInt) → jc (fun (K33 : Unit → CS → Prop) => ((z8.toInt = (24 : Int32).toInt) → K33 () κ29) ∧ ((¬ z8.toInt = (24 : Int32).toInt) → ∃ b : Nat, a2 = some b ∧ (b ∈ sL κ29.1 ∧ sK κ29.1 b = 10) ∧ ∀ z66 : Option Nat, z66 = sP κ29.1 b 2 → (h ∈ sL κ29.1 ∧ sK κ29.1 h = 1) ∧ ∀ z67 : Option Nat, z67 = sP κ29.1 h 15 → ∃ b : Nat, z66 = some b ∧ (b ∈ sL κ29.1 ∧ sK κ29.1 b = 5) ∧ F_X4_tellTimes G b z67 72 (fun (κ68 : CS) => (h ∈ sL κ68.1 ∧ sK κ68.1 h = 1) ∧ ∀ z70 : Option Nat, z70 = sP κ68.1 h 15 → ∃ b : Nat, a2 = some b ∧ (b ∈ sL κ68.1 ∧ sK κ68.1 b = 10) ∧ ∀ z71 : Option Nat, z71 = sP κ68.1 b 2 → ∃ b : Nat, z71 = some b ∧ (b ∈ sL κ68.1 ∧ sK κ68.1 b = 5) ∧ F_X4_toldAttributes G b  (fun (z73 : Int32) (κ72 : CS) => ∀ z74 : Int64, z74 = (z73 : Int32).toInt64 → ∃ b : Nat, z70 = some b ∧ (b ∈ sL κ72.1 ∧ sK κ72.1 b = 2) ∧ F_X6_put G b 104 4 z74 (fun (κ75 : CS) => K33 () κ75) κ72) κ68) κ29)) (fun (x31 : Unit) (κ32 : CS) => jc (fun (K38 : Unit → CS → Prop) => ((z8.toInt = (40 : Int32).toInt) → K38 () κ32) ∧ ((¬ z8.toInt = (40 : Int32).toInt) → ∃ b : Nat, a2 = some b ∧ (b ∈ sL κ32.1 ∧ sK κ32.1 b = 10) ∧ ∀ z57 : Option Nat, z57 = sP κ32.1 b 2 → (h ∈ sL κ32.1 ∧ sK κ32.1 h = 1) ∧ ∀ z58 : Option Nat, z58 = sP κ32.1 h 15 → jc (fun (K61 : Int32 → CS → Prop) => ((¬ z8.toInt = (24 : Int32).toInt) → K61 112 κ32) ∧ ((z8.toInt = (24 : Int32).toInt) → K61 72 κ32)) (fun (x59 : Int32) (κ60 : CS) => ∃ b : Nat, z57 = some b ∧ (b ∈ sL κ60.1 ∧ sK κ60.1 b = 5) ∧ F_X4_tellStanding G b z58 x59 (fun (κ64 : CS) => K38 () κ64) κ60))) (fun (x36 : Unit) (κ37 : CS) => jc (fun (K43 : Unit → CS → Prop) => ((¬ z8.toInt = (80 : Int32).toInt) → K43 () κ37) ∧ ((z8.toInt = (80 : Int32).toInt) → (h ∈ sL κ37.1 ∧ sK κ37.1 h = 1) ∧ ∀ z46 : Option Nat, z46 = sP κ37.1 h 15 → ∃ b : Nat, a2 = some b ∧ (b ∈ sL κ37.1 ∧ sK κ37.1 b = 10) ∧ ∀ z47 : Option Nat, z47 = sP κ37.1 b 2 → ∃ b : Nat, z47 = some b ∧ (b ∈ sL κ37.1 ∧ sK κ37.1 b = 5) ∧ ∀ z48 : Int32, z48 = sI κ37.1 b 0 → ∀ z49 : Int64, z49 = (z48 : Int32).toInt64 → ∃ b : Nat, z46 = some b ∧ (b ∈ sL κ37.1 ∧ sK κ37.1 b = 2) ∧ F_X6_put G b 136 8 z49 (fun (κ50 : CS) => (h ∈ sL κ50.1 ∧ sK κ50.1 h = 1) ∧ ∀ z52 : Option Nat, z52 = sP κ50.1 h 15 → ∃ b : Nat, a2 = some b ∧ (b ∈ sL κ50.1 ∧ sK κ50.1 b = 10) ∧ ∀ z53 : Int32, z53 = sI κ50.1 b 3 → ∀ z54 : Int64, z54 = (z53 : Int32).toInt64 → ∃ b : Nat, z52 = some b ∧ (b ∈ sL κ50.1 ∧ sK κ50.1 b = 2) ∧ F_X6_put G b 148 4 z54 (fun (κ55 : CS) => K43 () κ55) κ50) κ37)) (fun (x41 : Unit) (κ42 : CS) => post 0 κ42)))) ∧ ((z3.toInt = (2 : Int32).toInt) → (h ∈ sL κ29.1 ∧ sK κ29.1 h = 1) ∧ ∀ z77 : Option Nat, z77 = sP κ29.1 h 15 → ∃ b : Nat, z77 = some b ∧ (b ∈ sL κ29.1 ∧ sK κ29.1 b = 2) ∧ F_X6_put G b 72 8 80 (fun (κ78 : CS) => (h ∈ sL κ78.1 ∧ sK κ78.1 h = 1) ∧ ∀ z80 : Option Nat, z80 = sP κ78.1 h 15 → (h ∈ sL κ78.1 ∧ sK κ78.1 h = 1) ∧ ∀ z81 : Option Nat, z81 = sP κ78.1 h 3 → ∃ b : Nat, z81 = some b ∧ (b ∈ sL κ78.1 ∧ sK κ78.1 b = 6) ∧ ∀ z82 : Int32, z82 = sI κ78.1 b 1 → ∀ z83 : Int32, z83 = 80 - z82 → ∀ z84 : Int64, z84 = (z83 : Int32).toInt64 → ∃ b : Nat, z80 = some b ∧ (b ∈ sL κ78.1 ∧ sK κ78.1 b = 2) ∧ F_X6_put G b 80 8 z84 (fun (κ85 : CS) => (h ∈ sL κ85.1 ∧ sK κ85.1 h = 1) ∧ ∀ z87 : Option Nat, z87 = sP κ85.1 h 15 → ∃ b : Nat, z87 = some b ∧ (b ∈ sL κ85.1 ∧ sK κ85.1 b = 2) ∧ F_X6_put G b 88 4 1 (fun (κ88 : CS) => (h ∈ sL κ88.1 ∧ sK κ88.1 h = 1) ∧ ∀ z90 : Option Nat, z90 = sP κ88.1 h 15 → ∃ b : Nat, z90 = some b ∧ (b ∈ sL κ88.1 ∧ sK κ88.1 b = 2) ∧ F_X6_put G b 92 4 512 (fun (κ91 : CS) => post 0 κ91) κ88) κ85) κ78) κ29)) κ25) κ22) κ19) κ14) ∧ ((z15.toInt < z16.toInt) → post (-1073741820) κ14)) κ10)) ∧ ((z8.toInt = 0) → post (-1073741821) κ7)) κ4) κ1) κ
theorem dX11_queryInfo_0 : decode cX11_queryInfo 0 = .ok (.aload_n 1, 1) := by decide +kernel
theorem dX11_queryInfo_1 : decode cX11_queryInfo 1 = .ok (.bipush 66, 2) := by decide +kernel
theorem dX11_queryInfo_3 : decode cX11_queryInfo 3 = .ok (.iconst 1, 1) := by decide +kernel
theorem dX11_queryInfo_4 : decode cX11_queryInfo 4 = .ok (.invokevirtual 394, 3) := by decide +kernel
theorem dX11_queryInfo_7 : decode cX11_queryInfo 7 = .ok (.l2i, 1) := by decide +kernel
theorem dX11_queryInfo_8 : decode cX11_queryInfo 8 = .ok (.istore_n 3, 1) := by decide +kernel
theorem dX11_queryInfo_9 : decode cX11_queryInfo 9 = .ok (.iload_n 3, 1) := by decide +kernel
theorem dX11_queryInfo_10 : decode cX11_queryInfo 10 = .ok (.aload_n 1, 1) := by decide +kernel
theorem dX11_queryInfo_11 : decode cX11_queryInfo 11 = .ok (.bipush 67, 2) := by decide +kernel
theorem dX11_queryInfo_13 : decode cX11_queryInfo 13 = .ok (.iconst 1, 1) := by decide +kernel
theorem dX11_queryInfo_14 : decode cX11_queryInfo 14 = .ok (.invokevirtual 394, 3) := by decide +kernel
theorem dX11_queryInfo_17 : decode cX11_queryInfo 17 = .ok (.l2i, 1) := by decide +kernel
theorem dX11_queryInfo_18 : decode cX11_queryInfo 18 = .ok (.invokestatic 923, 3) := by decide +kernel
theorem dX11_queryInfo_21 : decode cX11_queryInfo 21 = .ok (.istore 4, 2) := by decide +kernel
theorem dX11_queryInfo_23 : decode cX11_queryInfo 23 = .ok (.iload 4, 2) := by decide +kernel
theorem dX11_queryInfo_25 : decode cX11_queryInfo 25 = .ok (.ifCond .ne 7, 3) := by decide +kernel
theorem dX11_queryInfo_28 : decode cX11_queryInfo 28 = .ok (.ldc_w 865, 3) := by decide +kernel
theorem dX11_queryInfo_31 : decode cX11_queryInfo 31 = .ok (.ireturn, 1) := by decide +kernel
theorem dX11_queryInfo_32 : decode cX11_queryInfo 32 = .ok (.iload_n 3, 1) := by decide +kernel
theorem dX11_queryInfo_33 : decode cX11_queryInfo 33 = .ok (.iconst 1, 1) := by decide +kernel
theorem dX11_queryInfo_34 : decode cX11_queryInfo 34 = .ok (.if_icmp .ne 18, 3) := by decide +kernel
theorem dX11_queryInfo_37 : decode cX11_queryInfo 37 = .ok (.aload_n 2, 1) := by decide +kernel
theorem dX11_queryInfo_38 : decode cX11_queryInfo 38 = .ok (.getfield 765, 3) := by decide +kernel
theorem dX11_queryInfo_41 : decode cX11_queryInfo 41 = .ok (.sipush 128, 3) := by decide +kernel
theorem dX11_queryInfo_44 : decode cX11_queryInfo 44 = .ok (.iand, 1) := by decide +kernel
theorem dX11_queryInfo_45 : decode cX11_queryInfo 45 = .ok (.ifCond .ne 7, 3) := by decide +kernel
theorem dX11_queryInfo_48 : decode cX11_queryInfo 48 = .ok (.ldc_w 658, 3) := by decide +kernel
theorem dX11_queryInfo_51 : decode cX11_queryInfo 51 = .ok (.ireturn, 1) := by decide +kernel
theorem dX11_queryInfo_52 : decode cX11_queryInfo 52 = .ok (.aload_n 1, 1) := by decide +kernel
theorem dX11_queryInfo_53 : decode cX11_queryInfo 53 = .ok (.bipush 68, 2) := by decide +kernel
theorem dX11_queryInfo_55 : decode cX11_queryInfo 55 = .ok (.iconst 4, 1) := by decide +kernel
theorem dX11_queryInfo_56 : decode cX11_queryInfo 56 = .ok (.invokevirtual 394, 3) := by decide +kernel
theorem dX11_queryInfo_59 : decode cX11_queryInfo 59 = .ok (.iload 4, 2) := by decide +kernel
theorem dX11_queryInfo_61 : decode cX11_queryInfo 61 = .ok (.i2l, 1) := by decide +kernel
theorem dX11_queryInfo_62 : decode cX11_queryInfo 62 = .ok (.lcmp, 1) := by decide +kernel
theorem dX11_queryInfo_63 : decode cX11_queryInfo 63 = .ok (.ifCond .ge 7, 3) := by decide +kernel
theorem dX11_queryInfo_66 : decode cX11_queryInfo 66 = .ok (.ldc_w 889, 3) := by decide +kernel
theorem dX11_queryInfo_69 : decode cX11_queryInfo 69 = .ok (.ireturn, 1) := by decide +kernel
theorem dX11_queryInfo_70 : decode cX11_queryInfo 70 = .ok (.aload_n 0, 1) := by decide +kernel
theorem dX11_queryInfo_71 : decode cX11_queryInfo 71 = .ok (.getfield 68, 3) := by decide +kernel
theorem dX11_queryInfo_74 : decode cX11_queryInfo 74 = .ok (.bipush 72, 2) := by decide +kernel
theorem dX11_queryInfo_76 : decode cX11_queryInfo 76 = .ok (.iload 4, 2) := by decide +kernel
theorem dX11_queryInfo_78 : decode cX11_queryInfo 78 = .ok (.iadd, 1) := by decide +kernel
theorem dX11_queryInfo_79 : decode cX11_queryInfo 79 = .ok (.invokevirtual 262, 3) := by decide +kernel
theorem dX11_queryInfo_82 : decode cX11_queryInfo 82 = .ok (.aload_n 0, 1) := by decide +kernel
theorem dX11_queryInfo_83 : decode cX11_queryInfo 83 = .ok (.getfield 68, 3) := by decide +kernel
theorem dX11_queryInfo_86 : decode cX11_queryInfo 86 = .ok (.bipush 64, 2) := by decide +kernel
theorem dX11_queryInfo_88 : decode cX11_queryInfo 88 = .ok (.iconst 2, 1) := by decide +kernel
theorem dX11_queryInfo_89 : decode cX11_queryInfo 89 = .ok (.ldc2_w 347, 3) := by decide +kernel
theorem dX11_queryInfo_92 : decode cX11_queryInfo 92 = .ok (.invokevirtual 349, 3) := by decide +kernel
theorem dX11_queryInfo_95 : decode cX11_queryInfo 95 = .ok (.aload_n 0, 1) := by decide +kernel
theorem dX11_queryInfo_96 : decode cX11_queryInfo 96 = .ok (.getfield 68, 3) := by decide +kernel
theorem dX11_queryInfo_99 : decode cX11_queryInfo 99 = .ok (.bipush 66, 2) := by decide +kernel
theorem dX11_queryInfo_101 : decode cX11_queryInfo 101 = .ok (.iconst 2, 1) := by decide +kernel
theorem dX11_queryInfo_102 : decode cX11_queryInfo 102 = .ok (.ldc2_w 614, 3) := by decide +kernel
theorem dX11_queryInfo_105 : decode cX11_queryInfo 105 = .ok (.invokevirtual 349, 3) := by decide +kernel
theorem dX11_queryInfo_108 : decode cX11_queryInfo 108 = .ok (.aload_n 0, 1) := by decide +kernel
theorem dX11_queryInfo_109 : decode cX11_queryInfo 109 = .ok (.getfield 68, 3) := by decide +kernel
theorem dX11_queryInfo_112 : decode cX11_queryInfo 112 = .ok (.bipush 68, 2) := by decide +kernel
theorem dX11_queryInfo_114 : decode cX11_queryInfo 114 = .ok (.iconst 4, 1) := by decide +kernel
theorem dX11_queryInfo_115 : decode cX11_queryInfo 115 = .ok (.iload 4, 2) := by decide +kernel
theorem dX11_queryInfo_117 : decode cX11_queryInfo 117 = .ok (.i2l, 1) := by decide +kernel
theorem dX11_queryInfo_118 : decode cX11_queryInfo 118 = .ok (.invokevirtual 349, 3) := by decide +kernel
theorem dX11_queryInfo_121 : decode cX11_queryInfo 121 = .ok (.iload_n 3, 1) := by decide +kernel
theorem dX11_queryInfo_122 : decode cX11_queryInfo 122 = .ok (.iconst 2, 1) := by decide +kernel
theorem dX11_queryInfo_123 : decode cX11_queryInfo 123 = .ok (.if_icmp .ne 65, 3) := by decide +kernel
theorem dX11_queryInfo_126 : decode cX11_queryInfo 126 = .ok (.aload_n 0, 1) := by decide +kernel
theorem dX11_queryInfo_127 : decode cX11_queryInfo 127 = .ok (.getfield 68, 3) := by decide +kernel
theorem dX11_queryInfo_130 : decode cX11_queryInfo 130 = .ok (.bipush 72, 2) := by decide +kernel
theorem dX11_queryInfo_132 : decode cX11_queryInfo 132 = .ok (.bipush 8, 2) := by decide +kernel
theorem dX11_queryInfo_134 : decode cX11_queryInfo 134 = .ok (.ldc2_w 803, 3) := by decide +kernel
theorem dX11_queryInfo_137 : decode cX11_queryInfo 137 = .ok (.invokevirtual 349, 3) := by decide +kernel
theorem dX11_queryInfo_140 : decode cX11_queryInfo 140 = .ok (.aload_n 0, 1) := by decide +kernel
theorem dX11_queryInfo_141 : decode cX11_queryInfo 141 = .ok (.getfield 68, 3) := by decide +kernel
theorem dX11_queryInfo_144 : decode cX11_queryInfo 144 = .ok (.bipush 80, 2) := by decide +kernel
theorem dX11_queryInfo_146 : decode cX11_queryInfo 146 = .ok (.bipush 8, 2) := by decide +kernel
theorem dX11_queryInfo_148 : decode cX11_queryInfo 148 = .ok (.bipush 80, 2) := by decide +kernel
theorem dX11_queryInfo_150 : decode cX11_queryInfo 150 = .ok (.aload_n 0, 1) := by decide +kernel
theorem dX11_queryInfo_151 : decode cX11_queryInfo 151 = .ok (.getfield 29, 3) := by decide +kernel
theorem dX11_queryInfo_154 : decode cX11_queryInfo 154 = .ok (.getfield 101, 3) := by decide +kernel
theorem dX11_queryInfo_157 : decode cX11_queryInfo 157 = .ok (.isub, 1) := by decide +kernel
theorem dX11_queryInfo_158 : decode cX11_queryInfo 158 = .ok (.i2l, 1) := by decide +kernel
theorem dX11_queryInfo_159 : decode cX11_queryInfo 159 = .ok (.invokevirtual 349, 3) := by decide +kernel
theorem dX11_queryInfo_162 : decode cX11_queryInfo 162 = .ok (.aload_n 0, 1) := by decide +kernel
theorem dX11_queryInfo_163 : decode cX11_queryInfo 163 = .ok (.getfield 68, 3) := by decide +kernel
theorem dX11_queryInfo_166 : decode cX11_queryInfo 166 = .ok (.bipush 88, 2) := by decide +kernel
theorem dX11_queryInfo_168 : decode cX11_queryInfo 168 = .ok (.iconst 4, 1) := by decide +kernel
theorem dX11_queryInfo_169 : decode cX11_queryInfo 169 = .ok (.lconst 1, 1) := by decide +kernel
theorem dX11_queryInfo_170 : decode cX11_queryInfo 170 = .ok (.invokevirtual 349, 3) := by decide +kernel
theorem dX11_queryInfo_173 : decode cX11_queryInfo 173 = .ok (.aload_n 0, 1) := by decide +kernel
theorem dX11_queryInfo_174 : decode cX11_queryInfo 174 = .ok (.getfield 68, 3) := by decide +kernel
theorem dX11_queryInfo_177 : decode cX11_queryInfo 177 = .ok (.bipush 92, 2) := by decide +kernel
theorem dX11_queryInfo_179 : decode cX11_queryInfo 179 = .ok (.iconst 4, 1) := by decide +kernel
theorem dX11_queryInfo_180 : decode cX11_queryInfo 180 = .ok (.ldc2_w 926, 3) := by decide +kernel
theorem dX11_queryInfo_183 : decode cX11_queryInfo 183 = .ok (.invokevirtual 349, 3) := by decide +kernel
theorem dX11_queryInfo_186 : decode cX11_queryInfo 186 = .ok (.iconst 0, 1) := by decide +kernel
theorem dX11_queryInfo_187 : decode cX11_queryInfo 187 = .ok (.ireturn, 1) := by decide +kernel
theorem dX11_queryInfo_188 : decode cX11_queryInfo 188 = .ok (.iload 4, 2) := by decide +kernel
theorem dX11_queryInfo_190 : decode cX11_queryInfo 190 = .ok (.bipush 24, 2) := by decide +kernel
theorem dX11_queryInfo_192 : decode cX11_queryInfo 192 = .ok (.if_icmp .eq 34, 3) := by decide +kernel
theorem dX11_queryInfo_195 : decode cX11_queryInfo 195 = .ok (.aload_n 2, 1) := by decide +kernel
theorem dX11_queryInfo_196 : decode cX11_queryInfo 196 = .ok (.getfield 564, 3) := by decide +kernel
theorem dX11_queryInfo_199 : decode cX11_queryInfo 199 = .ok (.aload_n 0, 1) := by decide +kernel
theorem dX11_queryInfo_200 : decode cX11_queryInfo 200 = .ok (.getfield 68, 3) := by decide +kernel
theorem dX11_queryInfo_203 : decode cX11_queryInfo 203 = .ok (.bipush 72, 2) := by decide +kernel
theorem dX11_queryInfo_205 : decode cX11_queryInfo 205 = .ok (.invokevirtual 913, 3) := by decide +kernel
theorem dX11_queryInfo_208 : decode cX11_queryInfo 208 = .ok (.aload_n 0, 1) := by decide +kernel
theorem dX11_queryInfo_209 : decode cX11_queryInfo 209 = .ok (.getfield 68, 3) := by decide +kernel
theorem dX11_queryInfo_212 : decode cX11_queryInfo 212 = .ok (.bipush 104, 2) := by decide +kernel
theorem dX11_queryInfo_214 : decode cX11_queryInfo 214 = .ok (.iconst 4, 1) := by decide +kernel
theorem dX11_queryInfo_215 : decode cX11_queryInfo 215 = .ok (.aload_n 2, 1) := by decide +kernel
theorem dX11_queryInfo_216 : decode cX11_queryInfo 216 = .ok (.getfield 564, 3) := by decide +kernel
theorem dX11_queryInfo_219 : decode cX11_queryInfo 219 = .ok (.invokevirtual 920, 3) := by decide +kernel
theorem dX11_queryInfo_222 : decode cX11_queryInfo 222 = .ok (.i2l, 1) := by decide +kernel
theorem dX11_queryInfo_223 : decode cX11_queryInfo 223 = .ok (.invokevirtual 349, 3) := by decide +kernel
theorem dX11_queryInfo_226 : decode cX11_queryInfo 226 = .ok (.iload 4, 2) := by decide +kernel
theorem dX11_queryInfo_228 : decode cX11_queryInfo 228 = .ok (.bipush 40, 2) := by decide +kernel
theorem dX11_queryInfo_230 : decode cX11_queryInfo 230 = .ok (.if_icmp .eq 28, 3) := by decide +kernel
theorem dX11_queryInfo_233 : decode cX11_queryInfo 233 = .ok (.aload_n 2, 1) := by decide +kernel
theorem dX11_queryInfo_234 : decode cX11_queryInfo 234 = .ok (.getfield 564, 3) := by decide +kernel
theorem dX11_queryInfo_237 : decode cX11_queryInfo 237 = .ok (.aload_n 0, 1) := by decide +kernel
theorem dX11_queryInfo_238 : decode cX11_queryInfo 238 = .ok (.getfield 68, 3) := by decide +kernel
theorem dX11_queryInfo_241 : decode cX11_queryInfo 241 = .ok (.iload 4, 2) := by decide +kernel
theorem dX11_queryInfo_243 : decode cX11_queryInfo 243 = .ok (.bipush 24, 2) := by decide +kernel
theorem dX11_queryInfo_245 : decode cX11_queryInfo 245 = .ok (.if_icmp .ne 8, 3) := by decide +kernel
theorem dX11_queryInfo_248 : decode cX11_queryInfo 248 = .ok (.bipush 72, 2) := by decide +kernel
theorem dX11_queryInfo_250 : decode cX11_queryInfo 250 = .ok (.goto 5, 3) := by decide +kernel
theorem dX11_queryInfo_253 : decode cX11_queryInfo 253 = .ok (.bipush 112, 2) := by decide +kernel
theorem dX11_queryInfo_255 : decode cX11_queryInfo 255 = .ok (.invokevirtual 928, 3) := by decide +kernel
theorem dX11_queryInfo_258 : decode cX11_queryInfo 258 = .ok (.iload 4, 2) := by decide +kernel
theorem dX11_queryInfo_260 : decode cX11_queryInfo 260 = .ok (.bipush 80, 2) := by decide +kernel
theorem dX11_queryInfo_262 : decode cX11_queryInfo 262 = .ok (.if_icmp .ne 39, 3) := by decide +kernel
theorem dX11_queryInfo_265 : decode cX11_queryInfo 265 = .ok (.aload_n 0, 1) := by decide +kernel
theorem dX11_queryInfo_266 : decode cX11_queryInfo 266 = .ok (.getfield 68, 3) := by decide +kernel
theorem dX11_queryInfo_269 : decode cX11_queryInfo 269 = .ok (.sipush 136, 3) := by decide +kernel
theorem dX11_queryInfo_272 : decode cX11_queryInfo 272 = .ok (.bipush 8, 2) := by decide +kernel
theorem dX11_queryInfo_274 : decode cX11_queryInfo 274 = .ok (.aload_n 2, 1) := by decide +kernel
theorem dX11_queryInfo_275 : decode cX11_queryInfo 275 = .ok (.getfield 564, 3) := by decide +kernel
theorem dX11_queryInfo_278 : decode cX11_queryInfo 278 = .ok (.getfield 248, 3) := by decide +kernel
theorem dX11_queryInfo_281 : decode cX11_queryInfo 281 = .ok (.i2l, 1) := by decide +kernel
theorem dX11_queryInfo_282 : decode cX11_queryInfo 282 = .ok (.invokevirtual 349, 3) := by decide +kernel
theorem dX11_queryInfo_285 : decode cX11_queryInfo 285 = .ok (.aload_n 0, 1) := by decide +kernel
theorem dX11_queryInfo_286 : decode cX11_queryInfo 286 = .ok (.getfield 68, 3) := by decide +kernel
theorem dX11_queryInfo_289 : decode cX11_queryInfo 289 = .ok (.sipush 148, 3) := by decide +kernel
theorem dX11_queryInfo_292 : decode cX11_queryInfo 292 = .ok (.iconst 4, 1) := by decide +kernel
theorem dX11_queryInfo_293 : decode cX11_queryInfo 293 = .ok (.aload_n 2, 1) := by decide +kernel
theorem dX11_queryInfo_294 : decode cX11_queryInfo 294 = .ok (.getfield 765, 3) := by decide +kernel
theorem dX11_queryInfo_297 : decode cX11_queryInfo 297 = .ok (.i2l, 1) := by decide +kernel
theorem dX11_queryInfo_298 : decode cX11_queryInfo 298 = .ok (.invokevirtual 349, 3) := by decide +kernel
theorem dX11_queryInfo_301 : decode cX11_queryInfo 301 = .ok (.iconst 0, 1) := by decide +kernel
theorem dX11_queryInfo_302 : decode cX11_queryInfo 302 = .ok (.ireturn, 1) := by decide +kernel
set_option maxRecDepth 100000 in
set_option maxHeartbeats 4000000 in
theorem c_X11_queryInfo (l : Launch) (D : va_G) (t : Nat → ClassId) (G : GE) (κ : CS) (h : Nat) (a1 : Option Nat) (a2 : Option Nat) (post : Int32 → CS → Prop) (hw : F_X11_queryInfo G h a1 a2 post κ) (sz : Nat) : CMi l D t yX11_queryInfo cX11_queryInfo 5 (some .int) 3 82 G κ sz [.ref h, va_rf a1, va_rf a2] post := by
  refine c_go (by decide) (by cases a1 <;> cases a2 <;> exact Nat.le_of_ble_eq_true rfl) ?_
  intro p e s m below meth c ls A hF hr hlk hin hAe hH hA hE hl
  unfold cB
  rw [hAe]
  clear hAe
  have hF : FX p m c cX11_queryInfo 5 s _ RX11 D t := hF
  have hx := hF.1.1
  have hb := hF.1.2.1
  have hl : lv_has ls 5 [(0, .ref h), (1, va_rf a1), (2, va_rf a2)] := (by have h2 := hl; clear hw; revert h2; cases a1 <;> cases a2 <;> exact id)
  unfold F_X11_queryInfo at hw
  refine w_aloadq_n hF dX11_queryInfo_0 rfl (lv_at hl 1 rfl) ?_
  refine lv_bipush (v := 66) hx hb dX11_queryInfo_1 (by decide) ?_
  refine lv_iconst (v := 1) hx hb dX11_queryInfo_3 (by decide) ?_
  refine cw_cVlq (q := a1) (As := [.int 66, .int 1]) (rest := []) hF hH hA hE mv_X11_394 ci_X0 (by decide) hw (fun b hw sz => c_X0_number l D t G _ b 66 1 _ hw sz) dX11_queryInfo_4 ⟨Nat.le_of_ble_eq_true rfl, Nat.le_of_ble_eq_true rfl⟩ rfl hl.1 (Nat.le_of_ble_eq_true rfl) rfl (fun z2 κ1 H locs cells slots hw hH => ?_)
  refine lv_l2i hx hb dX11_queryInfo_7 rfl ?_
  refine w_nmi hw (fun z3 hw => ?_)
  refine lv_istore_n (lv' := [(3, .int z3), (0, .ref h), (1, va_rf a1), (2, va_rf a2)]) hx hb dX11_queryInfo_8 rfl hl (by decide) (by generalize a2 = y; cases y <;> rfl) (fun ls hl => ?_)
  refine lv_iload_n hx hb dX11_queryInfo_9 rfl (lv_at hl 0 rfl) ?_
  refine w_aloadq_n hF dX11_queryInfo_10 rfl (lv_at hl 2 rfl) ?_
  refine lv_bipush (v := 67) hx hb dX11_queryInfo_11 (by decide) ?_
  refine lv_iconst (v := 1) hx hb dX11_queryInfo_13 (by decide) ?_
  refine cw_cVlq (q := a1) (As := [.int 67, .int 1]) (rest := [.int z3]) hF hH hA hE mv_X11_394 ci_X0 (by decide) hw (fun b hw sz => c_X0_number l D t G _ b 67 1 _ hw sz) dX11_queryInfo_14 ⟨Nat.le_of_ble_eq_true rfl, Nat.le_of_ble_eq_true rfl⟩ rfl hl.1 (Nat.le_of_ble_eq_true rfl) rfl (fun z5 κ4 H locs cells slots hw hH => ?_)
  refine lv_l2i hx hb dX11_queryInfo_17 rfl ?_
  refine w_nmi hw (fun z6 hw => ?_)
  refine cw_cSi (As := [.int z3, .int z6]) (rest := []) hF hH hA hE ms_X11_923 (fun sz => c_X11_infoSize l D t G _ z3 z6 _ hw sz) dX11_queryInfo_18 ⟨Nat.le_of_ble_eq_true rfl, Nat.le_of_ble_eq_true rfl⟩ rfl hl.1 (Nat.le_of_ble_eq_true rfl) rfl (fun z8 κ7 H locs cells slots hw hH => ?_)
  refine lv_istore (lv' := [(4, .int z8), (3, .int z3), (0, .ref h), (1, va_rf a1), (2, va_rf a2)]) hx hb dX11_queryInfo_21 hl (by decide) rfl (fun ls hl => ?_)
  refine lv_iload hx hb dX11_queryInfo_23 (lv_at hl 0 rfl) ?_
  refine w_if_ne (tgt := 32) hF dX11_queryInfo_25 rfl hw (fun hw => ?_) (fun hw => ?_)
  · refine lv_iload_n hx hb dX11_queryInfo_32 rfl (lv_at hl 1 rfl) ?_
    refine lv_iconst (v := 1) hx hb dX11_queryInfo_33 (by decide) ?_
    obtain ⟨K11, hK12, hw⟩ := jc_open hw
    refine cw_join (K := K11) 52 (fun (x9 : Unit) => [(4, .int z8), (3, .int z3), (2, va_rf a2), (1, va_rf a1), (0, .ref h)]) (fun (x9 : Unit) => []) hl hH (fun x9 κ10 ls H locs cells slots hl hw hH => ?_) (fun jn13 => ?_)
    · have hw := hK12 x9 κ10 hw
      have hl : lv_has ls 5 [(4, .int z8), (3, .int z3), (2, va_rf a2), (1, va_rf a1), (0, .ref h)] := hl
      refine w_aloadq_n hF dX11_queryInfo_52 rfl (lv_at hl 3 rfl) ?_
      refine lv_bipush (v := 68) hx hb dX11_queryInfo_53 (by decide) ?_
      refine lv_iconst (v := 4) hx hb dX11_queryInfo_55 (by decide) ?_
      refine cw_cVlq (q := a1) (As := [.int 68, .int 4]) (rest := []) hF hH hA hE mv_X11_394 ci_X0 (by decide) hw (fun b hw sz => c_X0_number l D t G _ b 68 4 _ hw sz) dX11_queryInfo_56 ⟨Nat.le_of_ble_eq_true rfl, Nat.le_of_ble_eq_true rfl⟩ rfl hl.1 (Nat.le_of_ble_eq_true rfl) rfl (fun z15 κ14 H locs cells slots hw hH => ?_)
      refine lv_iload hx hb dX11_queryInfo_59 (lv_at hl 0 rfl) ?_
      refine lv_i2l hx hb dX11_queryInfo_61 rfl ?_
      refine w_nml hw (fun z16 hw => ?_)
      refine w_lif_ge (tgt := 70) hF dX11_queryInfo_62 dX11_queryInfo_63 rfl hw (fun hw => ?_) (fun hw => ?_)
      · refine lv_aload_n hx hb dX11_queryInfo_70 rfl (lv_at hl 4 rfl) ?_
        refine cw_getPr (a := h) hF hH fk_X11_68 dX11_queryInfo_71 hw (fun z17 hw => ?_)
        refine lv_bipush (v := 72) hx hb dX11_queryInfo_74 (by decide) ?_
        refine lv_iload hx hb dX11_queryInfo_76 (lv_at hl 0 rfl) ?_
        refine lv_iadd hx hb dX11_queryInfo_78 ?_
        refine w_nmi hw (fun z18 hw => ?_)
        refine cw_cVvq (q := z17) (As := [.int z18]) (rest := []) hF hH hA hE mv_X11_262 ci_X6 (by decide) hw (fun b hw sz => c_X6_begin l D t G _ b z18 _ hw sz) dX11_queryInfo_79 ⟨Nat.le_of_ble_eq_true rfl, Nat.le_of_ble_eq_true rfl⟩ rfl hl.1 (Nat.le_of_ble_eq_true rfl) rfl (fun κ19 H locs cells slots hw hH => ?_)
        refine lv_aload_n hx hb dX11_queryInfo_82 rfl (lv_at hl 4 rfl) ?_
        refine cw_getPr (a := h) hF hH fk_X11_68 dX11_queryInfo_83 hw (fun z21 hw => ?_)
        refine lv_bipush (v := 64) hx hb dX11_queryInfo_86 (by decide) ?_
        refine lv_iconst (v := 2) hx hb dX11_queryInfo_88 (by decide) ?_
        refine lv_ldc2 (v := 9) hx hb hF.1.2.2.2.1 (hF.1.2.2.2.2 _ (wc_16 19 rfl)) dX11_queryInfo_89 ?_
        refine cw_cVvq (q := z21) (As := [.int 64, .int 2, .long 9]) (rest := []) hF hH hA hE mv_X11_349 ci_X6 (by decide) hw (fun b hw sz => c_X6_put l D t G _ b 64 2 9 _ hw sz) dX11_queryInfo_92 ⟨Nat.le_of_ble_eq_true rfl, Nat.le_of_ble_eq_true rfl⟩ rfl hl.1 (Nat.le_of_ble_eq_true rfl) rfl (fun κ22 H locs cells slots hw hH => ?_)
        refine lv_aload_n hx hb dX11_queryInfo_95 rfl (lv_at hl 4 rfl) ?_
        refine cw_getPr (a := h) hF hH fk_X11_68 dX11_queryInfo_96 hw (fun z24 hw => ?_)
        refine lv_bipush (v := 66) hx hb dX11_queryInfo_99 (by decide) ?_
        refine lv_iconst (v := 2) hx hb dX11_queryInfo_101 (by decide) ?_
        refine lv_ldc2 (v := 72) hx hb hF.1.2.2.2.1 (hF.1.2.2.2.2 _ (wc_31 13 rfl)) dX11_queryInfo_102 ?_
        refine cw_cVvq (q := z24) (As := [.int 66, .int 2, .long 72]) (rest := []) hF hH hA hE mv_X11_349 ci_X6 (by decide) hw (fun b hw sz => c_X6_put l D t G _ b 66 2 72 _ hw sz) dX11_queryInfo_105 ⟨Nat.le_of_ble_eq_true rfl, Nat.le_of_ble_eq_true rfl⟩ rfl hl.1 (Nat.le_of_ble_eq_true rfl) rfl (fun κ25 H locs cells slots hw hH => ?_)
        refine lv_aload_n hx hb dX11_queryInfo_108 rfl (lv_at hl 4 rfl) ?_
        refine cw_getPr (a := h) hF hH fk_X11_68 dX11_queryInfo_109 hw (fun z27 hw => ?_)
        refine lv_bipush (v := 68) hx hb dX11_queryInfo_112 (by decide) ?_
        refine lv_iconst (v := 4) hx hb dX11_queryInfo_114 (by decide) ?_
        refine lv_iload hx hb dX11_queryInfo_115 (lv_at hl 0 rfl) ?_
        refine lv_i2l hx hb dX11_queryInfo_117 rfl ?_
        refine w_nml hw (fun z28 hw => ?_)
        refine cw_cVvq (q := z27) (As := [.int 68, .int 4, .long z28]) (rest := []) hF hH hA hE mv_X11_349 ci_X6 (by decide) hw (fun b hw sz => c_X6_put l D t G _ b 68 4 z28 _ hw sz) dX11_queryInfo_118 ⟨Nat.le_of_ble_eq_true rfl, Nat.le_of_ble_eq_true rfl⟩ rfl hl.1 (Nat.le_of_ble_eq_true rfl) rfl (fun κ29 H locs cells slots hw hH => ?_)
        refine lv_iload_n hx hb dX11_queryInfo_121 rfl (lv_at hl 1 rfl) ?_
        refine lv_iconst (v := 2) hx hb dX11_queryInfo_122 (by decide) ?_
        refine w_icmp_ne (tgt := 188) hF dX11_queryInfo_123 rfl hw (fun hw => ?_) (fun hw => ?_)
        · refine lv_iload hx hb dX11_queryInfo_188 (lv_at hl 0 rfl) ?_
          refine lv_bipush (v := 24) hx hb dX11_queryInfo_190 (by decide) ?_
          obtain ⟨K33, hK34, hw⟩ := jc_open hw
          refine cw_join (K := K33) 226 (fun (x31 : Unit) => [(4, .int z8), (2, va_rf a2), (0, .ref h)]) (fun (x31 : Unit) => []) hl hH (fun x31 κ32 ls H locs cells slots hl hw hH => ?_) (fun jn35 => ?_)
          · have hw := hK34 x31 κ32 hw
            have hl : lv_has ls 5 [(4, .int z8), (2, va_rf a2), (0, .ref h)] := hl
            refine lv_iload hx hb dX11_queryInfo_226 (lv_at hl 0 rfl) ?_
            refine lv_bipush (v := 40) hx hb dX11_queryInfo_228 (by decide) ?_
            obtain ⟨K38, hK39, hw⟩ := jc_open hw
            refine cw_join (K := K38) 258 (fun (x36 : Unit) => [(4, .int z8), (2, va_rf a2), (0, .ref h)]) (fun (x36 : Unit) => []) hl hH (fun x36 κ37 ls H locs cells slots hl hw hH => ?_) (fun jn40 => ?_)
            · have hw := hK39 x36 κ37 hw
              have hl : lv_has ls 5 [(4, .int z8), (2, va_rf a2), (0, .ref h)] := hl
              refine lv_iload hx hb dX11_queryInfo_258 (lv_at hl 0 rfl) ?_
              refine lv_bipush (v := 80) hx hb dX11_queryInfo_260 (by decide) ?_
              obtain ⟨K43, hK44, hw⟩ := jc_open hw
              refine cw_join (K := K43) 301 (fun (x41 : Unit) => []) (fun (x41 : Unit) => []) hl hH (fun x41 κ42 ls H locs cells slots hl hw hH => ?_) (fun jn45 => ?_)
              · have hw := hK44 x41 κ42 hw
                have hl : lv_has ls 5 [] := hl
                refine lv_iconst (v := 0) hx hb dX11_queryInfo_301 (by decide) ?_
                exact cw_reti hF hH ⟨rfl, rfl⟩ hr rfl hlk dX11_queryInfo_302 hw
              · skip
                refine w_icmp_ne (tgt := 301) hF dX11_queryInfo_262 rfl hw (fun hw => ?_) (fun hw => ?_)
                · have hl : lv_has ls 5 [] := lv_sub hl [] rfl
                  exact jn45 () κ37 ls _ _ _ _ hl hw hH
                · refine lv_aload_n hx hb dX11_queryInfo_265 rfl (lv_at hl 2 rfl) ?_
                  refine cw_getPr (a := h) hF hH fk_X11_68 dX11_queryInfo_266 hw (fun z46 hw => ?_)
                  refine lv_sipush (v := 136) hx hb dX11_queryInfo_269 (by decide) ?_
                  refine lv_bipush (v := 8) hx hb dX11_queryInfo_272 (by decide) ?_
                  refine w_aloadq_n hF dX11_queryInfo_274 rfl (lv_at hl 1 rfl) ?_
                  refine cw_getP (q := a2) hF hH fk_X11_564 dX11_queryInfo_275 hw (fun z47 hw => ?_)
                  refine cw_getI (q := z47) hF hH fk_X11_248 dX11_queryInfo_278 hw (fun z48 hw => ?_)
                  refine lv_i2l hx hb dX11_queryInfo_281 rfl ?_
                  refine w_nml hw (fun z49 hw => ?_)
                  refine cw_cVvq (q := z46) (As := [.int 136, .int 8, .long z49]) (rest := []) hF hH hA hE mv_X11_349 ci_X6 (by decide) hw (fun b hw sz => c_X6_put l D t G _ b 136 8 z49 _ hw sz) dX11_queryInfo_282 ⟨Nat.le_of_ble_eq_true rfl, Nat.le_of_ble_eq_true rfl⟩ rfl hl.1 (Nat.le_of_ble_eq_true rfl) rfl (fun κ50 H locs cells slots hw hH => ?_)
                  refine lv_aload_n hx hb dX11_queryInfo_285 rfl (lv_at hl 2 rfl) ?_
                  refine cw_getPr (a := h) hF hH fk_X11_68 dX11_queryInfo_286 hw (fun z52 hw => ?_)
                  refine lv_sipush (v := 148) hx hb dX11_queryInfo_289 (by decide) ?_
                  refine lv_iconst (v := 4) hx hb dX11_queryInfo_292 (by decide) ?_
                  refine w_aloadq_n hF dX11_queryInfo_293 rfl (lv_at hl 1 rfl) ?_
                  refine cw_getI (q := a2) hF hH fk_X11_765 dX11_queryInfo_294 hw (fun z53 hw => ?_)
                  refine lv_i2l hx hb dX11_queryInfo_297 rfl ?_
                  refine w_nml hw (fun z54 hw => ?_)
                  refine cw_cVvq (q := z52) (As := [.int 148, .int 4, .long z54]) (rest := []) hF hH hA hE mv_X11_349 ci_X6 (by decide) hw (fun b hw sz => c_X6_put l D t G _ b 148 4 z54 _ hw sz) dX11_queryInfo_298 ⟨Nat.le_of_ble_eq_true rfl, Nat.le_of_ble_eq_true rfl⟩ rfl hl.1 (Nat.le_of_ble_eq_true rfl) rfl (fun κ55 H locs cells slots hw hH => ?_)
                  have hl : lv_has ls 5 [] := lv_sub hl [] rfl
                  exact jn45 () κ55 ls _ _ _ _ hl hw hH
            · skip
              refine w_icmp_eq (tgt := 258) hF dX11_queryInfo_230 rfl hw (fun hw => ?_) (fun hw => ?_)
              · exact jn40 () κ32 ls _ _ _ _ hl hw hH
              · refine w_aloadq_n hF dX11_queryInfo_233 rfl (lv_at hl 1 rfl) ?_
                refine cw_getP (q := a2) hF hH fk_X11_564 dX11_queryInfo_234 hw (fun z57 hw => ?_)
                refine lv_aload_n hx hb dX11_queryInfo_237 rfl (lv_at hl 2 rfl) ?_
                refine cw_getPr (a := h) hF hH fk_X11_68 dX11_queryInfo_238 hw (fun z58 hw => ?_)
                refine lv_iload hx hb dX11_queryInfo_241 (lv_at hl 0 rfl) ?_
                refine lv_bipush (v := 24) hx hb dX11_queryInfo_243 (by decide) ?_
                obtain ⟨K61, hK62, hw⟩ := jc_open hw
                refine cw_join (K := K61) 255 (fun (x59 : Int32) => [(4, .int z8), (2, va_rf a2), (0, .ref h)]) (fun (x59 : Int32) => [.int x59, va_rf z58, va_rf z57]) hl hH (fun x59 κ60 ls H locs cells slots hl hw hH => ?_) (fun jn63 => ?_)
                · have hw := hK62 x59 κ60 hw
                  have hl : lv_has ls 5 [(4, .int z8), (2, va_rf a2), (0, .ref h)] := hl
                  refine cw_cVvq (q := z57) (As := [va_rf z58, .int x59]) (rest := []) hF hH hA hE mv_X11_928 ci_X4 (by decide) hw (fun b hw sz => c_X4_tellStanding l D t G _ b z58 x59 _ hw sz) dX11_queryInfo_255 ⟨Nat.le_of_ble_eq_true rfl, Nat.le_of_ble_eq_true rfl⟩ rfl hl.1 (Nat.le_of_ble_eq_true rfl) rfl (fun κ64 H locs cells slots hw hH => ?_)
                  exact jn40 () κ64 ls _ _ _ _ hl hw hH
                · skip
                  refine w_icmp_ne (tgt := 253) hF dX11_queryInfo_245 rfl hw (fun hw => ?_) (fun hw => ?_)
                  · refine lv_bipush (v := 112) hx hb dX11_queryInfo_253 (by decide) ?_
                    exact jn63 112 κ32 ls _ _ _ _ hl hw hH
                  · refine lv_bipush (v := 72) hx hb dX11_queryInfo_248 (by decide) ?_
                    refine lv_goto (tgt := 255) hx hb dX11_queryInfo_250 rfl ?_
                    exact jn63 72 κ32 ls _ _ _ _ hl hw hH
          · skip
            refine w_icmp_eq (tgt := 226) hF dX11_queryInfo_192 rfl hw (fun hw => ?_) (fun hw => ?_)
            · have hl : lv_has ls 5 [(4, .int z8), (2, va_rf a2), (0, .ref h)] := lv_sub hl [0, 2, 4] rfl
              exact jn35 () κ29 ls _ _ _ _ hl hw hH
            · refine w_aloadq_n hF dX11_queryInfo_195 rfl (lv_at hl 2 rfl) ?_
              refine cw_getP (q := a2) hF hH fk_X11_564 dX11_queryInfo_196 hw (fun z66 hw => ?_)
              refine lv_aload_n hx hb dX11_queryInfo_199 rfl (lv_at hl 4 rfl) ?_
              refine cw_getPr (a := h) hF hH fk_X11_68 dX11_queryInfo_200 hw (fun z67 hw => ?_)
              refine lv_bipush (v := 72) hx hb dX11_queryInfo_203 (by decide) ?_
              refine cw_cVvq (q := z66) (As := [va_rf z67, .int 72]) (rest := []) hF hH hA hE mv_X11_913 ci_X4 (by decide) hw (fun b hw sz => c_X4_tellTimes l D t G _ b z67 72 _ hw sz) dX11_queryInfo_205 ⟨Nat.le_of_ble_eq_true rfl, Nat.le_of_ble_eq_true rfl⟩ rfl hl.1 (Nat.le_of_ble_eq_true rfl) rfl (fun κ68 H locs cells slots hw hH => ?_)
              refine lv_aload_n hx hb dX11_queryInfo_208 rfl (lv_at hl 4 rfl) ?_
              refine cw_getPr (a := h) hF hH fk_X11_68 dX11_queryInfo_209 hw (fun z70 hw => ?_)
              refine lv_bipush (v := 104) hx hb dX11_queryInfo_212 (by decide) ?_
              refine lv_iconst (v := 4) hx hb dX11_queryInfo_214 (by decide) ?_
              refine w_aloadq_n hF dX11_queryInfo_215 rfl (lv_at hl 2 rfl) ?_
              refine cw_getP (q := a2) hF hH fk_X11_564 dX11_queryInfo_216 hw (fun z71 hw => ?_)
              refine cw_cViq (q := z71) (As := []) (rest := [.int 4, .int 104, va_rf z70]) hF hH hA hE mv_X11_920 ci_X4 (by decide) hw (fun b hw sz => c_X4_toldAttributes l D t G _ b  _ hw sz) dX11_queryInfo_219 ⟨Nat.le_of_ble_eq_true rfl, Nat.le_of_ble_eq_true rfl⟩ rfl hl.1 (by simp only [List.map_cons, List.map_nil, cat_rf]; exact Nat.le_of_ble_eq_true rfl) rfl (fun z73 κ72 H locs cells slots hw hH => ?_)
              refine lv_i2l hx hb dX11_queryInfo_222 rfl ?_
              refine w_nml hw (fun z74 hw => ?_)
              refine cw_cVvq (q := z70) (As := [.int 104, .int 4, .long z74]) (rest := []) hF hH hA hE mv_X11_349 ci_X6 (by decide) hw (fun b hw sz => c_X6_put l D t G _ b 104 4 z74 _ hw sz) dX11_queryInfo_223 ⟨Nat.le_of_ble_eq_true rfl, Nat.le_of_ble_eq_true rfl⟩ rfl hl.1 (Nat.le_of_ble_eq_true rfl) rfl (fun κ75 H locs cells slots hw hH => ?_)
              have hl : lv_has ls 5 [(4, .int z8), (2, va_rf a2), (0, .ref h)] := lv_sub hl [0, 2, 4] rfl
              exact jn35 () κ75 ls _ _ _ _ hl hw hH
        · refine lv_aload_n hx hb dX11_queryInfo_126 rfl (lv_at hl 4 rfl) ?_
          refine cw_getPr (a := h) hF hH fk_X11_68 dX11_queryInfo_127 hw (fun z77 hw => ?_)
          refine lv_bipush (v := 72) hx hb dX11_queryInfo_130 (by decide) ?_
          refine lv_bipush (v := 8) hx hb dX11_queryInfo_132 (by decide) ?_
          refine lv_ldc2 (v := 80) hx hb hF.1.2.2.2.1 (hF.1.2.2.2.2 _ (wc_31 29 rfl)) dX11_queryInfo_134 ?_
          refine cw_cVvq (q := z77) (As := [.int 72, .int 8, .long 80]) (rest := []) hF hH hA hE mv_X11_349 ci_X6 (by decide) hw (fun b hw sz => c_X6_put l D t G _ b 72 8 80 _ hw sz) dX11_queryInfo_137 ⟨Nat.le_of_ble_eq_true rfl, Nat.le_of_ble_eq_true rfl⟩ rfl hl.1 (Nat.le_of_ble_eq_true rfl) rfl (fun κ78 H locs cells slots hw hH => ?_)
          refine lv_aload_n hx hb dX11_queryInfo_140 rfl (lv_at hl 4 rfl) ?_
          refine cw_getPr (a := h) hF hH fk_X11_68 dX11_queryInfo_141 hw (fun z80 hw => ?_)
          refine lv_bipush (v := 80) hx hb dX11_queryInfo_144 (by decide) ?_
          refine lv_bipush (v := 8) hx hb dX11_queryInfo_146 (by decide) ?_
          refine lv_bipush (v := 80) hx hb dX11_queryInfo_148 (by decide) ?_
          refine lv_aload_n hx hb dX11_queryInfo_150 rfl (lv_at hl 4 rfl) ?_
          refine cw_getPr (a := h) hF hH fk_X11_29 dX11_queryInfo_151 hw (fun z81 hw => ?_)
          refine cw_getI (q := z81) hF hH fk_X11_101 dX11_queryInfo_154 hw (fun z82 hw => ?_)
          refine lv_isub hx hb dX11_queryInfo_157 ?_
          refine w_nmi hw (fun z83 hw => ?_)
          refine lv_i2l hx hb dX11_queryInfo_158 rfl ?_
          refine w_nml hw (fun z84 hw => ?_)
          refine cw_cVvq (q := z80) (As := [.int 80, .int 8, .long z84]) (rest := []) hF hH hA hE mv_X11_349 ci_X6 (by decide) hw (fun b hw sz => c_X6_put l D t G _ b 80 8 z84 _ hw sz) dX11_queryInfo_159 ⟨Nat.le_of_ble_eq_true rfl, Nat.le_of_ble_eq_true rfl⟩ rfl hl.1 (Nat.le_of_ble_eq_true rfl) rfl (fun κ85 H locs cells slots hw hH => ?_)
          refine lv_aload_n hx hb dX11_queryInfo_162 rfl (lv_at hl 4 rfl) ?_
          refine cw_getPr (a := h) hF hH fk_X11_68 dX11_queryInfo_163 hw (fun z87 hw => ?_)
          refine lv_bipush (v := 88) hx hb dX11_queryInfo_166 (by decide) ?_
          refine lv_iconst (v := 4) hx hb dX11_queryInfo_168 (by decide) ?_
          refine lv_lconst (v := 1) hx hb dX11_queryInfo_169 (by decide) ?_
          refine cw_cVvq (q := z87) (As := [.int 88, .int 4, .long 1]) (rest := []) hF hH hA hE mv_X11_349 ci_X6 (by decide) hw (fun b hw sz => c_X6_put l D t G _ b 88 4 1 _ hw sz) dX11_queryInfo_170 ⟨Nat.le_of_ble_eq_true rfl, Nat.le_of_ble_eq_true rfl⟩ rfl hl.1 (Nat.le_of_ble_eq_true rfl) rfl (fun κ88 H locs cells slots hw hH => ?_)
          refine lv_aload_n hx hb dX11_queryInfo_173 rfl (lv_at hl 4 rfl) ?_
          refine cw_getPr (a := h) hF hH fk_X11_68 dX11_queryInfo_174 hw (fun z90 hw => ?_)
          refine lv_bipush (v := 92) hx hb dX11_queryInfo_177 (by decide) ?_
          refine lv_iconst (v := 4) hx hb dX11_queryInfo_179 (by decide) ?_
          refine lv_ldc2 (v := 512) hx hb hF.1.2.2.2.1 (hF.1.2.2.2.2 _ (wc_33 33 rfl)) dX11_queryInfo_180 ?_
          refine cw_cVvq (q := z90) (As := [.int 92, .int 4, .long 512]) (rest := []) hF hH hA hE mv_X11_349 ci_X6 (by decide) hw (fun b hw sz => c_X6_put l D t G _ b 92 4 512 _ hw sz) dX11_queryInfo_183 ⟨Nat.le_of_ble_eq_true rfl, Nat.le_of_ble_eq_true rfl⟩ rfl hl.1 (Nat.le_of_ble_eq_true rfl) rfl (fun κ91 H locs cells slots hw hH => ?_)
          refine lv_iconst (v := 0) hx hb dX11_queryInfo_186 (by decide) ?_
          exact cw_reti hF hH ⟨rfl, rfl⟩ hr rfl hlk dX11_queryInfo_187 hw
      · refine lv_ldcw (v := (-1073741820)) hx hb hF.1.2.2.2.1 (hF.1.2.2.2.2 _ (wc_33 8 rfl)) dX11_queryInfo_66 ?_
        exact cw_reti hF hH ⟨rfl, rfl⟩ hr rfl hlk dX11_queryInfo_69 hw
    · skip
      refine w_icmp_ne (tgt := 52) hF dX11_queryInfo_34 rfl hw (fun hw => ?_) (fun hw => ?_)
      · have hl : lv_has ls 5 [(4, .int z8), (3, .int z3), (2, va_rf a2), (1, va_rf a1), (0, .ref h)] := lv_sub hl [0, 1, 4, 3, 2] rfl
        exact jn13 () κ7 ls _ _ _ _ hl hw hH
      · refine w_aloadq_n hF dX11_queryInfo_37 rfl (lv_at hl 4 rfl) ?_
        refine cw_getI (q := a2) hF hH fk_X11_765 dX11_queryInfo_38 hw (fun z93 hw => ?_)
        refine lv_sipush (v := 128) hx hb dX11_queryInfo_41 (by decide) ?_
        refine lv_iand hx hb dX11_queryInfo_44 ?_
        refine w_nmi hw (fun z94 hw => ?_)
        refine w_if_ne (tgt := 52) hF dX11_queryInfo_45 rfl hw (fun hw => ?_) (fun hw => ?_)
        · have hl : lv_has ls 5 [(4, .int z8), (3, .int z3), (2, va_rf a2), (1, va_rf a1), (0, .ref h)] := lv_sub hl [0, 1, 4, 3, 2] rfl
          exact jn13 () κ7 ls _ _ _ _ hl hw hH
        · refine lv_ldcw (v := (-1073741790)) hx hb hF.1.2.2.2.1 (hF.1.2.2.2.2 _ (wc_22 30 rfl)) dX11_queryInfo_48 ?_
          exact cw_reti hF hH ⟨rfl, rfl⟩ hr rfl hlk dX11_queryInfo_51 hw
  · refine lv_ldcw (v := (-1073741821)) hx hb hF.1.2.2.2.1 (hF.1.2.2.2.2 _ (wc_32 31 rfl)) dX11_queryInfo_28 ?_
    exact cw_reti hF hH ⟨rfl, rfl⟩ hr rfl hlk dX11_queryInfo_31 hw
set_option maxRecDepth 100000 in
def F_X11_setSizeOf (G : GE) (a0 : Int32) (post : Int32 → CS → Prop) (κ : CS) : Prop := ((a0.toInt = 4) → post 40 κ) ∧ ((a0.toInt = 10) → post 20 κ) ∧ ((a0.toInt = 13) → post 1 κ) ∧ ((a0.toInt = 20) → post 8 κ) ∧ ((¬ a0.toInt = 4 ∧ ¬ a0.toInt = 10 ∧ ¬ a0.toInt = 13 ∧ ¬ a0.toInt = 20) → post 0 κ)
theorem dX11_setSizeOf_0 : decode cX11_setSizeOf 0 = .ok (.iload_n 0, 1) := by decide +kernel
theorem dX11_setSizeOf_1 : decode cX11_setSizeOf 1 = .ok (.lookupswitch 54 #[(4, 43), (10, 51), (13, 49), (20, 46)], 43) := by decide +kernel
theorem dX11_setSizeOf_44 : decode cX11_setSizeOf 44 = .ok (.bipush 40, 2) := by decide +kernel
theorem dX11_setSizeOf_46 : decode cX11_setSizeOf 46 = .ok (.ireturn, 1) := by decide +kernel
theorem dX11_setSizeOf_47 : decode cX11_setSizeOf 47 = .ok (.bipush 8, 2) := by decide +kernel
theorem dX11_setSizeOf_49 : decode cX11_setSizeOf 49 = .ok (.ireturn, 1) := by decide +kernel
theorem dX11_setSizeOf_50 : decode cX11_setSizeOf 50 = .ok (.iconst 1, 1) := by decide +kernel
theorem dX11_setSizeOf_51 : decode cX11_setSizeOf 51 = .ok (.ireturn, 1) := by decide +kernel
theorem dX11_setSizeOf_52 : decode cX11_setSizeOf 52 = .ok (.bipush 20, 2) := by decide +kernel
theorem dX11_setSizeOf_54 : decode cX11_setSizeOf 54 = .ok (.ireturn, 1) := by decide +kernel
theorem dX11_setSizeOf_55 : decode cX11_setSizeOf 55 = .ok (.iconst 0, 1) := by decide +kernel
theorem dX11_setSizeOf_56 : decode cX11_setSizeOf 56 = .ok (.ireturn, 1) := by decide +kernel
set_option maxRecDepth 100000 in
set_option maxHeartbeats 4000000 in
theorem c_X11_setSizeOf (l : Launch) (D : va_G) (t : Nat → ClassId) (G : GE) (κ : CS) (a0 : Int32) (post : Int32 → CS → Prop) (hw : F_X11_setSizeOf G a0 post κ) (sz : Nat) : CMi l D t yX11_setSizeOf cX11_setSizeOf 1 (some .int) 0 14 G κ sz [.int a0] post := by
  refine c_go (by decide) (Nat.le_of_ble_eq_true rfl) ?_
  intro p e s m below meth c ls A hF hr hlk hin hAe hH hA hE hl
  unfold cB
  rw [hAe]
  clear hAe
  have hF : FX p m c cX11_setSizeOf 1 s _ RX11 D t := hF
  have hx := hF.1.1
  have hb := hF.1.2.1
  have hl : lv_has ls 1 [(0, .int a0)] := hl
  unfold F_X11_setSizeOf at hw
  refine lv_iload_n hx hb dX11_setSizeOf_0 rfl (lv_at hl 0 rfl) ?_
  by_cases z1_4 : a0.toInt = 4
  · have hw := hw.1 z1_4
    refine lv_lookup (off := 43) (tgt := 44) hx hb dX11_setSizeOf_1 (by decide) (by rw [z1_4]; rfl) rfl ?_
    refine lv_bipush (v := 40) hx hb dX11_setSizeOf_44 (by decide) ?_
    exact cw_reti hF hH ⟨rfl, rfl⟩ hr rfl hlk dX11_setSizeOf_46 hw
  by_cases z1_10 : a0.toInt = 10
  · have hw := hw.2.1 z1_10
    refine lv_lookup (off := 51) (tgt := 52) hx hb dX11_setSizeOf_1 (by decide) (by rw [z1_10]; rfl) rfl ?_
    refine lv_bipush (v := 20) hx hb dX11_setSizeOf_52 (by decide) ?_
    exact cw_reti hF hH ⟨rfl, rfl⟩ hr rfl hlk dX11_setSizeOf_54 hw
  by_cases z1_13 : a0.toInt = 13
  · have hw := hw.2.2.1 z1_13
    refine lv_lookup (off := 49) (tgt := 50) hx hb dX11_setSizeOf_1 (by decide) (by rw [z1_13]; rfl) rfl ?_
    refine lv_iconst (v := 1) hx hb dX11_setSizeOf_50 (by decide) ?_
    exact cw_reti hF hH ⟨rfl, rfl⟩ hr rfl hlk dX11_setSizeOf_51 hw
  by_cases z1_20 : a0.toInt = 20
  · have hw := hw.2.2.2.1 z1_20
    refine lv_lookup (off := 46) (tgt := 47) hx hb dX11_setSizeOf_1 (by decide) (by rw [z1_20]; rfl) rfl ?_
    refine lv_bipush (v := 8) hx hb dX11_setSizeOf_47 (by decide) ?_
    exact cw_reti hF hH ⟨rfl, rfl⟩ hr rfl hlk dX11_setSizeOf_49 hw
  have hw := hw.2.2.2.2 ⟨z1_4, z1_10, z1_13, z1_20⟩
  refine lv_lookup (off := 54) (tgt := 55) hx hb dX11_setSizeOf_1 (by decide) (by simp only [Op.lookupswitch.offset]; rw [if_neg (fun q => z1_4 q.symm), if_neg (fun q => z1_10 q.symm), if_neg (fun q => z1_13 q.symm), if_neg (fun q => z1_20 q.symm)]) rfl ?_
  refine lv_iconst (v := 0) hx hb dX11_setSizeOf_55 (by decide) ?_
  exact cw_reti hF hH ⟨rfl, rfl⟩ hr rfl hlk dX11_setSizeOf_56 hw
set_option maxRecDepth 100000 in
def F_X11_setAccessOf (G : GE) (a0 : Int32) (post : Int32 → CS → Prop) (κ : CS) : Prop := ((a0.toInt = 4) → post 256 κ) ∧ ((a0.toInt = 20) → post 2 κ) ∧ ((¬ a0.toInt = 4 ∧ ¬ a0.toInt = 20) → post 65536 κ)
theorem dX11_setAccessOf_0 : decode cX11_setAccessOf 0 = .ok (.iload_n 0, 1) := by decide +kernel
theorem dX11_setAccessOf_1 : decode cX11_setAccessOf 1 = .ok (.lookupswitch 33 #[(4, 27), (20, 31)], 27) := by decide +kernel
theorem dX11_setAccessOf_28 : decode cX11_setAccessOf 28 = .ok (.sipush 256, 3) := by decide +kernel
theorem dX11_setAccessOf_31 : decode cX11_setAccessOf 31 = .ok (.ireturn, 1) := by decide +kernel
theorem dX11_setAccessOf_32 : decode cX11_setAccessOf 32 = .ok (.iconst 2, 1) := by decide +kernel
theorem dX11_setAccessOf_33 : decode cX11_setAccessOf 33 = .ok (.ireturn, 1) := by decide +kernel
theorem dX11_setAccessOf_34 : decode cX11_setAccessOf 34 = .ok (.ldc_w 657, 3) := by decide +kernel
theorem dX11_setAccessOf_37 : decode cX11_setAccessOf 37 = .ok (.ireturn, 1) := by decide +kernel
set_option maxRecDepth 100000 in
set_option maxHeartbeats 4000000 in
theorem c_X11_setAccessOf (l : Launch) (D : va_G) (t : Nat → ClassId) (G : GE) (κ : CS) (a0 : Int32) (post : Int32 → CS → Prop) (hw : F_X11_setAccessOf G a0 post κ) (sz : Nat) : CMi l D t yX11_setAccessOf cX11_setAccessOf 1 (some .int) 0 14 G κ sz [.int a0] post := by
  refine c_go (by decide) (Nat.le_of_ble_eq_true rfl) ?_
  intro p e s m below meth c ls A hF hr hlk hin hAe hH hA hE hl
  unfold cB
  rw [hAe]
  clear hAe
  have hF : FX p m c cX11_setAccessOf 1 s _ RX11 D t := hF
  have hx := hF.1.1
  have hb := hF.1.2.1
  have hl : lv_has ls 1 [(0, .int a0)] := hl
  unfold F_X11_setAccessOf at hw
  refine lv_iload_n hx hb dX11_setAccessOf_0 rfl (lv_at hl 0 rfl) ?_
  by_cases z1_4 : a0.toInt = 4
  · have hw := hw.1 z1_4
    refine lv_lookup (off := 27) (tgt := 28) hx hb dX11_setAccessOf_1 (by decide) (by rw [z1_4]; rfl) rfl ?_
    refine lv_sipush (v := 256) hx hb dX11_setAccessOf_28 (by decide) ?_
    exact cw_reti hF hH ⟨rfl, rfl⟩ hr rfl hlk dX11_setAccessOf_31 hw
  by_cases z1_20 : a0.toInt = 20
  · have hw := hw.2.1 z1_20
    refine lv_lookup (off := 31) (tgt := 32) hx hb dX11_setAccessOf_1 (by decide) (by rw [z1_20]; rfl) rfl ?_
    refine lv_iconst (v := 2) hx hb dX11_setAccessOf_32 (by decide) ?_
    exact cw_reti hF hH ⟨rfl, rfl⟩ hr rfl hlk dX11_setAccessOf_33 hw
  have hw := hw.2.2 ⟨z1_4, z1_20⟩
  refine lv_lookup (off := 33) (tgt := 34) hx hb dX11_setAccessOf_1 (by decide) (by simp only [Op.lookupswitch.offset]; rw [if_neg (fun q => z1_4 q.symm), if_neg (fun q => z1_20 q.symm)]) rfl ?_
  refine lv_ldcw (v := 65536) hx hb hF.1.2.2.2.1 (hF.1.2.2.2.2 _ (wc_22 29 rfl)) dX11_setAccessOf_34 ?_
  exact cw_reti hF hH ⟨rfl, rfl⟩ hr rfl hlk dX11_setAccessOf_37 hw
set_option maxRecDepth 100000 in
def F_X11_setValues (G : GE) (h : Nat) (a1 : Option Nat) (a2 : Option Nat) (a3 : Int32) (post : Int32 → CS → Prop) (κ : CS) : Prop := ∃ b : Nat, a1 = some b ∧ (b ∈ sL κ.1 ∧ sK κ.1 b = 8) ∧ F_X0_number G b a3 8 (fun (z2 : Int64) (κ1 : CS) => ∀ z3 : Int32, z3 = a3 + 8 → ∃ b : Nat, a1 = some b ∧ (b ∈ sL κ1.1 ∧ sK κ1.1 b = 8) ∧ F_X0_number G b z3 8 (fun (z5 : Int64) (κ4 : CS) => ∀ z6 : Int32, z6 = a3 + 16 → ∃ b : Nat, a1 = some b ∧ (b ∈ sL κ4.1 ∧ sK κ4.1 b = 8) ∧ F_X0_number G b z6 8 (fun (z8 : Int64) (κ7 : CS) => ∀ z9 : Int32, z9 = a3 + 24 → ∃ b : Nat, a1 = some b ∧ (b ∈ sL κ7.1 ∧ sK κ7.1 b = 8) ∧ F_X0_number G b z9 8 (fun (z11 : Int64) (κ10 : CS) => ∀ z12 : Int32, z12 = a3 + 32 → ∃ b : Nat, a1 = some b ∧ (b ∈ sL κ10.1 ∧ sK κ10.1 b = 8) ∧ F_X0_number G b z12 4 (fun (z14 : Int64) (κ13 : CS) => ∀ z15 : Int32, z15 = (z14 : Int64).toInt32 → ∃ b : Nat, a2 = some b ∧ (b ∈ sL κ13.1 ∧ sK κ13.1 b = 10) ∧ ∀ z16 : Option Nat, z16 = sP κ13.1 b 2 → (h ∈ sL κ13.1 ∧ sK κ13.1 h = 1) ∧ F_X11_nextChange G h 3 z16 (fun (z18 : Option Nat) (κ17 : CS) => jc (fun (K21 : Int64 → CS → Prop) => ((¬ z2.toInt = (0 : Int64).toInt) → K21 z2 κ17) ∧ ((z2.toInt = (0 : Int64).toInt) → ∃ b : Nat, z18 = some b ∧ (b ∈ sL κ17.1 ∧ sK κ17.1 b = 4) ∧ ∀ z56 : Int64, z56 = sJ κ17.1 b 7 → K21 z56 κ17)) (fun (x19 : Int64) (κ20 : CS) => ∃ b : Nat, z18 = some b ∧ (b ∈ sL κ20.1 ∧ sK κ20.1 b = 4) ∧ ∀ κ24 : CS, κ24 = (h_uJ κ20.1 b 7 x19, κ20.2) → jc (fun (K27 : Int64 → CS → Prop) => ((¬ z5.toInt = (0 : Int64).toInt) → K27 z5 κ24) ∧ ((z5.toInt = (0 : Int64).toInt) → ∃ b : Nat, z18 = some b ∧ (b ∈ sL κ24.1 ∧ sK κ24.1 b = 4) ∧ ∀ z55 : Int64, z55 = sJ κ24.1 b 8 → K27 z55 κ24)) (fun (x25 : Int64) (κ26 : CS) => ∃ b : Nat, z18 = some b ∧ (b ∈ sL κ26.1 ∧ sK κ26.1 b = 4) ∧ ∀ κ30 : CS, κ30 = (h_uJ κ26.1 b 8 x25, κ26.2) → jc (fun (K33 : Int64 → CS → Prop) => ((¬ z8.toInt = (0 : Int64).toInt) → K33 z8 κ30) ∧ ((z8.toInt = (0 : Int64).toInt) → ∃ b : Nat, z18 = some b ∧ (b ∈ sL κ30.1 ∧ sK κ30.1 b = 4) ∧ ∀ z54 : Int64, z54 = sJ κ30.1 b 9 → K33 z54 κ30)) (fun (x31 : Int64) (κ32 : CS) => ∃ b : Nat, z18 = some b ∧ (b ∈ sL κ32.1 ∧ sK κ32.1 b = 4) ∧ ∀ κ36 : CS, κ36 = (h_uJ κ32.1 b 9 x31, κ32.2) → jc (fun (K39 : Int64 → CS → Prop) => ((¬ z11.toInt = (0 : Int64).toInt) → K39 z11 κ36) ∧ ((z11.toInt = (0 : Int64).toInt) → (h ∈ sL κ36.1 ∧ sK κ36.1 h = 1) ∧ ∀ z53 : Int64, z53 = sJ κ36.1 h 7 → K39 z53 κ36)) (fun (x37 : Int64) (κ38 : CS) => ∃ b : Nat, z18 = some b ∧ (b ∈ sL κ38.1 ∧ sK κ38.1 b = 4) ∧ ∀ κ42 : CS, κ42 = (h_uJ κ38.1 b 10 x37, κ38.2) → jc (fun (K45 : Int32 → CS → Prop) => ((¬ z15.toInt = 0) → ∀ z51 : Int32, z51 = z15 &&& 39 → K45 z51 κ42) ∧ ((z15.toInt = 0) → ∃ b : Nat, z18 = some b ∧ (b ∈ sL κ42.1 ∧ sK κ42.1 b = 4) ∧ ∀ z52 : Int32, z52 = sI κ42.1 b 6 → K45 z52 κ42)) (fun (x43 : Int32) (κ44 : CS) => ∃ b : Nat, z18 = some b ∧ (b ∈ sL κ44.1 ∧ sK κ44.1 b = 4) ∧ ∀ κ48 : CS, κ48 = (h_uI κ44.1 b 6 x43, κ44.2) → (h ∈ sL κ48.1 ∧ sK κ48.1 h = 1) ∧ F_X11_done G h z18 (fun (κ49 : CS) => post 0 κ49) κ48)))))) κ13) κ10) κ7) κ4) κ1) κ
theorem dX11_setValues_0 : decode cX11_setValues 0 = .ok (.aload_n 1, 1) := by decide +kernel
theorem dX11_setValues_1 : decode cX11_setValues 1 = .ok (.iload_n 3, 1) := by decide +kernel
theorem dX11_setValues_2 : decode cX11_setValues 2 = .ok (.bipush 8, 2) := by decide +kernel
theorem dX11_setValues_4 : decode cX11_setValues 4 = .ok (.invokevirtual 394, 3) := by decide +kernel
theorem dX11_setValues_7 : decode cX11_setValues 7 = .ok (.lstore 4, 2) := by decide +kernel
theorem dX11_setValues_9 : decode cX11_setValues 9 = .ok (.aload_n 1, 1) := by decide +kernel
theorem dX11_setValues_10 : decode cX11_setValues 10 = .ok (.iload_n 3, 1) := by decide +kernel
theorem dX11_setValues_11 : decode cX11_setValues 11 = .ok (.bipush 8, 2) := by decide +kernel
theorem dX11_setValues_13 : decode cX11_setValues 13 = .ok (.iadd, 1) := by decide +kernel
theorem dX11_setValues_14 : decode cX11_setValues 14 = .ok (.bipush 8, 2) := by decide +kernel
theorem dX11_setValues_16 : decode cX11_setValues 16 = .ok (.invokevirtual 394, 3) := by decide +kernel
theorem dX11_setValues_19 : decode cX11_setValues 19 = .ok (.lstore 6, 2) := by decide +kernel
theorem dX11_setValues_21 : decode cX11_setValues 21 = .ok (.aload_n 1, 1) := by decide +kernel
theorem dX11_setValues_22 : decode cX11_setValues 22 = .ok (.iload_n 3, 1) := by decide +kernel
theorem dX11_setValues_23 : decode cX11_setValues 23 = .ok (.bipush 16, 2) := by decide +kernel
theorem dX11_setValues_25 : decode cX11_setValues 25 = .ok (.iadd, 1) := by decide +kernel
theorem dX11_setValues_26 : decode cX11_setValues 26 = .ok (.bipush 8, 2) := by decide +kernel
theorem dX11_setValues_28 : decode cX11_setValues 28 = .ok (.invokevirtual 394, 3) := by decide +kernel
theorem dX11_setValues_31 : decode cX11_setValues 31 = .ok (.lstore 8, 2) := by decide +kernel
theorem dX11_setValues_33 : decode cX11_setValues 33 = .ok (.aload_n 1, 1) := by decide +kernel
theorem dX11_setValues_34 : decode cX11_setValues 34 = .ok (.iload_n 3, 1) := by decide +kernel
theorem dX11_setValues_35 : decode cX11_setValues 35 = .ok (.bipush 24, 2) := by decide +kernel
theorem dX11_setValues_37 : decode cX11_setValues 37 = .ok (.iadd, 1) := by decide +kernel
theorem dX11_setValues_38 : decode cX11_setValues 38 = .ok (.bipush 8, 2) := by decide +kernel
theorem dX11_setValues_40 : decode cX11_setValues 40 = .ok (.invokevirtual 394, 3) := by decide +kernel
theorem dX11_setValues_43 : decode cX11_setValues 43 = .ok (.lstore 10, 2) := by decide +kernel
theorem dX11_setValues_45 : decode cX11_setValues 45 = .ok (.aload_n 1, 1) := by decide +kernel
theorem dX11_setValues_46 : decode cX11_setValues 46 = .ok (.iload_n 3, 1) := by decide +kernel
theorem dX11_setValues_47 : decode cX11_setValues 47 = .ok (.bipush 32, 2) := by decide +kernel
theorem dX11_setValues_49 : decode cX11_setValues 49 = .ok (.iadd, 1) := by decide +kernel
theorem dX11_setValues_50 : decode cX11_setValues 50 = .ok (.iconst 4, 1) := by decide +kernel
theorem dX11_setValues_51 : decode cX11_setValues 51 = .ok (.invokevirtual 394, 3) := by decide +kernel
theorem dX11_setValues_54 : decode cX11_setValues 54 = .ok (.l2i, 1) := by decide +kernel
theorem dX11_setValues_55 : decode cX11_setValues 55 = .ok (.istore 12, 2) := by decide +kernel
theorem dX11_setValues_57 : decode cX11_setValues 57 = .ok (.aload_n 0, 1) := by decide +kernel
theorem dX11_setValues_58 : decode cX11_setValues 58 = .ok (.iconst 3, 1) := by decide +kernel
theorem dX11_setValues_59 : decode cX11_setValues 59 = .ok (.aload_n 2, 1) := by decide +kernel
theorem dX11_setValues_60 : decode cX11_setValues 60 = .ok (.getfield 564, 3) := by decide +kernel
theorem dX11_setValues_63 : decode cX11_setValues 63 = .ok (.invokevirtual 234, 3) := by decide +kernel
theorem dX11_setValues_66 : decode cX11_setValues 66 = .ok (.astore 13, 2) := by decide +kernel
theorem dX11_setValues_68 : decode cX11_setValues 68 = .ok (.aload 13, 2) := by decide +kernel
theorem dX11_setValues_70 : decode cX11_setValues 70 = .ok (.lload 4, 2) := by decide +kernel
theorem dX11_setValues_72 : decode cX11_setValues 72 = .ok (.lconst 0, 1) := by decide +kernel
theorem dX11_setValues_73 : decode cX11_setValues 73 = .ok (.lcmp, 1) := by decide +kernel
theorem dX11_setValues_74 : decode cX11_setValues 74 = .ok (.ifCond .ne 11, 3) := by decide +kernel
theorem dX11_setValues_77 : decode cX11_setValues 77 = .ok (.aload 13, 2) := by decide +kernel
theorem dX11_setValues_79 : decode cX11_setValues 79 = .ok (.getfield 952, 3) := by decide +kernel
theorem dX11_setValues_82 : decode cX11_setValues 82 = .ok (.goto 5, 3) := by decide +kernel
theorem dX11_setValues_85 : decode cX11_setValues 85 = .ok (.lload 4, 2) := by decide +kernel
theorem dX11_setValues_87 : decode cX11_setValues 87 = .ok (.putfield 952, 3) := by decide +kernel
theorem dX11_setValues_90 : decode cX11_setValues 90 = .ok (.aload 13, 2) := by decide +kernel
theorem dX11_setValues_92 : decode cX11_setValues 92 = .ok (.lload 6, 2) := by decide +kernel
theorem dX11_setValues_94 : decode cX11_setValues 94 = .ok (.lconst 0, 1) := by decide +kernel
theorem dX11_setValues_95 : decode cX11_setValues 95 = .ok (.lcmp, 1) := by decide +kernel
theorem dX11_setValues_96 : decode cX11_setValues 96 = .ok (.ifCond .ne 11, 3) := by decide +kernel
theorem dX11_setValues_99 : decode cX11_setValues 99 = .ok (.aload 13, 2) := by decide +kernel
theorem dX11_setValues_101 : decode cX11_setValues 101 = .ok (.getfield 955, 3) := by decide +kernel
theorem dX11_setValues_104 : decode cX11_setValues 104 = .ok (.goto 5, 3) := by decide +kernel
theorem dX11_setValues_107 : decode cX11_setValues 107 = .ok (.lload 6, 2) := by decide +kernel
theorem dX11_setValues_109 : decode cX11_setValues 109 = .ok (.putfield 955, 3) := by decide +kernel
theorem dX11_setValues_112 : decode cX11_setValues 112 = .ok (.aload 13, 2) := by decide +kernel
theorem dX11_setValues_114 : decode cX11_setValues 114 = .ok (.lload 8, 2) := by decide +kernel
theorem dX11_setValues_116 : decode cX11_setValues 116 = .ok (.lconst 0, 1) := by decide +kernel
theorem dX11_setValues_117 : decode cX11_setValues 117 = .ok (.lcmp, 1) := by decide +kernel
theorem dX11_setValues_118 : decode cX11_setValues 118 = .ok (.ifCond .ne 11, 3) := by decide +kernel
theorem dX11_setValues_121 : decode cX11_setValues 121 = .ok (.aload 13, 2) := by decide +kernel
theorem dX11_setValues_123 : decode cX11_setValues 123 = .ok (.getfield 736, 3) := by decide +kernel
theorem dX11_setValues_126 : decode cX11_setValues 126 = .ok (.goto 5, 3) := by decide +kernel
theorem dX11_setValues_129 : decode cX11_setValues 129 = .ok (.lload 8, 2) := by decide +kernel
theorem dX11_setValues_131 : decode cX11_setValues 131 = .ok (.putfield 736, 3) := by decide +kernel
theorem dX11_setValues_134 : decode cX11_setValues 134 = .ok (.aload 13, 2) := by decide +kernel
theorem dX11_setValues_136 : decode cX11_setValues 136 = .ok (.lload 10, 2) := by decide +kernel
theorem dX11_setValues_138 : decode cX11_setValues 138 = .ok (.lconst 0, 1) := by decide +kernel
theorem dX11_setValues_139 : decode cX11_setValues 139 = .ok (.lcmp, 1) := by decide +kernel
theorem dX11_setValues_140 : decode cX11_setValues 140 = .ok (.ifCond .ne 10, 3) := by decide +kernel
theorem dX11_setValues_143 : decode cX11_setValues 143 = .ok (.aload_n 0, 1) := by decide +kernel
theorem dX11_setValues_144 : decode cX11_setValues 144 = .ok (.getfield 157, 3) := by decide +kernel
theorem dX11_setValues_147 : decode cX11_setValues 147 = .ok (.goto 5, 3) := by decide +kernel
theorem dX11_setValues_150 : decode cX11_setValues 150 = .ok (.lload 10, 2) := by decide +kernel
theorem dX11_setValues_152 : decode cX11_setValues 152 = .ok (.putfield 739, 3) := by decide +kernel
theorem dX11_setValues_155 : decode cX11_setValues 155 = .ok (.aload 13, 2) := by decide +kernel
theorem dX11_setValues_157 : decode cX11_setValues 157 = .ok (.iload 12, 2) := by decide +kernel
theorem dX11_setValues_159 : decode cX11_setValues 159 = .ok (.ifCond .ne 11, 3) := by decide +kernel
theorem dX11_setValues_162 : decode cX11_setValues 162 = .ok (.aload 13, 2) := by decide +kernel
theorem dX11_setValues_164 : decode cX11_setValues 164 = .ok (.getfield 743, 3) := by decide +kernel
theorem dX11_setValues_167 : decode cX11_setValues 167 = .ok (.goto 8, 3) := by decide +kernel
theorem dX11_setValues_170 : decode cX11_setValues 170 = .ok (.iload 12, 2) := by decide +kernel
theorem dX11_setValues_172 : decode cX11_setValues 172 = .ok (.bipush 39, 2) := by decide +kernel
theorem dX11_setValues_174 : decode cX11_setValues 174 = .ok (.iand, 1) := by decide +kernel
theorem dX11_setValues_175 : decode cX11_setValues 175 = .ok (.putfield 743, 3) := by decide +kernel
theorem dX11_setValues_178 : decode cX11_setValues 178 = .ok (.aload_n 0, 1) := by decide +kernel
theorem dX11_setValues_179 : decode cX11_setValues 179 = .ok (.aload 13, 2) := by decide +kernel
theorem dX11_setValues_181 : decode cX11_setValues 181 = .ok (.invokevirtual 584, 3) := by decide +kernel
theorem dX11_setValues_184 : decode cX11_setValues 184 = .ok (.iconst 0, 1) := by decide +kernel
theorem dX11_setValues_185 : decode cX11_setValues 185 = .ok (.ireturn, 1) := by decide +kernel
set_option maxRecDepth 100000 in
set_option maxHeartbeats 4000000 in
theorem c_X11_setValues (l : Launch) (D : va_G) (t : Nat → ClassId) (G : GE) (κ : CS) (h : Nat) (a1 : Option Nat) (a2 : Option Nat) (a3 : Int32) (post : Int32 → CS → Prop) (hw : F_X11_setValues G h a1 a2 a3 post κ) (sz : Nat) : CMi l D t yX11_setValues cX11_setValues 14 (some .int) 5 130 G κ sz [.ref h, va_rf a1, va_rf a2, .int a3] post := by
  refine c_go (by decide) (by cases a1 <;> cases a2 <;> exact Nat.le_of_ble_eq_true rfl) ?_
  intro p e s m below meth c ls A hF hr hlk hin hAe hH hA hE hl
  unfold cB
  rw [hAe]
  clear hAe
  have hF : FX p m c cX11_setValues 14 s _ RX11 D t := hF
  have hx := hF.1.1
  have hb := hF.1.2.1
  have hl : lv_has ls 14 [(0, .ref h), (1, va_rf a1), (2, va_rf a2), (3, .int a3)] := (by have h2 := hl; clear hw; revert h2; cases a1 <;> cases a2 <;> exact id)
  unfold F_X11_setValues at hw
  refine w_aloadq_n hF dX11_setValues_0 rfl (lv_at hl 1 rfl) ?_
  refine lv_iload_n hx hb dX11_setValues_1 rfl (lv_at hl 3 rfl) ?_
  refine lv_bipush (v := 8) hx hb dX11_setValues_2 (by decide) ?_
  refine cw_cVlq (q := a1) (As := [.int a3, .int 8]) (rest := []) hF hH hA hE mv_X11_394 ci_X0 (by decide) hw (fun b hw sz => c_X0_number l D t G _ b a3 8 _ hw sz) dX11_setValues_4 ⟨Nat.le_of_ble_eq_true rfl, Nat.le_of_ble_eq_true rfl⟩ rfl hl.1 (Nat.le_of_ble_eq_true rfl) rfl (fun z2 κ1 H locs cells slots hw hH => ?_)
  refine lv_lstore (lv' := [(4, .long z2), (0, .ref h), (1, va_rf a1), (2, va_rf a2), (3, .int a3)]) hx hb dX11_setValues_7 hl (by decide) rfl (fun ls hl => ?_)
  refine w_aloadq_n hF dX11_setValues_9 rfl (lv_at hl 2 rfl) ?_
  refine lv_iload_n hx hb dX11_setValues_10 rfl (lv_at hl 4 rfl) ?_
  refine lv_bipush (v := 8) hx hb dX11_setValues_11 (by decide) ?_
  refine lv_iadd hx hb dX11_setValues_13 ?_
  refine w_nmi hw (fun z3 hw => ?_)
  refine lv_bipush (v := 8) hx hb dX11_setValues_14 (by decide) ?_
  refine cw_cVlq (q := a1) (As := [.int z3, .int 8]) (rest := []) hF hH hA hE mv_X11_394 ci_X0 (by decide) hw (fun b hw sz => c_X0_number l D t G _ b z3 8 _ hw sz) dX11_setValues_16 ⟨Nat.le_of_ble_eq_true rfl, Nat.le_of_ble_eq_true rfl⟩ rfl hl.1 (Nat.le_of_ble_eq_true rfl) rfl (fun z5 κ4 H locs cells slots hw hH => ?_)
  refine lv_lstore (lv' := [(6, .long z5), (4, .long z2), (0, .ref h), (1, va_rf a1), (2, va_rf a2), (3, .int a3)]) hx hb dX11_setValues_19 hl (by decide) rfl (fun ls hl => ?_)
  refine w_aloadq_n hF dX11_setValues_21 rfl (lv_at hl 3 rfl) ?_
  refine lv_iload_n hx hb dX11_setValues_22 rfl (lv_at hl 5 rfl) ?_
  refine lv_bipush (v := 16) hx hb dX11_setValues_23 (by decide) ?_
  refine lv_iadd hx hb dX11_setValues_25 ?_
  refine w_nmi hw (fun z6 hw => ?_)
  refine lv_bipush (v := 8) hx hb dX11_setValues_26 (by decide) ?_
  refine cw_cVlq (q := a1) (As := [.int z6, .int 8]) (rest := []) hF hH hA hE mv_X11_394 ci_X0 (by decide) hw (fun b hw sz => c_X0_number l D t G _ b z6 8 _ hw sz) dX11_setValues_28 ⟨Nat.le_of_ble_eq_true rfl, Nat.le_of_ble_eq_true rfl⟩ rfl hl.1 (Nat.le_of_ble_eq_true rfl) rfl (fun z8 κ7 H locs cells slots hw hH => ?_)
  refine lv_lstore (lv' := [(8, .long z8), (6, .long z5), (4, .long z2), (0, .ref h), (1, va_rf a1), (2, va_rf a2), (3, .int a3)]) hx hb dX11_setValues_31 hl (by decide) rfl (fun ls hl => ?_)
  refine w_aloadq_n hF dX11_setValues_33 rfl (lv_at hl 4 rfl) ?_
  refine lv_iload_n hx hb dX11_setValues_34 rfl (lv_at hl 6 rfl) ?_
  refine lv_bipush (v := 24) hx hb dX11_setValues_35 (by decide) ?_
  refine lv_iadd hx hb dX11_setValues_37 ?_
  refine w_nmi hw (fun z9 hw => ?_)
  refine lv_bipush (v := 8) hx hb dX11_setValues_38 (by decide) ?_
  refine cw_cVlq (q := a1) (As := [.int z9, .int 8]) (rest := []) hF hH hA hE mv_X11_394 ci_X0 (by decide) hw (fun b hw sz => c_X0_number l D t G _ b z9 8 _ hw sz) dX11_setValues_40 ⟨Nat.le_of_ble_eq_true rfl, Nat.le_of_ble_eq_true rfl⟩ rfl hl.1 (Nat.le_of_ble_eq_true rfl) rfl (fun z11 κ10 H locs cells slots hw hH => ?_)
  refine lv_lstore (lv' := [(10, .long z11), (8, .long z8), (6, .long z5), (4, .long z2), (0, .ref h), (1, va_rf a1), (2, va_rf a2), (3, .int a3)]) hx hb dX11_setValues_43 hl (by decide) rfl (fun ls hl => ?_)
  refine w_aloadq_n hF dX11_setValues_45 rfl (lv_at hl 5 rfl) ?_
  refine lv_iload_n hx hb dX11_setValues_46 rfl (lv_at hl 7 rfl) ?_
  refine lv_bipush (v := 32) hx hb dX11_setValues_47 (by decide) ?_
  refine lv_iadd hx hb dX11_setValues_49 ?_
  refine w_nmi hw (fun z12 hw => ?_)
  refine lv_iconst (v := 4) hx hb dX11_setValues_50 (by decide) ?_
  refine cw_cVlq (q := a1) (As := [.int z12, .int 4]) (rest := []) hF hH hA hE mv_X11_394 ci_X0 (by decide) hw (fun b hw sz => c_X0_number l D t G _ b z12 4 _ hw sz) dX11_setValues_51 ⟨Nat.le_of_ble_eq_true rfl, Nat.le_of_ble_eq_true rfl⟩ rfl hl.1 (Nat.le_of_ble_eq_true rfl) rfl (fun z14 κ13 H locs cells slots hw hH => ?_)
  refine lv_l2i hx hb dX11_setValues_54 rfl ?_
  refine w_nmi hw (fun z15 hw => ?_)
  refine lv_istore (lv' := [(12, .int z15), (10, .long z11), (8, .long z8), (6, .long z5), (4, .long z2), (0, .ref h), (1, va_rf a1), (2, va_rf a2), (3, .int a3)]) hx hb dX11_setValues_55 hl (by decide) rfl (fun ls hl => ?_)
  refine lv_aload_n hx hb dX11_setValues_57 rfl (lv_at hl 5 rfl) ?_
  refine lv_iconst (v := 3) hx hb dX11_setValues_58 (by decide) ?_
  refine w_aloadq_n hF dX11_setValues_59 rfl (lv_at hl 7 rfl) ?_
  refine cw_getP (q := a2) hF hH fk_X11_564 dX11_setValues_60 hw (fun z16 hw => ?_)
  refine cw_cVq (b := h) (As := [.int 3, va_rf z16]) (rest := []) hF hH hA hE mv_X11_234 ci_X11 (by decide) (fun sz => c_X11_nextChange l D t G _ h 3 z16 _ hw.2 sz) dX11_setValues_63 hw.1 ⟨Nat.le_of_ble_eq_true rfl, Nat.le_of_ble_eq_true rfl⟩ rfl hl.1 (Nat.le_of_ble_eq_true rfl) rfl (fun z18 κ17 H locs cells slots hw hH => ?_)
  refine w_astoreq (lv' := [(13, va_rf z18), (12, .int z15), (10, .long z11), (8, .long z8), (6, .long z5), (4, .long z2), (0, .ref h), (1, va_rf a1), (2, va_rf a2), (3, .int a3)]) hF dX11_setValues_66 hl (by decide) rfl (fun ls hl => ?_)
  refine w_aloadq hF dX11_setValues_68 (lv_at hl 0 rfl) ?_
  refine lv_lload hx hb dX11_setValues_70 (lv_at hl 5 rfl) ?_
  refine lv_lconst (v := 0) hx hb dX11_setValues_72 (by decide) ?_
  obtain ⟨K21, hK22, hw⟩ := jc_open hw
  refine cw_join (K := K21) 87 (fun (x19 : Int64) => [(13, va_rf z18), (12, .int z15), (10, .long z11), (8, .long z8), (6, .long z5), (0, .ref h)]) (fun (x19 : Int64) => [.long x19, va_rf z18]) hl hH (fun x19 κ20 ls H locs cells slots hl hw hH => ?_) (fun jn23 => ?_)
  · have hw := hK22 x19 κ20 hw
    have hl : lv_has ls 14 [(13, va_rf z18), (12, .int z15), (10, .long z11), (8, .long z8), (6, .long z5), (0, .ref h)] := hl
    refine cw_putJ (q := z18) (v := x19) hF hH fk_X11_952 dX11_setValues_87 rfl rfl rfl hw (fun κ24 H locs cells slots hw hH => ?_)
    refine w_aloadq hF dX11_setValues_90 (lv_at hl 0 rfl) ?_
    refine lv_lload hx hb dX11_setValues_92 (lv_at hl 4 rfl) ?_
    refine lv_lconst (v := 0) hx hb dX11_setValues_94 (by decide) ?_
    obtain ⟨K27, hK28, hw⟩ := jc_open hw
    refine cw_join (K := K27) 109 (fun (x25 : Int64) => [(13, va_rf z18), (12, .int z15), (10, .long z11), (8, .long z8), (0, .ref h)]) (fun (x25 : Int64) => [.long x25, va_rf z18]) hl hH (fun x25 κ26 ls H locs cells slots hl hw hH => ?_) (fun jn29 => ?_)
    · have hw := hK28 x25 κ26 hw
      have hl : lv_has ls 14 [(13, va_rf z18), (12, .int z15), (10, .long z11), (8, .long z8), (0, .ref h)] := hl
      refine cw_putJ (q := z18) (v := x25) hF hH fk_X11_955 dX11_setValues_109 rfl rfl rfl hw (fun κ30 H locs cells slots hw hH => ?_)
      refine w_aloadq hF dX11_setValues_112 (lv_at hl 0 rfl) ?_
      refine lv_lload hx hb dX11_setValues_114 (lv_at hl 3 rfl) ?_
      refine lv_lconst (v := 0) hx hb dX11_setValues_116 (by decide) ?_
      obtain ⟨K33, hK34, hw⟩ := jc_open hw
      refine cw_join (K := K33) 131 (fun (x31 : Int64) => [(13, va_rf z18), (12, .int z15), (10, .long z11), (0, .ref h)]) (fun (x31 : Int64) => [.long x31, va_rf z18]) hl hH (fun x31 κ32 ls H locs cells slots hl hw hH => ?_) (fun jn35 => ?_)
      · have hw := hK34 x31 κ32 hw
        have hl : lv_has ls 14 [(13, va_rf z18), (12, .int z15), (10, .long z11), (0, .ref h)] := hl
        refine cw_putJ (q := z18) (v := x31) hF hH fk_X11_736 dX11_setValues_131 rfl rfl rfl hw (fun κ36 H locs cells slots hw hH => ?_)
        refine w_aloadq hF dX11_setValues_134 (lv_at hl 0 rfl) ?_
        refine lv_lload hx hb dX11_setValues_136 (lv_at hl 2 rfl) ?_
        refine lv_lconst (v := 0) hx hb dX11_setValues_138 (by decide) ?_
        obtain ⟨K39, hK40, hw⟩ := jc_open hw
        refine cw_join (K := K39) 152 (fun (x37 : Int64) => [(13, va_rf z18), (12, .int z15), (0, .ref h)]) (fun (x37 : Int64) => [.long x37, va_rf z18]) hl hH (fun x37 κ38 ls H locs cells slots hl hw hH => ?_) (fun jn41 => ?_)
        · have hw := hK40 x37 κ38 hw
          have hl : lv_has ls 14 [(13, va_rf z18), (12, .int z15), (0, .ref h)] := hl
          refine cw_putJ (q := z18) (v := x37) hF hH fk_X11_739 dX11_setValues_152 rfl rfl rfl hw (fun κ42 H locs cells slots hw hH => ?_)
          refine w_aloadq hF dX11_setValues_155 (lv_at hl 0 rfl) ?_
          refine lv_iload hx hb dX11_setValues_157 (lv_at hl 1 rfl) ?_
          obtain ⟨K45, hK46, hw⟩ := jc_open hw
          refine cw_join (K := K45) 175 (fun (x43 : Int32) => [(13, va_rf z18), (0, .ref h)]) (fun (x43 : Int32) => [.int x43, va_rf z18]) hl hH (fun x43 κ44 ls H locs cells slots hl hw hH => ?_) (fun jn47 => ?_)
          · have hw := hK46 x43 κ44 hw
            have hl : lv_has ls 14 [(13, va_rf z18), (0, .ref h)] := hl
            refine cw_putI (q := z18) (v := x43) hF hH fk_X11_743 dX11_setValues_175 rfl rfl rfl hw (fun κ48 H locs cells slots hw hH => ?_)
            refine lv_aload_n hx hb dX11_setValues_178 rfl (lv_at hl 1 rfl) ?_
            refine w_aloadq hF dX11_setValues_179 (lv_at hl 0 rfl) ?_
            refine cw_cVv (b := h) (As := [va_rf z18]) (rest := []) hF hH hA hE mv_X11_584 ci_X11 (by decide) (fun sz => c_X11_done l D t G _ h z18 _ hw.2 sz) dX11_setValues_181 hw.1 ⟨Nat.le_of_ble_eq_true rfl, Nat.le_of_ble_eq_true rfl⟩ rfl hl.1 (Nat.le_of_ble_eq_true rfl) rfl (fun κ49 H locs cells slots hw hH => ?_)
            refine lv_iconst (v := 0) hx hb dX11_setValues_184 (by decide) ?_
            exact cw_reti hF hH ⟨rfl, rfl⟩ hr rfl hlk dX11_setValues_185 hw
          · skip
            refine w_if_ne (tgt := 170) hF dX11_setValues_159 rfl hw (fun hw => ?_) (fun hw => ?_)
            · refine lv_iload hx hb dX11_setValues_170 (lv_at hl 1 rfl) ?_
              refine lv_bipush (v := 39) hx hb dX11_setValues_172 (by decide) ?_
              refine lv_iand hx hb dX11_setValues_174 ?_
              refine w_nmi hw (fun z51 hw => ?_)
              have hl : lv_has ls 14 [(13, va_rf z18), (0, .ref h)] := lv_sub hl [0, 2] rfl
              exact jn47 z51 κ42 ls _ _ _ _ hl hw hH
            · refine w_aloadq hF dX11_setValues_162 (lv_at hl 0 rfl) ?_
              refine cw_getI (q := z18) hF hH fk_X11_743 dX11_setValues_164 hw (fun z52 hw => ?_)
              refine lv_goto (tgt := 175) hx hb dX11_setValues_167 rfl ?_
              have hl : lv_has ls 14 [(13, va_rf z18), (0, .ref h)] := lv_sub hl [0, 2] rfl
              exact jn47 z52 κ42 ls _ _ _ _ hl hw hH
        · skip
          refine w_lif_ne (tgt := 150) hF dX11_setValues_139 dX11_setValues_140 rfl hw (fun hw => ?_) (fun hw => ?_)
          · refine lv_lload hx hb dX11_setValues_150 (lv_at hl 2 rfl) ?_
            have hl : lv_has ls 14 [(13, va_rf z18), (12, .int z15), (0, .ref h)] := lv_sub hl [0, 1, 3] rfl
            exact jn41 z11 κ36 ls _ _ _ _ hl hw hH
          · refine lv_aload_n hx hb dX11_setValues_143 rfl (lv_at hl 3 rfl) ?_
            refine cw_getJr (a := h) hF hH fk_X11_157 dX11_setValues_144 hw (fun z53 hw => ?_)
            refine lv_goto (tgt := 152) hx hb dX11_setValues_147 rfl ?_
            have hl : lv_has ls 14 [(13, va_rf z18), (12, .int z15), (0, .ref h)] := lv_sub hl [0, 1, 3] rfl
            exact jn41 z53 κ36 ls _ _ _ _ hl hw hH
      · skip
        refine w_lif_ne (tgt := 129) hF dX11_setValues_117 dX11_setValues_118 rfl hw (fun hw => ?_) (fun hw => ?_)
        · refine lv_lload hx hb dX11_setValues_129 (lv_at hl 3 rfl) ?_
          have hl : lv_has ls 14 [(13, va_rf z18), (12, .int z15), (10, .long z11), (0, .ref h)] := lv_sub hl [0, 1, 2, 4] rfl
          exact jn35 z8 κ30 ls _ _ _ _ hl hw hH
        · refine w_aloadq hF dX11_setValues_121 (lv_at hl 0 rfl) ?_
          refine cw_getJ (q := z18) hF hH fk_X11_736 dX11_setValues_123 hw (fun z54 hw => ?_)
          refine lv_goto (tgt := 131) hx hb dX11_setValues_126 rfl ?_
          have hl : lv_has ls 14 [(13, va_rf z18), (12, .int z15), (10, .long z11), (0, .ref h)] := lv_sub hl [0, 1, 2, 4] rfl
          exact jn35 z54 κ30 ls _ _ _ _ hl hw hH
    · skip
      refine w_lif_ne (tgt := 107) hF dX11_setValues_95 dX11_setValues_96 rfl hw (fun hw => ?_) (fun hw => ?_)
      · refine lv_lload hx hb dX11_setValues_107 (lv_at hl 4 rfl) ?_
        have hl : lv_has ls 14 [(13, va_rf z18), (12, .int z15), (10, .long z11), (8, .long z8), (0, .ref h)] := lv_sub hl [0, 1, 2, 3, 5] rfl
        exact jn29 z5 κ24 ls _ _ _ _ hl hw hH
      · refine w_aloadq hF dX11_setValues_99 (lv_at hl 0 rfl) ?_
        refine cw_getJ (q := z18) hF hH fk_X11_955 dX11_setValues_101 hw (fun z55 hw => ?_)
        refine lv_goto (tgt := 109) hx hb dX11_setValues_104 rfl ?_
        have hl : lv_has ls 14 [(13, va_rf z18), (12, .int z15), (10, .long z11), (8, .long z8), (0, .ref h)] := lv_sub hl [0, 1, 2, 3, 5] rfl
        exact jn29 z55 κ24 ls _ _ _ _ hl hw hH
  · skip
    refine w_lif_ne (tgt := 85) hF dX11_setValues_73 dX11_setValues_74 rfl hw (fun hw => ?_) (fun hw => ?_)
    · refine lv_lload hx hb dX11_setValues_85 (lv_at hl 5 rfl) ?_
      have hl : lv_has ls 14 [(13, va_rf z18), (12, .int z15), (10, .long z11), (8, .long z8), (6, .long z5), (0, .ref h)] := lv_sub hl [0, 1, 2, 3, 4, 6] rfl
      exact jn23 z2 κ17 ls _ _ _ _ hl hw hH
    · refine w_aloadq hF dX11_setValues_77 (lv_at hl 0 rfl) ?_
      refine cw_getJ (q := z18) hF hH fk_X11_952 dX11_setValues_79 hw (fun z56 hw => ?_)
      refine lv_goto (tgt := 87) hx hb dX11_setValues_82 rfl ?_
      have hl : lv_has ls 14 [(13, va_rf z18), (12, .int z15), (10, .long z11), (8, .long z8), (6, .long z5), (0, .ref h)] := lv_sub hl [0, 1, 2, 3, 4, 6] rfl
      exact jn23 z56 κ17 ls _ _ _ _ hl hw hH
set_option maxRecDepth 100000 in
def F_X11_setSize (G : GE) (h : Nat) (a1 : Option Nat) (a2 : Int64) (post : Int32 → CS → Prop) (κ : CS) : Prop := ∃ b : Nat, a1 = some b ∧ (b ∈ sL κ.1 ∧ sK κ.1 b = 10) ∧ ∀ z1 : Option Nat, z1 = sP κ.1 b 2 → F_X11_below G a2 4097 (fun (z3 : Int32) (κ2 : CS) => ((¬ z3.toInt = 0) → ∃ b : Nat, z1 = some b ∧ (b ∈ sL κ2.1 ∧ sK κ2.1 b = 5) ∧ ∀ z4 : Int32, z4 = sI κ2.1 b 2 → ((z4.toInt = 0) → ∃ b : Nat, z1 = some b ∧ (b ∈ sL κ2.1 ∧ sK κ2.1 b = 5) ∧ ∀ z5 : Int32, z5 = sI κ2.1 b 12 → ∀ z6 : Int64, z6 = (z5 : Int32).toInt64 → ∀ z8 : Int64, z8.toInt = min a2.toInt z6.toInt → ∃ b : Nat, z1 = some b ∧ (b ∈ sL κ2.1 ∧ sK κ2.1 b = 5) ∧ ∀ z9 : Int32, z9 = sI κ2.1 b 12 → ∀ z10 : Int64, z10 = (z9 : Int32).toInt64 → ∀ z11 : Int64, z11 = a2 - z10 → ∀ z13 : Int64, z13 = (if 0 < z11 then z11 else -z11) → (h ∈ sL κ2.1 ∧ sK κ2.1 h = 1) ∧ F_X11_othersLock G h a1 z8 z13 1 (fun (z15 : Int32) (κ14 : CS) => ((z15.toInt = 0) → (h ∈ sL κ14.1 ∧ sK κ14.1 h = 1) ∧ F_X11_nextChange G h 2 z1 (fun (z17 : Option Nat) (κ16 : CS) => ∀ z18 : Int32, z18 = (a2 : Int64).toInt32 → ∃ b : Nat, z17 = some b ∧ (b ∈ sL κ16.1 ∧ sK κ16.1 b = 4) ∧ ∀ κ19 : CS, κ19 = (h_uI κ16.1 b 11 z18, κ16.2) → (h ∈ sL κ19.1 ∧ sK κ19.1 h = 1) ∧ ∀ z20 : Int64, z20 = sJ κ19.1 h 7 → ∃ b : Nat, z17 = some b ∧ (b ∈ sL κ19.1 ∧ sK κ19.1 b = 4) ∧ ∀ κ21 : CS, κ21 = (h_uJ κ19.1 b 9 z20, κ19.2) → (h ∈ sL κ21.1 ∧ sK κ21.1 h = 1) ∧ ∀ z22 : Int64, z22 = sJ κ21.1 h 7 → ∃ b : Nat, z17 = some b ∧ (b ∈ sL κ21.1 ∧ sK κ21.1 b = 4) ∧ ∀ κ23 : CS, κ23 = (h_uJ κ21.1 b 10 z22, κ21.2) → (h ∈ sL κ23.1 ∧ sK κ23.1 h = 1) ∧ F_X11_done G h z17 (fun (κ24 : CS) => (h ∈ sL κ24.1 ∧ sK κ24.1 h = 1) ∧ F_X11_breakLevelTwo G h z1 a1 (fun (κ26 : CS) => post 0 κ26) κ24) κ23) κ14) ∧ ((¬ z15.toInt = 0) → post (-1073741740) κ14)) κ2) ∧ ((¬ z4.toInt = 0) → post (-1073741638) κ2)) ∧ ((z3.toInt = 0) → post (-1073741697) κ2)) κ
theorem dX11_setSize_0 : decode cX11_setSize 0 = .ok (.aload_n 1, 1) := by decide +kernel
theorem dX11_setSize_1 : decode cX11_setSize 1 = .ok (.getfield 564, 3) := by decide +kernel
theorem dX11_setSize_4 : decode cX11_setSize 4 = .ok (.astore 4, 2) := by decide +kernel
theorem dX11_setSize_6 : decode cX11_setSize 6 = .ok (.lload_n 2, 1) := by decide +kernel
theorem dX11_setSize_7 : decode cX11_setSize 7 = .ok (.ldc2_w 812, 3) := by decide +kernel
theorem dX11_setSize_10 : decode cX11_setSize 10 = .ok (.invokestatic 790, 3) := by decide +kernel
theorem dX11_setSize_13 : decode cX11_setSize 13 = .ok (.ifCond .ne 7, 3) := by decide +kernel
theorem dX11_setSize_16 : decode cX11_setSize 16 = .ok (.ldc_w 707, 3) := by decide +kernel
theorem dX11_setSize_19 : decode cX11_setSize 19 = .ok (.ireturn, 1) := by decide +kernel
theorem dX11_setSize_20 : decode cX11_setSize 20 = .ok (.aload 4, 2) := by decide +kernel
theorem dX11_setSize_22 : decode cX11_setSize 22 = .ok (.getfield 577, 3) := by decide +kernel
theorem dX11_setSize_25 : decode cX11_setSize 25 = .ok (.ifCond .eq 7, 3) := by decide +kernel
theorem dX11_setSize_28 : decode cX11_setSize 28 = .ok (.ldc_w 750, 3) := by decide +kernel
theorem dX11_setSize_31 : decode cX11_setSize 31 = .ok (.ireturn, 1) := by decide +kernel
theorem dX11_setSize_32 : decode cX11_setSize 32 = .ok (.aload_n 0, 1) := by decide +kernel
theorem dX11_setSize_33 : decode cX11_setSize 33 = .ok (.aload_n 1, 1) := by decide +kernel
theorem dX11_setSize_34 : decode cX11_setSize 34 = .ok (.lload_n 2, 1) := by decide +kernel
theorem dX11_setSize_35 : decode cX11_setSize 35 = .ok (.aload 4, 2) := by decide +kernel
theorem dX11_setSize_37 : decode cX11_setSize 37 = .ok (.getfield 789, 3) := by decide +kernel
theorem dX11_setSize_40 : decode cX11_setSize 40 = .ok (.i2l, 1) := by decide +kernel
theorem dX11_setSize_41 : decode cX11_setSize 41 = .ok (.invokestatic 794, 3) := by decide +kernel
theorem dX11_setSize_44 : decode cX11_setSize 44 = .ok (.lload_n 2, 1) := by decide +kernel
theorem dX11_setSize_45 : decode cX11_setSize 45 = .ok (.aload 4, 2) := by decide +kernel
theorem dX11_setSize_47 : decode cX11_setSize 47 = .ok (.getfield 789, 3) := by decide +kernel
theorem dX11_setSize_50 : decode cX11_setSize 50 = .ok (.i2l, 1) := by decide +kernel
theorem dX11_setSize_51 : decode cX11_setSize 51 = .ok (.lsub, 1) := by decide +kernel
theorem dX11_setSize_52 : decode cX11_setSize 52 = .ok (.invokestatic 958, 3) := by decide +kernel
theorem dX11_setSize_55 : decode cX11_setSize 55 = .ok (.iconst 1, 1) := by decide +kernel
theorem dX11_setSize_56 : decode cX11_setSize 56 = .ok (.invokevirtual 784, 3) := by decide +kernel
theorem dX11_setSize_59 : decode cX11_setSize 59 = .ok (.ifCond .eq 7, 3) := by decide +kernel
theorem dX11_setSize_62 : decode cX11_setSize 62 = .ok (.ldc_w 788, 3) := by decide +kernel
theorem dX11_setSize_65 : decode cX11_setSize 65 = .ok (.ireturn, 1) := by decide +kernel
theorem dX11_setSize_66 : decode cX11_setSize 66 = .ok (.aload_n 0, 1) := by decide +kernel
theorem dX11_setSize_67 : decode cX11_setSize 67 = .ok (.iconst 2, 1) := by decide +kernel
theorem dX11_setSize_68 : decode cX11_setSize 68 = .ok (.aload 4, 2) := by decide +kernel
theorem dX11_setSize_70 : decode cX11_setSize 70 = .ok (.invokevirtual 234, 3) := by decide +kernel
theorem dX11_setSize_73 : decode cX11_setSize 73 = .ok (.astore 5, 2) := by decide +kernel
theorem dX11_setSize_75 : decode cX11_setSize 75 = .ok (.aload 5, 2) := by decide +kernel
theorem dX11_setSize_77 : decode cX11_setSize 77 = .ok (.lload_n 2, 1) := by decide +kernel
theorem dX11_setSize_78 : decode cX11_setSize 78 = .ok (.l2i, 1) := by decide +kernel
theorem dX11_setSize_79 : decode cX11_setSize 79 = .ok (.putfield 734, 3) := by decide +kernel
theorem dX11_setSize_82 : decode cX11_setSize 82 = .ok (.aload 5, 2) := by decide +kernel
theorem dX11_setSize_84 : decode cX11_setSize 84 = .ok (.aload_n 0, 1) := by decide +kernel
theorem dX11_setSize_85 : decode cX11_setSize 85 = .ok (.getfield 157, 3) := by decide +kernel
theorem dX11_setSize_88 : decode cX11_setSize 88 = .ok (.putfield 736, 3) := by decide +kernel
theorem dX11_setSize_91 : decode cX11_setSize 91 = .ok (.aload 5, 2) := by decide +kernel
theorem dX11_setSize_93 : decode cX11_setSize 93 = .ok (.aload_n 0, 1) := by decide +kernel
theorem dX11_setSize_94 : decode cX11_setSize 94 = .ok (.getfield 157, 3) := by decide +kernel
theorem dX11_setSize_97 : decode cX11_setSize 97 = .ok (.putfield 739, 3) := by decide +kernel
theorem dX11_setSize_100 : decode cX11_setSize 100 = .ok (.aload_n 0, 1) := by decide +kernel
theorem dX11_setSize_101 : decode cX11_setSize 101 = .ok (.aload 5, 2) := by decide +kernel
theorem dX11_setSize_103 : decode cX11_setSize 103 = .ok (.invokevirtual 584, 3) := by decide +kernel
theorem dX11_setSize_106 : decode cX11_setSize 106 = .ok (.aload_n 0, 1) := by decide +kernel
theorem dX11_setSize_107 : decode cX11_setSize 107 = .ok (.aload 4, 2) := by decide +kernel
theorem dX11_setSize_109 : decode cX11_setSize 109 = .ok (.aload_n 1, 1) := by decide +kernel
theorem dX11_setSize_110 : decode cX11_setSize 110 = .ok (.invokevirtual 744, 3) := by decide +kernel
theorem dX11_setSize_113 : decode cX11_setSize 113 = .ok (.iconst 0, 1) := by decide +kernel
theorem dX11_setSize_114 : decode cX11_setSize 114 = .ok (.ireturn, 1) := by decide +kernel
set_option maxRecDepth 100000 in
set_option maxHeartbeats 4000000 in
theorem c_X11_setSize (l : Launch) (D : va_G) (t : Nat → ClassId) (G : GE) (κ : CS) (h : Nat) (a1 : Option Nat) (a2 : Int64) (post : Int32 → CS → Prop) (hw : F_X11_setSize G h a1 a2 post κ) (sz : Nat) : CMi l D t yX11_setSize cX11_setSize 6 (some .int) 5 131 G κ sz [.ref h, va_rf a1, .long a2] post := by
  refine c_go (by decide) (by cases a1 <;> exact Nat.le_of_ble_eq_true rfl) ?_
  intro p e s m below meth c ls A hF hr hlk hin hAe hH hA hE hl
  unfold cB
  rw [hAe]
  clear hAe
  have hF : FX p m c cX11_setSize 6 s _ RX11 D t := hF
  have hx := hF.1.1
  have hb := hF.1.2.1
  have hl : lv_has ls 6 [(0, .ref h), (1, va_rf a1), (2, .long a2)] := (by have h2 := hl; clear hw; revert h2; cases a1 <;> exact id)
  unfold F_X11_setSize at hw
  refine w_aloadq_n hF dX11_setSize_0 rfl (lv_at hl 1 rfl) ?_
  refine cw_getP (q := a1) hF hH fk_X11_564 dX11_setSize_1 hw (fun z1 hw => ?_)
  refine w_astoreq (lv' := [(4, va_rf z1), (0, .ref h), (1, va_rf a1), (2, .long a2)]) hF dX11_setSize_4 hl (by decide) rfl (fun ls hl => ?_)
  refine lv_lload_n hx hb dX11_setSize_6 rfl (lv_at hl 3 rfl) ?_
  refine lv_ldc2 (v := 4097) hx hb hF.1.2.2.2.1 (hF.1.2.2.2.2 _ (wc_31 37 rfl)) dX11_setSize_7 ?_
  refine cw_cSi (As := [.long a2, .long 4097]) (rest := []) hF hH hA hE ms_X11_790 (fun sz => c_X11_below l D t G _ a2 4097 _ hw sz) dX11_setSize_10 ⟨Nat.le_of_ble_eq_true rfl, Nat.le_of_ble_eq_true rfl⟩ rfl hl.1 (Nat.le_of_ble_eq_true rfl) rfl (fun z3 κ2 H locs cells slots hw hH => ?_)
  refine w_if_ne (tgt := 20) hF dX11_setSize_13 rfl hw (fun hw => ?_) (fun hw => ?_)
  · refine w_aloadq hF dX11_setSize_20 (lv_at hl 0 rfl) ?_
    refine cw_getI (q := z1) hF hH fk_X11_577 dX11_setSize_22 hw (fun z4 hw => ?_)
    refine w_if_eq (tgt := 32) hF dX11_setSize_25 rfl hw (fun hw => ?_) (fun hw => ?_)
    · refine lv_aload_n hx hb dX11_setSize_32 rfl (lv_at hl 1 rfl) ?_
      refine w_aloadq_n hF dX11_setSize_33 rfl (lv_at hl 2 rfl) ?_
      refine lv_lload_n hx hb dX11_setSize_34 rfl (lv_at hl 3 rfl) ?_
      refine w_aloadq hF dX11_setSize_35 (lv_at hl 0 rfl) ?_
      refine cw_getI (q := z1) hF hH fk_X11_789 dX11_setSize_37 hw (fun z5 hw => ?_)
      refine lv_i2l hx hb dX11_setSize_40 rfl ?_
      refine w_nml hw (fun z6 hw => ?_)
      refine cw_mminl hF hH hl.1 (wc_31 25 rfl) (wc_20 8 rfl) (wc_5 5 rfl) (wc_20 7 rfl) (Nat.le_of_ble_eq_true rfl) (by simp only [List.map_cons, List.map_nil, cat_rf]; exact Nat.le_of_ble_eq_true rfl) dX11_setSize_41 hw (fun z8 hw => ?_)
      refine lv_lload_n hx hb dX11_setSize_44 rfl (lv_at hl 3 rfl) ?_
      refine w_aloadq hF dX11_setSize_45 (lv_at hl 0 rfl) ?_
      refine cw_getI (q := z1) hF hH fk_X11_789 dX11_setSize_47 hw (fun z9 hw => ?_)
      refine lv_i2l hx hb dX11_setSize_50 rfl ?_
      refine w_nml hw (fun z10 hw => ?_)
      refine lv_lsub hx hb dX11_setSize_51 ?_
      refine w_nml hw (fun z11 hw => ?_)
      refine cw_mabsl hF hH hl.1 (wc_34 16 rfl) (wc_34 18 rfl) (wc_5 5 rfl) (wc_34 17 rfl) (Nat.le_of_ble_eq_true rfl) (by simp only [List.map_cons, List.map_nil, cat_rf]; exact Nat.le_of_ble_eq_true rfl) dX11_setSize_52 hw (fun z13 hw => ?_)
      refine lv_iconst (v := 1) hx hb dX11_setSize_55 (by decide) ?_
      refine cw_cVi (b := h) (As := [va_rf a1, .long z8, .long z13, .int 1]) (rest := []) hF hH hA hE mv_X11_784 ci_X11 (by decide) (fun sz => c_X11_othersLock l D t G _ h a1 z8 z13 1 _ hw.2 sz) dX11_setSize_56 hw.1 ⟨Nat.le_of_ble_eq_true rfl, Nat.le_of_ble_eq_true rfl⟩ rfl hl.1 (Nat.le_of_ble_eq_true rfl) rfl (fun z15 κ14 H locs cells slots hw hH => ?_)
      refine w_if_eq (tgt := 66) hF dX11_setSize_59 rfl hw (fun hw => ?_) (fun hw => ?_)
      · refine lv_aload_n hx hb dX11_setSize_66 rfl (lv_at hl 1 rfl) ?_
        refine lv_iconst (v := 2) hx hb dX11_setSize_67 (by decide) ?_
        refine w_aloadq hF dX11_setSize_68 (lv_at hl 0 rfl) ?_
        refine cw_cVq (b := h) (As := [.int 2, va_rf z1]) (rest := []) hF hH hA hE mv_X11_234 ci_X11 (by decide) (fun sz => c_X11_nextChange l D t G _ h 2 z1 _ hw.2 sz) dX11_setSize_70 hw.1 ⟨Nat.le_of_ble_eq_true rfl, Nat.le_of_ble_eq_true rfl⟩ rfl hl.1 (Nat.le_of_ble_eq_true rfl) rfl (fun z17 κ16 H locs cells slots hw hH => ?_)
        refine w_astoreq (lv' := [(5, va_rf z17), (4, va_rf z1), (0, .ref h), (1, va_rf a1), (2, .long a2)]) hF dX11_setSize_73 hl (by decide) (by generalize z1 = y; cases y <;> rfl) (fun ls hl => ?_)
        refine w_aloadq hF dX11_setSize_75 (lv_at hl 0 rfl) ?_
        refine lv_lload_n hx hb dX11_setSize_77 rfl (lv_at hl 4 rfl) ?_
        refine lv_l2i hx hb dX11_setSize_78 rfl ?_
        refine w_nmi hw (fun z18 hw => ?_)
        refine cw_putI (q := z17) (v := z18) hF hH fk_X11_734 dX11_setSize_79 rfl rfl rfl hw (fun κ19 H locs cells slots hw hH => ?_)
        refine w_aloadq hF dX11_setSize_82 (lv_at hl 0 rfl) ?_
        refine lv_aload_n hx hb dX11_setSize_84 rfl (lv_at hl 2 rfl) ?_
        refine cw_getJr (a := h) hF hH fk_X11_157 dX11_setSize_85 hw (fun z20 hw => ?_)
        refine cw_putJ (q := z17) (v := z20) hF hH fk_X11_736 dX11_setSize_88 rfl rfl rfl hw (fun κ21 H locs cells slots hw hH => ?_)
        refine w_aloadq hF dX11_setSize_91 (lv_at hl 0 rfl) ?_
        refine lv_aload_n hx hb dX11_setSize_93 rfl (lv_at hl 2 rfl) ?_
        refine cw_getJr (a := h) hF hH fk_X11_157 dX11_setSize_94 hw (fun z22 hw => ?_)
        refine cw_putJ (q := z17) (v := z22) hF hH fk_X11_739 dX11_setSize_97 rfl rfl rfl hw (fun κ23 H locs cells slots hw hH => ?_)
        refine lv_aload_n hx hb dX11_setSize_100 rfl (lv_at hl 2 rfl) ?_
        refine w_aloadq hF dX11_setSize_101 (lv_at hl 0 rfl) ?_
        refine cw_cVv (b := h) (As := [va_rf z17]) (rest := []) hF hH hA hE mv_X11_584 ci_X11 (by decide) (fun sz => c_X11_done l D t G _ h z17 _ hw.2 sz) dX11_setSize_103 hw.1 ⟨Nat.le_of_ble_eq_true rfl, Nat.le_of_ble_eq_true rfl⟩ rfl hl.1 (Nat.le_of_ble_eq_true rfl) rfl (fun κ24 H locs cells slots hw hH => ?_)
        refine lv_aload_n hx hb dX11_setSize_106 rfl (lv_at hl 2 rfl) ?_
        refine w_aloadq hF dX11_setSize_107 (lv_at hl 1 rfl) ?_
        refine w_aloadq_n hF dX11_setSize_109 rfl (lv_at hl 3 rfl) ?_
        refine cw_cVv (b := h) (As := [va_rf z1, va_rf a1]) (rest := []) hF hH hA hE mv_X11_744 ci_X11 (by decide) (fun sz => c_X11_breakLevelTwo l D t G _ h z1 a1 _ hw.2 sz) dX11_setSize_110 hw.1 ⟨Nat.le_of_ble_eq_true rfl, Nat.le_of_ble_eq_true rfl⟩ rfl hl.1 (Nat.le_of_ble_eq_true rfl) rfl (fun κ26 H locs cells slots hw hH => ?_)
        refine lv_iconst (v := 0) hx hb dX11_setSize_113 (by decide) ?_
        exact cw_reti hF hH ⟨rfl, rfl⟩ hr rfl hlk dX11_setSize_114 hw
      · refine lv_ldcw (v := (-1073741740)) hx hb hF.1.2.2.2.1 (hF.1.2.2.2.2 _ (wc_31 23 rfl)) dX11_setSize_62 ?_
        exact cw_reti hF hH ⟨rfl, rfl⟩ hr rfl hlk dX11_setSize_65 hw
    · refine lv_ldcw (v := (-1073741638)) hx hb hF.1.2.2.2.1 (hF.1.2.2.2.2 _ (wc_23 13 rfl)) dX11_setSize_28 ?_
      exact cw_reti hF hH ⟨rfl, rfl⟩ hr rfl hlk dX11_setSize_31 hw
  · refine lv_ldcw (v := (-1073741697)) hx hb hF.1.2.2.2.1 (hF.1.2.2.2.2 _ (wc_18 6 rfl)) dX11_setSize_16 ?_
    exact cw_reti hF hH ⟨rfl, rfl⟩ hr rfl hlk dX11_setSize_19 hw
set_option maxRecDepth 100000 in
def F_X11_setToGo (G : GE) (h : Nat) (a1 : Option Nat) (a2 : Int32) (post : Int32 → CS → Prop) (κ : CS) : Prop := jc (fun (K3 : Unit → CS → Prop) => ((a2.toInt = 0) → K3 () κ) ∧ ((¬ a2.toInt = 0) → ∃ b : Nat, a1 = some b ∧ (b ∈ sL κ.1 ∧ sK κ.1 b = 5) ∧ ∀ z17 : Int32, z17 = sI κ.1 b 7 → ∀ z18 : Int32, z18 = z17 &&& 1 → jc (fun (K21 : Unit → CS → Prop) => ((¬ z18.toInt = 0) → K21 () κ) ∧ ((z18.toInt = 0) → ∃ b : Nat, a1 = some b ∧ (b ∈ sL κ.1 ∧ sK κ.1 b = 5) ∧ ∀ z24 : Int32, z24 = sI κ.1 b 4 → ((¬ z24.toInt = ((-1) : Int32).toInt) → K3 () κ) ∧ ((z24.toInt = ((-1) : Int32).toInt) → K21 () κ))) (fun (x19 : Unit) (κ20 : CS) => post (-1073741535) κ20))) (fun (x1 : Unit) (κ2 : CS) => jc (fun (K8 : Unit → CS → Prop) => ((a2.toInt = 0) → K8 () κ2) ∧ ((¬ a2.toInt = 0) → ∃ b : Nat, a1 = some b ∧ (b ∈ sL κ2.1 ∧ sK κ2.1 b = 5) ∧ ∀ z12 : Int32, z12 = sI κ2.1 b 2 → ((z12.toInt = 0) → K8 () κ2) ∧ ((¬ z12.toInt = 0) → (h ∈ sL κ2.1 ∧ sK κ2.1 h = 1) ∧ ∀ z13 : Option Nat, z13 = sP κ2.1 h 3 → ∃ b : Nat, a1 = some b ∧ (b ∈ sL κ2.1 ∧ sK κ2.1 b = 5) ∧ ∀ z14 : Int32, z14 = sI κ2.1 b 0 → ∃ b : Nat, z13 = some b ∧ (b ∈ sL κ2.1 ∧ sK κ2.1 b = 6) ∧ F_X9_holdsAny G b z14 (fun (z16 : Int32) (κ15 : CS) => ((z16.toInt = 0) → K8 () κ15) ∧ ((¬ z16.toInt = 0) → post (-1073741567) κ15)) κ2))) (fun (x6 : Unit) (κ7 : CS) => (0 ≤ a2.toInt ∧ a2.toInt ≤ 1) ∧ ∃ b : Nat, a1 = some b ∧ (b ∈ sL κ7.1 ∧ sK κ7.1 b = 5) ∧ ∀ κ11 : CS, κ11 = (h_uI κ7.1 b 3 a2, κ7.2) → post 0 κ11))
theorem dX11_setToGo_0 : decode cX11_setToGo 0 = .ok (.iload_n 2, 1) := by decide +kernel
theorem dX11_setToGo_1 : decode cX11_setToGo 1 = .ok (.ifCond .eq 24, 3) := by decide +kernel
theorem dX11_setToGo_4 : decode cX11_setToGo 4 = .ok (.aload_n 1, 1) := by decide +kernel
theorem dX11_setToGo_5 : decode cX11_setToGo 5 = .ok (.getfield 742, 3) := by decide +kernel
theorem dX11_setToGo_8 : decode cX11_setToGo 8 = .ok (.iconst 1, 1) := by decide +kernel
theorem dX11_setToGo_9 : decode cX11_setToGo 9 = .ok (.iand, 1) := by decide +kernel
theorem dX11_setToGo_10 : decode cX11_setToGo 10 = .ok (.ifCond .ne 11, 3) := by decide +kernel
theorem dX11_setToGo_13 : decode cX11_setToGo 13 = .ok (.aload_n 1, 1) := by decide +kernel
theorem dX11_setToGo_14 : decode cX11_setToGo 14 = .ok (.getfield 752, 3) := by decide +kernel
theorem dX11_setToGo_17 : decode cX11_setToGo 17 = .ok (.iconst (-1), 1) := by decide +kernel
theorem dX11_setToGo_18 : decode cX11_setToGo 18 = .ok (.if_icmp .ne 7, 3) := by decide +kernel
theorem dX11_setToGo_21 : decode cX11_setToGo 21 = .ok (.ldc_w 755, 3) := by decide +kernel
theorem dX11_setToGo_24 : decode cX11_setToGo 24 = .ok (.ireturn, 1) := by decide +kernel
theorem dX11_setToGo_25 : decode cX11_setToGo 25 = .ok (.iload_n 2, 1) := by decide +kernel
theorem dX11_setToGo_26 : decode cX11_setToGo 26 = .ok (.ifCond .eq 28, 3) := by decide +kernel
theorem dX11_setToGo_29 : decode cX11_setToGo 29 = .ok (.aload_n 1, 1) := by decide +kernel
theorem dX11_setToGo_30 : decode cX11_setToGo 30 = .ok (.getfield 577, 3) := by decide +kernel
theorem dX11_setToGo_33 : decode cX11_setToGo 33 = .ok (.ifCond .eq 21, 3) := by decide +kernel
theorem dX11_setToGo_36 : decode cX11_setToGo 36 = .ok (.aload_n 0, 1) := by decide +kernel
theorem dX11_setToGo_37 : decode cX11_setToGo 37 = .ok (.getfield 29, 3) := by decide +kernel
theorem dX11_setToGo_40 : decode cX11_setToGo 40 = .ok (.aload_n 1, 1) := by decide +kernel
theorem dX11_setToGo_41 : decode cX11_setToGo 41 = .ok (.getfield 248, 3) := by decide +kernel
theorem dX11_setToGo_44 : decode cX11_setToGo 44 = .ok (.invokevirtual 580, 3) := by decide +kernel
theorem dX11_setToGo_47 : decode cX11_setToGo 47 = .ok (.ifCond .eq 7, 3) := by decide +kernel
theorem dX11_setToGo_50 : decode cX11_setToGo 50 = .ok (.ldc_w 962, 3) := by decide +kernel
theorem dX11_setToGo_53 : decode cX11_setToGo 53 = .ok (.ireturn, 1) := by decide +kernel
theorem dX11_setToGo_54 : decode cX11_setToGo 54 = .ok (.aload_n 1, 1) := by decide +kernel
theorem dX11_setToGo_55 : decode cX11_setToGo 55 = .ok (.iload_n 2, 1) := by decide +kernel
theorem dX11_setToGo_56 : decode cX11_setToGo 56 = .ok (.putfield 567, 3) := by decide +kernel
theorem dX11_setToGo_59 : decode cX11_setToGo 59 = .ok (.iconst 0, 1) := by decide +kernel
theorem dX11_setToGo_60 : decode cX11_setToGo 60 = .ok (.ireturn, 1) := by decide +kernel
set_option maxRecDepth 100000 in
set_option maxHeartbeats 4000000 in
theorem c_X11_setToGo (l : Launch) (D : va_G) (t : Nat → ClassId) (G : GE) (κ : CS) (h : Nat) (a1 : Option Nat) (a2 : Int32) (post : Int32 → CS → Prop) (hw : F_X11_setToGo G h a1 a2 post κ) (sz : Nat) : CMi l D t yX11_setToGo cX11_setToGo 3 (some .int) 1 36 G κ sz [.ref h, va_rf a1, .int a2] post := by
  refine c_go (by decide) (by cases a1 <;> exact Nat.le_of_ble_eq_true rfl) ?_
  intro p e s m below meth c ls A hF hr hlk hin hAe hH hA hE hl
  unfold cB
  rw [hAe]
  clear hAe
  have hF : FX p m c cX11_setToGo 3 s _ RX11 D t := hF
  have hx := hF.1.1
  have hb := hF.1.2.1
  have hl : lv_has ls 3 [(0, .ref h), (1, va_rf a1), (2, .int a2)] := (by have h2 := hl; clear hw; revert h2; cases a1 <;> exact id)
  unfold F_X11_setToGo at hw
  refine lv_iload_n hx hb dX11_setToGo_0 rfl (lv_at hl 2 rfl) ?_
  obtain ⟨K3, hK4, hw⟩ := jc_open hw
  refine cw_join (K := K3) 25 (fun (x1 : Unit) => [(2, .int a2), (1, va_rf a1), (0, .ref h)]) (fun (x1 : Unit) => []) hl hH (fun x1 κ2 ls H locs cells slots hl hw hH => ?_) (fun jn5 => ?_)
  · have hw := hK4 x1 κ2 hw
    have hl : lv_has ls 3 [(2, .int a2), (1, va_rf a1), (0, .ref h)] := hl
    refine lv_iload_n hx hb dX11_setToGo_25 rfl (lv_at hl 0 rfl) ?_
    obtain ⟨K8, hK9, hw⟩ := jc_open hw
    refine cw_join (K := K8) 54 (fun (x6 : Unit) => [(2, .int a2), (1, va_rf a1)]) (fun (x6 : Unit) => []) hl hH (fun x6 κ7 ls H locs cells slots hl hw hH => ?_) (fun jn10 => ?_)
    · have hw := hK9 x6 κ7 hw
      have hl : lv_has ls 3 [(2, .int a2), (1, va_rf a1)] := hl
      refine w_aloadq_n hF dX11_setToGo_54 rfl (lv_at hl 1 rfl) ?_
      refine lv_iload_n hx hb dX11_setToGo_55 rfl (lv_at hl 0 rfl) ?_
      refine cw_putZ (q := a1) (v := a2) hF hH fk_X11_567 dX11_setToGo_56 rfl rfl hw (fun κ11 H locs cells slots hw hH => ?_)
      refine lv_iconst (v := 0) hx hb dX11_setToGo_59 (by decide) ?_
      exact cw_reti hF hH ⟨rfl, rfl⟩ hr rfl hlk dX11_setToGo_60 hw
    · skip
      refine w_if_eq (tgt := 54) hF dX11_setToGo_26 rfl hw (fun hw => ?_) (fun hw => ?_)
      · have hl : lv_has ls 3 [(2, .int a2), (1, va_rf a1)] := lv_sub hl [0, 1] rfl
        exact jn10 () κ2 ls _ _ _ _ hl hw hH
      · refine w_aloadq_n hF dX11_setToGo_29 rfl (lv_at hl 1 rfl) ?_
        refine cw_getI (q := a1) hF hH fk_X11_577 dX11_setToGo_30 hw (fun z12 hw => ?_)
        refine w_if_eq (tgt := 54) hF dX11_setToGo_33 rfl hw (fun hw => ?_) (fun hw => ?_)
        · have hl : lv_has ls 3 [(2, .int a2), (1, va_rf a1)] := lv_sub hl [0, 1] rfl
          exact jn10 () κ2 ls _ _ _ _ hl hw hH
        · refine lv_aload_n hx hb dX11_setToGo_36 rfl (lv_at hl 2 rfl) ?_
          refine cw_getPr (a := h) hF hH fk_X11_29 dX11_setToGo_37 hw (fun z13 hw => ?_)
          refine w_aloadq_n hF dX11_setToGo_40 rfl (lv_at hl 1 rfl) ?_
          refine cw_getI (q := a1) hF hH fk_X11_248 dX11_setToGo_41 hw (fun z14 hw => ?_)
          refine cw_cViq (q := z13) (As := [.int z14]) (rest := []) hF hH hA hE mv_X11_580 ci_X9 (by decide) hw (fun b hw sz => c_X9_holdsAny l D t G _ b z14 _ hw sz) dX11_setToGo_44 ⟨Nat.le_of_ble_eq_true rfl, Nat.le_of_ble_eq_true rfl⟩ rfl hl.1 (Nat.le_of_ble_eq_true rfl) rfl (fun z16 κ15 H locs cells slots hw hH => ?_)
          refine w_if_eq (tgt := 54) hF dX11_setToGo_47 rfl hw (fun hw => ?_) (fun hw => ?_)
          · have hl : lv_has ls 3 [(2, .int a2), (1, va_rf a1)] := lv_sub hl [0, 1] rfl
            exact jn10 () κ15 ls _ _ _ _ hl hw hH
          · refine lv_ldcw (v := (-1073741567)) hx hb hF.1.2.2.2.1 (hF.1.2.2.2.2 _ (wc_34 19 rfl)) dX11_setToGo_50 ?_
            exact cw_reti hF hH ⟨rfl, rfl⟩ hr rfl hlk dX11_setToGo_53 hw
  · skip
    refine w_if_eq (tgt := 25) hF dX11_setToGo_1 rfl hw (fun hw => ?_) (fun hw => ?_)
    · have hl : lv_has ls 3 [(2, .int a2), (1, va_rf a1), (0, .ref h)] := lv_sub hl [2, 1, 0] rfl
      exact jn5 () κ ls _ _ _ _ hl hw hH
    · refine w_aloadq_n hF dX11_setToGo_4 rfl (lv_at hl 1 rfl) ?_
      refine cw_getI (q := a1) hF hH fk_X11_742 dX11_setToGo_5 hw (fun z17 hw => ?_)
      refine lv_iconst (v := 1) hx hb dX11_setToGo_8 (by decide) ?_
      refine lv_iand hx hb dX11_setToGo_9 ?_
      refine w_nmi hw (fun z18 hw => ?_)
      obtain ⟨K21, hK22, hw⟩ := jc_open hw
      refine cw_join (K := K21) 21 (fun (x19 : Unit) => []) (fun (x19 : Unit) => []) hl hH (fun x19 κ20 ls H locs cells slots hl hw hH => ?_) (fun jn23 => ?_)
      · have hw := hK22 x19 κ20 hw
        have hl : lv_has ls 3 [] := hl
        refine lv_ldcw (v := (-1073741535)) hx hb hF.1.2.2.2.1 (hF.1.2.2.2.2 _ (wc_23 15 rfl)) dX11_setToGo_21 ?_
        exact cw_reti hF hH ⟨rfl, rfl⟩ hr rfl hlk dX11_setToGo_24 hw
      · skip
        refine w_if_ne (tgt := 21) hF dX11_setToGo_10 rfl hw (fun hw => ?_) (fun hw => ?_)
        · have hl : lv_has ls 3 [] := lv_sub hl [] rfl
          exact jn23 () κ ls _ _ _ _ hl hw hH
        · refine w_aloadq_n hF dX11_setToGo_13 rfl (lv_at hl 1 rfl) ?_
          refine cw_getI (q := a1) hF hH fk_X11_752 dX11_setToGo_14 hw (fun z24 hw => ?_)
          refine lv_iconst (v := (-1)) hx hb dX11_setToGo_17 (by decide) ?_
          refine w_icmp_ne (tgt := 25) hF dX11_setToGo_18 rfl hw (fun hw => ?_) (fun hw => ?_)
          · have hl : lv_has ls 3 [(2, .int a2), (1, va_rf a1), (0, .ref h)] := lv_sub hl [2, 1, 0] rfl
            exact jn5 () κ ls _ _ _ _ hl hw hH
          · have hl : lv_has ls 3 [] := lv_sub hl [] rfl
            exact jn23 () κ ls _ _ _ _ hl hw hH
set_option maxRecDepth 100000 in
def F_X11_isOpenedBelow (G : GE) (h : Nat) (a1 : Option Nat) (post : Int32 → CS → Prop) (κ : CS) : Prop := lc (fun (K3 : Int32 → CS → Prop) (x1 : Int32) (κ2 : CS) => (h ∈ sL κ2.1 ∧ sK κ2.1 h = 1) ∧ ∀ z5 : Option Nat, z5 = sP κ2.1 h 10 → ∃ b : Nat, z5 = some b ∧ (b ∈ sL κ2.1 ∧ sK κ2.1 b = 7) ∧ F_Jx4a65c_size_8abf5 G b  (fun (z7 : Int32) (κ6 : CS) => ((z7.toInt ≤ x1.toInt) → (0 ≤ (0 : Int32).toInt ∧ (0 : Int32).toInt ≤ 1) ∧ post 0 κ6) ∧ ((x1.toInt < z7.toInt) → (h ∈ sL κ6.1 ∧ sK κ6.1 h = 1) ∧ ∀ z8 : Option Nat, z8 = sP κ6.1 h 10 → ∃ b : Nat, z8 = some b ∧ (b ∈ sL κ6.1 ∧ sK κ6.1 b = 7) ∧ F_Jx4a65c_get_915e3 G b x1 (fun (z10 : Option Nat) (κ9 : CS) => (z10 = none ∨ ∃ b : Nat, z10 = some b ∧ b ∈ sL κ9.1 ∧ sK κ9.1 b = 10) ∧ ∃ b : Nat, z10 = some b ∧ (b ∈ sL κ9.1 ∧ sK κ9.1 b = 10) ∧ ∀ z11 : Option Nat, z11 = sP κ9.1 b 2 → jc (fun (K14 : Unit → CS → Prop) => ((z11 = a1) → K14 () κ9) ∧ ((¬ z11 = a1) → (h ∈ sL κ9.1 ∧ sK κ9.1 h = 1) ∧ ∀ z18 : Option Nat, z18 = sP κ9.1 h 3 → ∃ b : Nat, z18 = some b ∧ (b ∈ sL κ9.1 ∧ sK κ9.1 b = 6) ∧ F_X9_isWithin G b z11 a1 (fun (z20 : Int32) (κ19 : CS) => ((z20.toInt = 0) → K14 () κ19) ∧ ((¬ z20.toInt = 0) → (0 ≤ (1 : Int32).toInt ∧ (1 : Int32).toInt ≤ 1) ∧ post 1 κ19)) κ9)) (fun (x12 : Unit) (κ13 : CS) => ∀ z17 : Int32, z17 = x1 + 1 → K3 z17 κ13)) κ6)) κ2) 0 κ
theorem dX11_isOpenedBelow_0 : decode cX11_isOpenedBelow 0 = .ok (.iconst 0, 1) := by decide +kernel
theorem dX11_isOpenedBelow_1 : decode cX11_isOpenedBelow 1 = .ok (.istore_n 2, 1) := by decide +kernel
theorem dX11_isOpenedBelow_2 : decode cX11_isOpenedBelow 2 = .ok (.iload_n 2, 1) := by decide +kernel
theorem dX11_isOpenedBelow_3 : decode cX11_isOpenedBelow 3 = .ok (.aload_n 0, 1) := by decide +kernel
theorem dX11_isOpenedBelow_4 : decode cX11_isOpenedBelow 4 = .ok (.getfield 52, 3) := by decide +kernel
theorem dX11_isOpenedBelow_7 : decode cX11_isOpenedBelow 7 = .ok (.invokevirtual 161, 3) := by decide +kernel
theorem dX11_isOpenedBelow_10 : decode cX11_isOpenedBelow 10 = .ok (.if_icmp .ge 43, 3) := by decide +kernel
theorem dX11_isOpenedBelow_13 : decode cX11_isOpenedBelow 13 = .ok (.aload_n 0, 1) := by decide +kernel
theorem dX11_isOpenedBelow_14 : decode cX11_isOpenedBelow 14 = .ok (.getfield 52, 3) := by decide +kernel
theorem dX11_isOpenedBelow_17 : decode cX11_isOpenedBelow 17 = .ok (.iload_n 2, 1) := by decide +kernel
theorem dX11_isOpenedBelow_18 : decode cX11_isOpenedBelow 18 = .ok (.invokevirtual 164, 3) := by decide +kernel
theorem dX11_isOpenedBelow_21 : decode cX11_isOpenedBelow 21 = .ok (.checkcast 168, 3) := by decide +kernel
theorem dX11_isOpenedBelow_24 : decode cX11_isOpenedBelow 24 = .ok (.getfield 564, 3) := by decide +kernel
theorem dX11_isOpenedBelow_27 : decode cX11_isOpenedBelow 27 = .ok (.astore_n 3, 1) := by decide +kernel
theorem dX11_isOpenedBelow_28 : decode cX11_isOpenedBelow 28 = .ok (.aload_n 3, 1) := by decide +kernel
theorem dX11_isOpenedBelow_29 : decode cX11_isOpenedBelow 29 = .ok (.aload_n 1, 1) := by decide +kernel
theorem dX11_isOpenedBelow_30 : decode cX11_isOpenedBelow 30 = .ok (.if_acmp .eq 17, 3) := by decide +kernel
theorem dX11_isOpenedBelow_33 : decode cX11_isOpenedBelow 33 = .ok (.aload_n 0, 1) := by decide +kernel
theorem dX11_isOpenedBelow_34 : decode cX11_isOpenedBelow 34 = .ok (.getfield 29, 3) := by decide +kernel
theorem dX11_isOpenedBelow_37 : decode cX11_isOpenedBelow 37 = .ok (.aload_n 3, 1) := by decide +kernel
theorem dX11_isOpenedBelow_38 : decode cX11_isOpenedBelow 38 = .ok (.aload_n 1, 1) := by decide +kernel
theorem dX11_isOpenedBelow_39 : decode cX11_isOpenedBelow 39 = .ok (.invokevirtual 965, 3) := by decide +kernel
theorem dX11_isOpenedBelow_42 : decode cX11_isOpenedBelow 42 = .ok (.ifCond .eq 5, 3) := by decide +kernel
theorem dX11_isOpenedBelow_45 : decode cX11_isOpenedBelow 45 = .ok (.iconst 1, 1) := by decide +kernel
theorem dX11_isOpenedBelow_46 : decode cX11_isOpenedBelow 46 = .ok (.ireturn, 1) := by decide +kernel
theorem dX11_isOpenedBelow_47 : decode cX11_isOpenedBelow 47 = .ok (.iinc 2 1, 3) := by decide +kernel
theorem dX11_isOpenedBelow_50 : decode cX11_isOpenedBelow 50 = .ok (.goto (-48), 3) := by decide +kernel
theorem dX11_isOpenedBelow_53 : decode cX11_isOpenedBelow 53 = .ok (.iconst 0, 1) := by decide +kernel
theorem dX11_isOpenedBelow_54 : decode cX11_isOpenedBelow 54 = .ok (.ireturn, 1) := by decide +kernel
set_option maxRecDepth 100000 in
set_option maxHeartbeats 4000000 in
theorem c_X11_isOpenedBelow (l : Launch) (D : va_G) (t : Nat → ClassId) (G : GE) (κ : CS) (h : Nat) (a1 : Option Nat) (post : Int32 → CS → Prop) (hw : F_X11_isOpenedBelow G h a1 post κ) (sz : Nat) : CMi l D t yX11_isOpenedBelow cX11_isOpenedBelow 4 (some .boolean) 3 78 G κ sz [.ref h, va_rf a1] post := by
  refine c_go (by decide) (by cases a1 <;> exact Nat.le_of_ble_eq_true rfl) ?_
  intro p e s m below meth c ls A hF hr hlk hin hAe hH hA hE hl
  unfold cB
  rw [hAe]
  clear hAe
  have hF : FX p m c cX11_isOpenedBelow 4 s _ RX11 D t := hF
  have hx := hF.1.1
  have hb := hF.1.2.1
  have hl : lv_has ls 4 [(0, .ref h), (1, va_rf a1)] := (by have h2 := hl; clear hw; revert h2; cases a1 <;> exact id)
  unfold F_X11_isOpenedBelow at hw
  refine lv_iconst (v := 0) hx hb dX11_isOpenedBelow_0 (by decide) ?_
  refine lv_istore_n (lv' := [(2, .int 0), (0, .ref h), (1, va_rf a1)]) hx hb dX11_isOpenedBelow_1 rfl hl (by decide) (by generalize a1 = y; cases y <;> rfl) (fun ls hl => ?_)
  have hl : lv_has ls 4 [(2, .int 0), (1, va_rf a1), (0, .ref h)] := lv_sub hl [0, 2, 1] rfl
  refine cw_loop (β := Int32) (fun x1 => [(2, .int x1), (1, va_rf a1), (0, .ref h)]) 0 hl hw hH (fun K3 x1 κ2 ls H locs cells slots hl hw hH ih4 => ?_)
  have hl : lv_has ls 4 [(2, .int x1), (1, va_rf a1), (0, .ref h)] := hl
  refine lv_iload_n hx hb dX11_isOpenedBelow_2 rfl (lv_at hl 0 rfl) ?_
  refine lv_aload_n hx hb dX11_isOpenedBelow_3 rfl (lv_at hl 2 rfl) ?_
  refine cw_getPr (a := h) hF hH fk_X11_52 dX11_isOpenedBelow_4 hw (fun z5 hw => ?_)
  refine cw_cViq (q := z5) (As := []) (rest := [.int x1]) hF hH hA hE mv_X11_161 ci_Jx4a65c (by decide) hw (fun b hw sz => c_Jx4a65c_size_8abf5 l D t G _ b  _ hw sz) dX11_isOpenedBelow_7 ⟨Nat.le_of_ble_eq_true rfl, Nat.le_of_ble_eq_true rfl⟩ rfl hl.1 (Nat.le_of_ble_eq_true rfl) rfl (fun z7 κ6 H locs cells slots hw hH => ?_)
  refine w_icmp_ge (tgt := 53) hF dX11_isOpenedBelow_10 rfl hw (fun hw => ?_) (fun hw => ?_)
  · refine lv_iconst (v := 0) hx hb dX11_isOpenedBelow_53 (by decide) ?_
    exact cw_retz hF hH ⟨rfl, rfl⟩ hr hlk dX11_isOpenedBelow_54 hw
  · refine lv_aload_n hx hb dX11_isOpenedBelow_13 rfl (lv_at hl 2 rfl) ?_
    refine cw_getPr (a := h) hF hH fk_X11_52 dX11_isOpenedBelow_14 hw (fun z8 hw => ?_)
    refine lv_iload_n hx hb dX11_isOpenedBelow_17 rfl (lv_at hl 0 rfl) ?_
    refine cw_cVqq (q := z8) (As := [.int x1]) (rest := []) hF hH hA hE mv_X11_164 ci_Jx4a65c (by decide) hw (fun b hw sz => c_Jx4a65c_get_915e3 l D t G _ b x1 _ hw sz) dX11_isOpenedBelow_18 ⟨Nat.le_of_ble_eq_true rfl, Nat.le_of_ble_eq_true rfl⟩ rfl hl.1 (Nat.le_of_ble_eq_true rfl) rfl (fun z10 κ9 H locs cells slots hw hH => ?_)
    refine cw_cast (q := z10) hF hH ci_X5 (by decide) (wc_16 7 rfl) (by decide) dX11_isOpenedBelow_21 hw (fun hw => ?_)
    refine cw_getP (q := z10) hF hH fk_X11_564 dX11_isOpenedBelow_24 hw (fun z11 hw => ?_)
    refine w_astoreq_n (lv' := [(3, va_rf z11), (2, .int x1), (1, va_rf a1), (0, .ref h)]) hF dX11_isOpenedBelow_27 rfl hl (by decide) rfl (fun ls hl => ?_)
    refine w_aloadq_n hF dX11_isOpenedBelow_28 rfl (lv_at hl 0 rfl) ?_
    refine w_aloadq_n hF dX11_isOpenedBelow_29 rfl (lv_at hl 2 rfl) ?_
    obtain ⟨K14, hK15, hw⟩ := jc_open hw
    refine cw_join (K := K14) 47 (fun (x12 : Unit) => [(2, .int x1), (1, va_rf a1), (0, .ref h)]) (fun (x12 : Unit) => []) hl hH (fun x12 κ13 ls H locs cells slots hl hw hH => ?_) (fun jn16 => ?_)
    · have hw := hK15 x12 κ13 hw
      have hl : lv_has ls 4 [(2, .int x1), (1, va_rf a1), (0, .ref h)] := hl
      obtain ⟨z17, ez17⟩ : ∃ z : Int32, z = x1 + 1 := ⟨_, rfl⟩
      have hw := hw z17 ez17
      refine lv_iinc (lv' := [(2, .int z17), (1, va_rf a1), (0, .ref h)]) (k := 0) (v := z17) hx hb dX11_isOpenedBelow_47 hl rfl ez17.symm (by decide) (by generalize a1 = y; cases y <;> rfl) (fun ls hl => ?_)
      refine lv_goto (tgt := 2) hx hb dX11_isOpenedBelow_50 rfl ?_
      exact ih4 z17 κ13 ls _ _ _ _ hl hw hH
    · skip
      refine cw_acmp_eq (rx := z11) (ry := a1) (tgt := 47) hF dX11_isOpenedBelow_30 rfl hw (fun hw => ?_) (fun hw => ?_)
      · have hl : lv_has ls 4 [(2, .int x1), (1, va_rf a1), (0, .ref h)] := lv_sub hl [1, 2, 3] rfl
        exact jn16 () κ9 ls _ _ _ _ hl hw hH
      · refine lv_aload_n hx hb dX11_isOpenedBelow_33 rfl (lv_at hl 3 rfl) ?_
        refine cw_getPr (a := h) hF hH fk_X11_29 dX11_isOpenedBelow_34 hw (fun z18 hw => ?_)
        refine w_aloadq_n hF dX11_isOpenedBelow_37 rfl (lv_at hl 0 rfl) ?_
        refine w_aloadq_n hF dX11_isOpenedBelow_38 rfl (lv_at hl 2 rfl) ?_
        refine cw_cViq (q := z18) (As := [va_rf z11, va_rf a1]) (rest := []) hF hH hA hE mv_X11_965 ci_X9 (by decide) hw (fun b hw sz => c_X9_isWithin l D t G _ b z11 a1 _ hw sz) dX11_isOpenedBelow_39 ⟨Nat.le_of_ble_eq_true rfl, Nat.le_of_ble_eq_true rfl⟩ rfl hl.1 (Nat.le_of_ble_eq_true rfl) rfl (fun z20 κ19 H locs cells slots hw hH => ?_)
        refine w_if_eq (tgt := 47) hF dX11_isOpenedBelow_42 rfl hw (fun hw => ?_) (fun hw => ?_)
        · have hl : lv_has ls 4 [(2, .int x1), (1, va_rf a1), (0, .ref h)] := lv_sub hl [1, 2, 3] rfl
          exact jn16 () κ19 ls _ _ _ _ hl hw hH
        · refine lv_iconst (v := 1) hx hb dX11_isOpenedBelow_45 (by decide) ?_
          exact cw_retz hF hH ⟨rfl, rfl⟩ hr hlk dX11_isOpenedBelow_46 hw
set_option maxRecDepth 100000 in
def F_X11_rename (G : GE) (h : Nat) (a1 : Option Nat) (a2 : Option Nat) (a3 : Int32) (a4 : Int64) (post : Int32 → CS → Prop) (κ : CS) : Prop := ∃ b : Nat, a2 = some b ∧ (b ∈ sL κ.1 ∧ sK κ.1 b = 10) ∧ ∀ z1 : Option Nat, z1 = sP κ.1 b 2 → ∀ z2 : Int32, z2 = a3 + 16 → ∃ b : Nat, a1 = some b ∧ (b ∈ sL κ.1 ∧ sK κ.1 b = 8) ∧ F_X0_number G b z2 4 (fun (z4 : Int64) (κ3 : CS) => ∀ z5 : Int64, z5 = 20 + z4 → ((z5.toInt ≤ a4.toInt) → (13 + 12 ≤ κ3.2) ∧ ∀ o6 : Nat, o6 ∉ sL κ3.1 → ∀ κ7 : CS, κ7 = (h_uN κ3.1 o6 13 0, κ3.2 - (13 + 12)) → F_X10_init G o6  (fun (κ8 : CS) => ∀ z10 : Int32, z10 = a3 + 20 → (o6 ∈ sL κ8.1 ∧ sK κ8.1 o6 = 13) ∧ F_X10_takePath G o6 a1 z10 z4 (fun (z12 : Int32) (κ11 : CS) => ((¬ z12.toInt = 0) → ∃ b : Nat, a2 = some b ∧ (b ∈ sL κ11.1 ∧ sK κ11.1 b = 10) ∧ ∀ z13 : Option Nat, z13 = sP κ11.1 b 1 → ∃ b : Nat, z13 = some b ∧ (b ∈ sL κ11.1 ∧ sK κ11.1 b = 12) ∧ ∀ z14 : Option Nat, z14 = sP κ11.1 b 2 → (h ∈ sL κ11.1 ∧ sK κ11.1 h = 1) ∧ F_X11_walk G h (some o6) z14 (fun (z16 : Int32) (κ15 : CS) => ((¬ z16.toInt = 0) → (o6 ∈ sL κ15.1 ∧ sK κ15.1 o6 = 13) ∧ ∀ z17 : Int32, z17 = sI κ15.1 o6 9 → jc (fun (K20 : Unit → CS → Prop) => ((z17.toInt = 0) → K20 () κ15) ∧ ((¬ z17.toInt = 0) → ∃ b : Nat, z1 = some b ∧ (b ∈ sL κ15.1 ∧ sK κ15.1 b = 5) ∧ ∀ z23 : Int32, z23 = sI κ15.1 b 4 → ((¬ z23.toInt = ((-1) : Int32).toInt) → (h ∈ sL κ15.1 ∧ sK κ15.1 h = 1) ∧ ∀ z24 : Option Nat, z24 = sP κ15.1 h 3 → (o6 ∈ sL κ15.1 ∧ sK κ15.1 o6 = 13) ∧ ∀ z25 : Option Nat, z25 = sP κ15.1 o6 10 → ∃ b : Nat, z24 = some b ∧ (b ∈ sL κ15.1 ∧ sK κ15.1 b = 6) ∧ F_X9_isWithin G b z25 z1 (fun (z27 : Int32) (κ26 : CS) => ((z27.toInt = 0) → ∃ b : Nat, z1 = some b ∧ (b ∈ sL κ26.1 ∧ sK κ26.1 b = 5) ∧ ∀ z28 : Int32, z28 = sI κ26.1 b 2 → jc (fun (K31 : Unit → CS → Prop) => ((z28.toInt = 0) → K31 () κ26) ∧ ((¬ z28.toInt = 0) → (h ∈ sL κ26.1 ∧ sK κ26.1 h = 1) ∧ F_X11_isOpenedBelow G h z1 (fun (z70 : Int32) (κ69 : CS) => ((z70.toInt = 0) → K31 () κ69) ∧ ((¬ z70.toInt = 0) → post (-1073741790) κ69)) κ26)) (fun (x29 : Unit) (κ30 : CS) => (o6 ∈ sL κ30.1 ∧ sK κ30.1 o6 = 13) ∧ ∀ z34 : Option Nat, z34 = sP κ30.1 o6 11 → jc (fun (K37 : Unit → CS → Prop) => ((z34 = none) → K37 () κ30) ∧ ((¬ z34 = none) → (o6 ∈ sL κ30.1 ∧ sK κ30.1 o6 = 13) ∧ ∀ z51 : Option Nat, z51 = sP κ30.1 o6 11 → ((z51 = z1) → K37 () κ30) ∧ ((¬ z51 = z1) → (o6 ∈ sL κ30.1 ∧ sK κ30.1 o6 = 13) ∧ ∀ z52 : Option Nat, z52 = sP κ30.1 o6 11 → ∃ b : Nat, a1 = some b ∧ (b ∈ sL κ30.1 ∧ sK κ30.1 b = 8) ∧ F_X0_number G b a3 1 (fun (z54 : Int64) (κ53 : CS) => ((¬ z54.toInt = (0 : Int64).toInt) → ∃ b : Nat, z52 = some b ∧ (b ∈ sL κ53.1 ∧ sK κ53.1 b = 5) ∧ ∀ z55 : Int32, z55 = sI κ53.1 b 2 → jc (fun (K58 : Unit → CS → Prop) => ((¬ z55.toInt = 0) → K58 () κ53) ∧ ((z55.toInt = 0) → (h ∈ sL κ53.1 ∧ sK κ53.1 h = 1) ∧ F_X11_isOpened G h z52 (fun (z62 : Int32) (κ61 : CS) => ((¬ z62.toInt = 0) → K58 () κ61) ∧ ((z62.toInt = 0) → ∃ b : Nat, z52 = some b ∧ (b ∈ sL κ61.1 ∧ sK κ61.1 b = 5) ∧ ∀ z63 : Int32, z63 = sI κ61.1 b 7 → ∀ z64 : Int32, z64 = z63 &&& 1 → ((z64.toInt = 0) → (h ∈ sL κ61.1 ∧ sK κ61.1 h = 1) ∧ F_X11_nextChange G h 5 z52 (fun (z66 : Option Nat) (κ65 : CS) => (h ∈ sL κ65.1 ∧ sK κ65.1 h = 1) ∧ F_X11_done G h z66 (fun (κ67 : CS) => K37 () κ67) κ65) κ61) ∧ ((¬ z64.toInt = 0) → K58 () κ61))) κ53)) (fun (x56 : Unit) (κ57 : CS) => post (-1073741790) κ57)) ∧ ((z54.toInt = (0 : Int64).toInt) → post (-1073741771) κ53)) κ30))) (fun (x35 : Unit) (κ36 : CS) => (h ∈ sL κ36.1 ∧ sK κ36.1 h = 1) ∧ F_X11_nextChange G h 4 z1 (fun (z41 : Option Nat) (κ40 : CS) => (o6 ∈ sL κ40.1 ∧ sK κ40.1 o6 = 13) ∧ ∀ z42 : Option Nat, z42 = sP κ40.1 o6 10 → ∃ b : Nat, z42 = some b ∧ (b ∈ sL κ40.1 ∧ sK κ40.1 b = 5) ∧ ∀ z43 : Int32, z43 = sI κ40.1 b 0 → ∃ b : Nat, z41 = some b ∧ (b ∈ sL κ40.1 ∧ sK κ40.1 b = 4) ∧ ∀ κ44 : CS, κ44 = (h_uI κ40.1 b 2 z43, κ40.2) → (o6 ∈ sL κ44.1 ∧ sK κ44.1 o6 = 13) ∧ F_X10_nameTo G o6 z41 (fun (κ45 : CS) => (h ∈ sL κ45.1 ∧ sK κ45.1 h = 1) ∧ ∀ z47 : Int64, z47 = sJ κ45.1 h 7 → ∃ b : Nat, z41 = some b ∧ (b ∈ sL κ45.1 ∧ sK κ45.1 b = 4) ∧ ∀ κ48 : CS, κ48 = (h_uJ κ45.1 b 10 z47, κ45.2) → (h ∈ sL κ48.1 ∧ sK κ48.1 h = 1) ∧ F_X11_done G h z41 (fun (κ49 : CS) => post 0 κ49) κ48) κ44) κ36))) ∧ ((¬ z27.toInt = 0) → post (-1073741811) κ26)) κ15) ∧ ((z23.toInt = ((-1) : Int32).toInt) → K20 () κ15))) (fun (x18 : Unit) (κ19 : CS) => post (-1073741790) κ19)) ∧ ((z16.toInt = 0) → post (-1073741766) κ15)) κ11) ∧ ((z12.toInt = 0) → post (-1073741773) κ11)) κ8) κ7) ∧ ((a4.toInt < z5.toInt) → post (-1073741820) κ3)) κ
theorem dX11_rename_0 : decode cX11_rename 0 = .ok (.aload_n 2, 1) := by decide +kernel
theorem dX11_rename_1 : decode cX11_rename 1 = .ok (.getfield 564, 3) := by decide +kernel
theorem dX11_rename_4 : decode cX11_rename 4 = .ok (.astore 6, 2) := by decide +kernel
theorem dX11_rename_6 : decode cX11_rename 6 = .ok (.aload_n 1, 1) := by decide +kernel
theorem dX11_rename_7 : decode cX11_rename 7 = .ok (.iload_n 3, 1) := by decide +kernel
theorem dX11_rename_8 : decode cX11_rename 8 = .ok (.bipush 16, 2) := by decide +kernel
theorem dX11_rename_10 : decode cX11_rename 10 = .ok (.iadd, 1) := by decide +kernel
theorem dX11_rename_11 : decode cX11_rename 11 = .ok (.iconst 4, 1) := by decide +kernel
theorem dX11_rename_12 : decode cX11_rename 12 = .ok (.invokevirtual 394, 3) := by decide +kernel
theorem dX11_rename_15 : decode cX11_rename 15 = .ok (.lstore 7, 2) := by decide +kernel
theorem dX11_rename_17 : decode cX11_rename 17 = .ok (.ldc2_w 963, 3) := by decide +kernel
theorem dX11_rename_20 : decode cX11_rename 20 = .ok (.lload 7, 2) := by decide +kernel
theorem dX11_rename_22 : decode cX11_rename 22 = .ok (.ladd, 1) := by decide +kernel
theorem dX11_rename_23 : decode cX11_rename 23 = .ok (.lload 4, 2) := by decide +kernel
theorem dX11_rename_25 : decode cX11_rename 25 = .ok (.lcmp, 1) := by decide +kernel
theorem dX11_rename_26 : decode cX11_rename 26 = .ok (.ifCond .le 7, 3) := by decide +kernel
theorem dX11_rename_29 : decode cX11_rename 29 = .ok (.ldc_w 889, 3) := by decide +kernel
theorem dX11_rename_32 : decode cX11_rename 32 = .ok (.ireturn, 1) := by decide +kernel
theorem dX11_rename_33 : decode cX11_rename 33 = .ok (.new 631, 3) := by decide +kernel
theorem dX11_rename_36 : decode cX11_rename 36 = .ok (.dup, 1) := by decide +kernel
theorem dX11_rename_37 : decode cX11_rename 37 = .ok (.invokespecial 633, 3) := by decide +kernel
theorem dX11_rename_40 : decode cX11_rename 40 = .ok (.astore 9, 2) := by decide +kernel
theorem dX11_rename_42 : decode cX11_rename 42 = .ok (.aload 9, 2) := by decide +kernel
theorem dX11_rename_44 : decode cX11_rename 44 = .ok (.aload_n 1, 1) := by decide +kernel
theorem dX11_rename_45 : decode cX11_rename 45 = .ok (.iload_n 3, 1) := by decide +kernel
theorem dX11_rename_46 : decode cX11_rename 46 = .ok (.bipush 20, 2) := by decide +kernel
theorem dX11_rename_48 : decode cX11_rename 48 = .ok (.iadd, 1) := by decide +kernel
theorem dX11_rename_49 : decode cX11_rename 49 = .ok (.lload 7, 2) := by decide +kernel
theorem dX11_rename_51 : decode cX11_rename 51 = .ok (.invokevirtual 665, 3) := by decide +kernel
theorem dX11_rename_54 : decode cX11_rename 54 = .ok (.ifCond .ne 7, 3) := by decide +kernel
theorem dX11_rename_57 : decode cX11_rename 57 = .ok (.ldc_w 669, 3) := by decide +kernel
theorem dX11_rename_60 : decode cX11_rename 60 = .ok (.ireturn, 1) := by decide +kernel
theorem dX11_rename_61 : decode cX11_rename 61 = .ok (.aload_n 0, 1) := by decide +kernel
theorem dX11_rename_62 : decode cX11_rename 62 = .ok (.aload 9, 2) := by decide +kernel
theorem dX11_rename_64 : decode cX11_rename 64 = .ok (.aload_n 2, 1) := by decide +kernel
theorem dX11_rename_65 : decode cX11_rename 65 = .ok (.getfield 423, 3) := by decide +kernel
theorem dX11_rename_68 : decode cX11_rename 68 = .ok (.getfield 674, 3) := by decide +kernel
theorem dX11_rename_71 : decode cX11_rename 71 = .ok (.invokevirtual 677, 3) := by decide +kernel
theorem dX11_rename_74 : decode cX11_rename 74 = .ok (.ifCond .ne 7, 3) := by decide +kernel
theorem dX11_rename_77 : decode cX11_rename 77 = .ok (.ldc_w 681, 3) := by decide +kernel
theorem dX11_rename_80 : decode cX11_rename 80 = .ok (.ireturn, 1) := by decide +kernel
theorem dX11_rename_81 : decode cX11_rename 81 = .ok (.aload 9, 2) := by decide +kernel
theorem dX11_rename_83 : decode cX11_rename 83 = .ok (.getfield 692, 3) := by decide +kernel
theorem dX11_rename_86 : decode cX11_rename 86 = .ok (.ifCond .eq 12, 3) := by decide +kernel
theorem dX11_rename_89 : decode cX11_rename 89 = .ok (.aload 6, 2) := by decide +kernel
theorem dX11_rename_91 : decode cX11_rename 91 = .ok (.getfield 752, 3) := by decide +kernel
theorem dX11_rename_94 : decode cX11_rename 94 = .ok (.iconst (-1), 1) := by decide +kernel
theorem dX11_rename_95 : decode cX11_rename 95 = .ok (.if_icmp .ne 7, 3) := by decide +kernel
theorem dX11_rename_98 : decode cX11_rename 98 = .ok (.ldc_w 658, 3) := by decide +kernel
theorem dX11_rename_101 : decode cX11_rename 101 = .ok (.ireturn, 1) := by decide +kernel
theorem dX11_rename_102 : decode cX11_rename 102 = .ok (.aload_n 0, 1) := by decide +kernel
theorem dX11_rename_103 : decode cX11_rename 103 = .ok (.getfield 29, 3) := by decide +kernel
theorem dX11_rename_106 : decode cX11_rename 106 = .ok (.aload 9, 2) := by decide +kernel
theorem dX11_rename_108 : decode cX11_rename 108 = .ok (.getfield 693, 3) := by decide +kernel
theorem dX11_rename_111 : decode cX11_rename 111 = .ok (.aload 6, 2) := by decide +kernel
theorem dX11_rename_113 : decode cX11_rename 113 = .ok (.invokevirtual 965, 3) := by decide +kernel
theorem dX11_rename_116 : decode cX11_rename 116 = .ok (.ifCond .eq 7, 3) := by decide +kernel
theorem dX11_rename_119 : decode cX11_rename 119 = .ok (.ldc_w 398, 3) := by decide +kernel
theorem dX11_rename_122 : decode cX11_rename 122 = .ok (.ireturn, 1) := by decide +kernel
theorem dX11_rename_123 : decode cX11_rename 123 = .ok (.aload 6, 2) := by decide +kernel
theorem dX11_rename_125 : decode cX11_rename 125 = .ok (.getfield 577, 3) := by decide +kernel
theorem dX11_rename_128 : decode cX11_rename 128 = .ok (.ifCond .eq 16, 3) := by decide +kernel
theorem dX11_rename_131 : decode cX11_rename 131 = .ok (.aload_n 0, 1) := by decide +kernel
theorem dX11_rename_132 : decode cX11_rename 132 = .ok (.aload 6, 2) := by decide +kernel
theorem dX11_rename_134 : decode cX11_rename 134 = .ok (.invokevirtual 969, 3) := by decide +kernel
theorem dX11_rename_137 : decode cX11_rename 137 = .ok (.ifCond .eq 7, 3) := by decide +kernel
theorem dX11_rename_140 : decode cX11_rename 140 = .ok (.ldc_w 658, 3) := by decide +kernel
theorem dX11_rename_143 : decode cX11_rename 143 = .ok (.ireturn, 1) := by decide +kernel
theorem dX11_rename_144 : decode cX11_rename 144 = .ok (.aload 9, 2) := by decide +kernel
theorem dX11_rename_146 : decode cX11_rename 146 = .ok (.getfield 682, 3) := by decide +kernel
theorem dX11_rename_149 : decode cX11_rename 149 = .ok (.ifnull 77, 3) := by decide +kernel
theorem dX11_rename_152 : decode cX11_rename 152 = .ok (.aload 9, 2) := by decide +kernel
theorem dX11_rename_154 : decode cX11_rename 154 = .ok (.getfield 682, 3) := by decide +kernel
theorem dX11_rename_157 : decode cX11_rename 157 = .ok (.aload 6, 2) := by decide +kernel
theorem dX11_rename_159 : decode cX11_rename 159 = .ok (.if_acmp .eq 67, 3) := by decide +kernel
theorem dX11_rename_162 : decode cX11_rename 162 = .ok (.aload 9, 2) := by decide +kernel
theorem dX11_rename_164 : decode cX11_rename 164 = .ok (.getfield 682, 3) := by decide +kernel
theorem dX11_rename_167 : decode cX11_rename 167 = .ok (.astore 10, 2) := by decide +kernel
theorem dX11_rename_169 : decode cX11_rename 169 = .ok (.aload_n 1, 1) := by decide +kernel
theorem dX11_rename_170 : decode cX11_rename 170 = .ok (.iload_n 3, 1) := by decide +kernel
theorem dX11_rename_171 : decode cX11_rename 171 = .ok (.iconst 1, 1) := by decide +kernel
theorem dX11_rename_172 : decode cX11_rename 172 = .ok (.invokevirtual 394, 3) := by decide +kernel
theorem dX11_rename_175 : decode cX11_rename 175 = .ok (.lconst 0, 1) := by decide +kernel
theorem dX11_rename_176 : decode cX11_rename 176 = .ok (.lcmp, 1) := by decide +kernel
theorem dX11_rename_177 : decode cX11_rename 177 = .ok (.ifCond .ne 7, 3) := by decide +kernel
theorem dX11_rename_180 : decode cX11_rename 180 = .ok (.ldc_w 749, 3) := by decide +kernel
theorem dX11_rename_183 : decode cX11_rename 183 = .ok (.ireturn, 1) := by decide +kernel
theorem dX11_rename_184 : decode cX11_rename 184 = .ok (.aload 10, 2) := by decide +kernel
theorem dX11_rename_186 : decode cX11_rename 186 = .ok (.getfield 577, 3) := by decide +kernel
theorem dX11_rename_189 : decode cX11_rename 189 = .ok (.ifCond .ne 22, 3) := by decide +kernel
theorem dX11_rename_192 : decode cX11_rename 192 = .ok (.aload_n 0, 1) := by decide +kernel
theorem dX11_rename_193 : decode cX11_rename 193 = .ok (.aload 10, 2) := by decide +kernel
theorem dX11_rename_195 : decode cX11_rename 195 = .ok (.invokevirtual 573, 3) := by decide +kernel
theorem dX11_rename_198 : decode cX11_rename 198 = .ok (.ifCond .ne 13, 3) := by decide +kernel
theorem dX11_rename_201 : decode cX11_rename 201 = .ok (.aload 10, 2) := by decide +kernel
theorem dX11_rename_203 : decode cX11_rename 203 = .ok (.getfield 742, 3) := by decide +kernel
theorem dX11_rename_206 : decode cX11_rename 206 = .ok (.iconst 1, 1) := by decide +kernel
theorem dX11_rename_207 : decode cX11_rename 207 = .ok (.iand, 1) := by decide +kernel
theorem dX11_rename_208 : decode cX11_rename 208 = .ok (.ifCond .eq 7, 3) := by decide +kernel
theorem dX11_rename_211 : decode cX11_rename 211 = .ok (.ldc_w 658, 3) := by decide +kernel
theorem dX11_rename_214 : decode cX11_rename 214 = .ok (.ireturn, 1) := by decide +kernel
theorem dX11_rename_215 : decode cX11_rename 215 = .ok (.aload_n 0, 1) := by decide +kernel
theorem dX11_rename_216 : decode cX11_rename 216 = .ok (.aload_n 0, 1) := by decide +kernel
theorem dX11_rename_217 : decode cX11_rename 217 = .ok (.iconst 5, 1) := by decide +kernel
theorem dX11_rename_218 : decode cX11_rename 218 = .ok (.aload 10, 2) := by decide +kernel
theorem dX11_rename_220 : decode cX11_rename 220 = .ok (.invokevirtual 234, 3) := by decide +kernel
theorem dX11_rename_223 : decode cX11_rename 223 = .ok (.invokevirtual 584, 3) := by decide +kernel
theorem dX11_rename_226 : decode cX11_rename 226 = .ok (.aload_n 0, 1) := by decide +kernel
theorem dX11_rename_227 : decode cX11_rename 227 = .ok (.iconst 4, 1) := by decide +kernel
theorem dX11_rename_228 : decode cX11_rename 228 = .ok (.aload 6, 2) := by decide +kernel
theorem dX11_rename_230 : decode cX11_rename 230 = .ok (.invokevirtual 234, 3) := by decide +kernel
theorem dX11_rename_233 : decode cX11_rename 233 = .ok (.astore 10, 2) := by decide +kernel
theorem dX11_rename_235 : decode cX11_rename 235 = .ok (.aload 10, 2) := by decide +kernel
theorem dX11_rename_237 : decode cX11_rename 237 = .ok (.aload 9, 2) := by decide +kernel
theorem dX11_rename_239 : decode cX11_rename 239 = .ok (.getfield 693, 3) := by decide +kernel
theorem dX11_rename_242 : decode cX11_rename 242 = .ok (.getfield 248, 3) := by decide +kernel
theorem dX11_rename_245 : decode cX11_rename 245 = .ok (.putfield 972, 3) := by decide +kernel
theorem dX11_rename_248 : decode cX11_rename 248 = .ok (.aload 9, 2) := by decide +kernel
theorem dX11_rename_250 : decode cX11_rename 250 = .ok (.aload 10, 2) := by decide +kernel
theorem dX11_rename_252 : decode cX11_rename 252 = .ok (.invokevirtual 711, 3) := by decide +kernel
theorem dX11_rename_255 : decode cX11_rename 255 = .ok (.aload 10, 2) := by decide +kernel
theorem dX11_rename_257 : decode cX11_rename 257 = .ok (.aload_n 0, 1) := by decide +kernel
theorem dX11_rename_258 : decode cX11_rename 258 = .ok (.getfield 157, 3) := by decide +kernel
theorem dX11_rename_261 : decode cX11_rename 261 = .ok (.putfield 739, 3) := by decide +kernel
theorem dX11_rename_264 : decode cX11_rename 264 = .ok (.aload_n 0, 1) := by decide +kernel
theorem dX11_rename_265 : decode cX11_rename 265 = .ok (.aload 10, 2) := by decide +kernel
theorem dX11_rename_267 : decode cX11_rename 267 = .ok (.invokevirtual 584, 3) := by decide +kernel
theorem dX11_rename_270 : decode cX11_rename 270 = .ok (.iconst 0, 1) := by decide +kernel
theorem dX11_rename_271 : decode cX11_rename 271 = .ok (.ireturn, 1) := by decide +kernel
set_option maxRecDepth 100000 in
set_option maxHeartbeats 4000000 in
theorem c_X11_rename (l : Launch) (D : va_G) (t : Nat → ClassId) (G : GE) (κ : CS) (h : Nat) (a1 : Option Nat) (a2 : Option Nat) (a3 : Int32) (a4 : Int64) (post : Int32 → CS → Prop) (hw : F_X11_rename G h a1 a2 a3 a4 post κ) (sz : Nat) : CMi l D t yX11_rename cX11_rename 11 (some .int) 11 276 G κ sz [.ref h, va_rf a1, va_rf a2, .int a3, .long a4] post := by
  refine c_go (by decide) (by cases a1 <;> cases a2 <;> exact Nat.le_of_ble_eq_true rfl) ?_
  intro p e s m below meth c ls A hF hr hlk hin hAe hH hA hE hl
  unfold cB
  rw [hAe]
  clear hAe
  have hF : FX p m c cX11_rename 11 s _ RX11 D t := hF
  have hx := hF.1.1
  have hb := hF.1.2.1
  have hl : lv_has ls 11 [(0, .ref h), (1, va_rf a1), (2, va_rf a2), (3, .int a3), (4, .long a4)] := (by have h2 := hl; clear hw; revert h2; cases a1 <;> cases a2 <;> exact id)
  unfold F_X11_rename at hw
  refine w_aloadq_n hF dX11_rename_0 rfl (lv_at hl 2 rfl) ?_
  refine cw_getP (q := a2) hF hH fk_X11_564 dX11_rename_1 hw (fun z1 hw => ?_)
  refine w_astoreq (lv' := [(6, va_rf z1), (0, .ref h), (1, va_rf a1), (2, va_rf a2), (3, .int a3), (4, .long a4)]) hF dX11_rename_4 hl (by decide) rfl (fun ls hl => ?_)
  refine w_aloadq_n hF dX11_rename_6 rfl (lv_at hl 2 rfl) ?_
  refine lv_iload_n hx hb dX11_rename_7 rfl (lv_at hl 4 rfl) ?_
  refine lv_bipush (v := 16) hx hb dX11_rename_8 (by decide) ?_
  refine lv_iadd hx hb dX11_rename_10 ?_
  refine w_nmi hw (fun z2 hw => ?_)
  refine lv_iconst (v := 4) hx hb dX11_rename_11 (by decide) ?_
  refine cw_cVlq (q := a1) (As := [.int z2, .int 4]) (rest := []) hF hH hA hE mv_X11_394 ci_X0 (by decide) hw (fun b hw sz => c_X0_number l D t G _ b z2 4 _ hw sz) dX11_rename_12 ⟨Nat.le_of_ble_eq_true rfl, Nat.le_of_ble_eq_true rfl⟩ rfl hl.1 (Nat.le_of_ble_eq_true rfl) rfl (fun z4 κ3 H locs cells slots hw hH => ?_)
  refine lv_lstore (lv' := [(7, .long z4), (6, va_rf z1), (0, .ref h), (1, va_rf a1), (2, va_rf a2), (3, .int a3), (4, .long a4)]) hx hb dX11_rename_15 hl (by decide) (by generalize z1 = y; cases y <;> rfl) (fun ls hl => ?_)
  refine lv_ldc2 (v := 20) hx hb hF.1.2.2.2.1 (hF.1.2.2.2.2 _ (wc_34 20 rfl)) dX11_rename_17 ?_
  refine lv_lload hx hb dX11_rename_20 (lv_at hl 0 rfl) ?_
  refine lv_ladd hx hb dX11_rename_22 ?_
  refine w_nml hw (fun z5 hw => ?_)
  refine lv_lload hx hb dX11_rename_23 (lv_at hl 6 rfl) ?_
  refine w_lif_le (tgt := 33) hF dX11_rename_25 dX11_rename_26 rfl hw (fun hw => ?_) (fun hw => ?_)
  · refine cw_new hF hH hA ci_X10 (by decide) rfl df_X10 dX11_rename_33 (wc_27 11 rfl) (wc_27 12 rfl) (wc_6 37 rfl) hw (fun o6 κ7 H locs cells slots hw hH => ?_)
    refine lv_dup hx hb dX11_rename_36 rfl ?_
    refine cw_cIN (b := o6) (As := []) (rest := [.ref o6]) hF hH hA hE min_X11_633 (fun sz => c_X10_init l D t G _ o6  _ hw sz) dX11_rename_37 ⟨Nat.le_of_ble_eq_true rfl, Nat.le_of_ble_eq_true rfl⟩ rfl hl.1 (Nat.le_of_ble_eq_true rfl) rfl (fun κ8 H locs cells slots hw hH => ?_)
    refine lv_astore (lv' := [(9, .ref o6), (7, .long z4), (6, va_rf z1), (0, .ref h), (1, va_rf a1), (2, va_rf a2), (3, .int a3), (4, .long a4)]) hx hb dX11_rename_40 hl (by decide) rfl (fun ls hl => ?_)
    refine lv_aload hx hb dX11_rename_42 (lv_at hl 0 rfl) ?_
    refine w_aloadq_n hF dX11_rename_44 rfl (lv_at hl 4 rfl) ?_
    refine lv_iload_n hx hb dX11_rename_45 rfl (lv_at hl 6 rfl) ?_
    refine lv_bipush (v := 20) hx hb dX11_rename_46 (by decide) ?_
    refine lv_iadd hx hb dX11_rename_48 ?_
    refine w_nmi hw (fun z10 hw => ?_)
    refine lv_lload hx hb dX11_rename_49 (lv_at hl 1 rfl) ?_
    refine cw_cVi (b := o6) (As := [va_rf a1, .int z10, .long z4]) (rest := []) hF hH hA hE mv_X11_665 ci_X10 (by decide) (fun sz => c_X10_takePath l D t G _ o6 a1 z10 z4 _ hw.2 sz) dX11_rename_51 hw.1 ⟨Nat.le_of_ble_eq_true rfl, Nat.le_of_ble_eq_true rfl⟩ rfl hl.1 (Nat.le_of_ble_eq_true rfl) rfl (fun z12 κ11 H locs cells slots hw hH => ?_)
    refine w_if_ne (tgt := 61) hF dX11_rename_54 rfl hw (fun hw => ?_) (fun hw => ?_)
    · refine lv_aload_n hx hb dX11_rename_61 rfl (lv_at hl 3 rfl) ?_
      refine lv_aload hx hb dX11_rename_62 (lv_at hl 0 rfl) ?_
      refine w_aloadq_n hF dX11_rename_64 rfl (lv_at hl 5 rfl) ?_
      refine cw_getP (q := a2) hF hH fk_X11_423 dX11_rename_65 hw (fun z13 hw => ?_)
      refine cw_getP (q := z13) hF hH fk_X11_674 dX11_rename_68 hw (fun z14 hw => ?_)
      refine cw_cVi (b := h) (As := [.ref o6, va_rf z14]) (rest := []) hF hH hA hE mv_X11_677 ci_X11 (by decide) (fun sz => c_X11_walk l D t G _ h (some o6) z14 _ hw.2 sz) dX11_rename_71 hw.1 ⟨Nat.le_of_ble_eq_true rfl, Nat.le_of_ble_eq_true rfl⟩ rfl hl.1 (Nat.le_of_ble_eq_true rfl) rfl (fun z16 κ15 H locs cells slots hw hH => ?_)
      refine w_if_ne (tgt := 81) hF dX11_rename_74 rfl hw (fun hw => ?_) (fun hw => ?_)
      · refine lv_aload hx hb dX11_rename_81 (lv_at hl 0 rfl) ?_
        refine cw_getIr (a := o6) hF hH fk_X11_692 dX11_rename_83 hw (fun z17 hw => ?_)
        obtain ⟨K20, hK21, hw⟩ := jc_open hw
        refine cw_join (K := K20) 98 (fun (x18 : Unit) => []) (fun (x18 : Unit) => []) hl hH (fun x18 κ19 ls H locs cells slots hl hw hH => ?_) (fun jn22 => ?_)
        · have hw := hK21 x18 κ19 hw
          have hl : lv_has ls 11 [] := hl
          refine lv_ldcw (v := (-1073741790)) hx hb hF.1.2.2.2.1 (hF.1.2.2.2.2 _ (wc_22 30 rfl)) dX11_rename_98 ?_
          exact cw_reti hF hH ⟨rfl, rfl⟩ hr rfl hlk dX11_rename_101 hw
        · skip
          refine w_if_eq (tgt := 98) hF dX11_rename_86 rfl hw (fun hw => ?_) (fun hw => ?_)
          · have hl : lv_has ls 11 [] := lv_sub hl [] rfl
            exact jn22 () κ15 ls _ _ _ _ hl hw hH
          · refine w_aloadq hF dX11_rename_89 (lv_at hl 2 rfl) ?_
            refine cw_getI (q := z1) hF hH fk_X11_752 dX11_rename_91 hw (fun z23 hw => ?_)
            refine lv_iconst (v := (-1)) hx hb dX11_rename_94 (by decide) ?_
            refine w_icmp_ne (tgt := 102) hF dX11_rename_95 rfl hw (fun hw => ?_) (fun hw => ?_)
            · refine lv_aload_n hx hb dX11_rename_102 rfl (lv_at hl 3 rfl) ?_
              refine cw_getPr (a := h) hF hH fk_X11_29 dX11_rename_103 hw (fun z24 hw => ?_)
              refine lv_aload hx hb dX11_rename_106 (lv_at hl 0 rfl) ?_
              refine cw_getPr (a := o6) hF hH fk_X11_693 dX11_rename_108 hw (fun z25 hw => ?_)
              refine w_aloadq hF dX11_rename_111 (lv_at hl 2 rfl) ?_
              refine cw_cViq (q := z24) (As := [va_rf z25, va_rf z1]) (rest := []) hF hH hA hE mv_X11_965 ci_X9 (by decide) hw (fun b hw sz => c_X9_isWithin l D t G _ b z25 z1 _ hw sz) dX11_rename_113 ⟨Nat.le_of_ble_eq_true rfl, Nat.le_of_ble_eq_true rfl⟩ rfl hl.1 (Nat.le_of_ble_eq_true rfl) rfl (fun z27 κ26 H locs cells slots hw hH => ?_)
              refine w_if_eq (tgt := 123) hF dX11_rename_116 rfl hw (fun hw => ?_) (fun hw => ?_)
              · refine w_aloadq hF dX11_rename_123 (lv_at hl 2 rfl) ?_
                refine cw_getI (q := z1) hF hH fk_X11_577 dX11_rename_125 hw (fun z28 hw => ?_)
                obtain ⟨K31, hK32, hw⟩ := jc_open hw
                refine cw_join (K := K31) 144 (fun (x29 : Unit) => [(9, .ref o6), (6, va_rf z1), (3, .int a3), (1, va_rf a1), (0, .ref h)]) (fun (x29 : Unit) => []) hl hH (fun x29 κ30 ls H locs cells slots hl hw hH => ?_) (fun jn33 => ?_)
                · have hw := hK32 x29 κ30 hw
                  have hl : lv_has ls 11 [(9, .ref o6), (6, va_rf z1), (3, .int a3), (1, va_rf a1), (0, .ref h)] := hl
                  refine lv_aload hx hb dX11_rename_144 (lv_at hl 0 rfl) ?_
                  refine cw_getPr (a := o6) hF hH fk_X11_682 dX11_rename_146 hw (fun z34 hw => ?_)
                  obtain ⟨K37, hK38, hw⟩ := jc_open hw
                  refine cw_join (K := K37) 226 (fun (x35 : Unit) => [(9, .ref o6), (6, va_rf z1), (0, .ref h)]) (fun (x35 : Unit) => []) hl hH (fun x35 κ36 ls H locs cells slots hl hw hH => ?_) (fun jn39 => ?_)
                  · have hw := hK38 x35 κ36 hw
                    have hl : lv_has ls 11 [(9, .ref o6), (6, va_rf z1), (0, .ref h)] := hl
                    refine lv_aload_n hx hb dX11_rename_226 rfl (lv_at hl 2 rfl) ?_
                    refine lv_iconst (v := 4) hx hb dX11_rename_227 (by decide) ?_
                    refine w_aloadq hF dX11_rename_228 (lv_at hl 1 rfl) ?_
                    refine cw_cVq (b := h) (As := [.int 4, va_rf z1]) (rest := []) hF hH hA hE mv_X11_234 ci_X11 (by decide) (fun sz => c_X11_nextChange l D t G _ h 4 z1 _ hw.2 sz) dX11_rename_230 hw.1 ⟨Nat.le_of_ble_eq_true rfl, Nat.le_of_ble_eq_true rfl⟩ rfl hl.1 (Nat.le_of_ble_eq_true rfl) rfl (fun z41 κ40 H locs cells slots hw hH => ?_)
                    refine w_astoreq (lv' := [(10, va_rf z41), (9, .ref o6), (6, va_rf z1), (0, .ref h)]) hF dX11_rename_233 hl (by decide) rfl (fun ls hl => ?_)
                    refine w_aloadq hF dX11_rename_235 (lv_at hl 0 rfl) ?_
                    refine lv_aload hx hb dX11_rename_237 (lv_at hl 1 rfl) ?_
                    refine cw_getPr (a := o6) hF hH fk_X11_693 dX11_rename_239 hw (fun z42 hw => ?_)
                    refine cw_getI (q := z42) hF hH fk_X11_248 dX11_rename_242 hw (fun z43 hw => ?_)
                    refine cw_putI (q := z41) (v := z43) hF hH fk_X11_972 dX11_rename_245 rfl rfl rfl hw (fun κ44 H locs cells slots hw hH => ?_)
                    refine lv_aload hx hb dX11_rename_248 (lv_at hl 1 rfl) ?_
                    refine w_aloadq hF dX11_rename_250 (lv_at hl 0 rfl) ?_
                    refine cw_cVv (b := o6) (As := [va_rf z41]) (rest := []) hF hH hA hE mv_X11_711 ci_X10 (by decide) (fun sz => c_X10_nameTo l D t G _ o6 z41 _ hw.2 sz) dX11_rename_252 hw.1 ⟨Nat.le_of_ble_eq_true rfl, Nat.le_of_ble_eq_true rfl⟩ rfl hl.1 (Nat.le_of_ble_eq_true rfl) rfl (fun κ45 H locs cells slots hw hH => ?_)
                    refine w_aloadq hF dX11_rename_255 (lv_at hl 0 rfl) ?_
                    refine lv_aload_n hx hb dX11_rename_257 rfl (lv_at hl 3 rfl) ?_
                    refine cw_getJr (a := h) hF hH fk_X11_157 dX11_rename_258 hw (fun z47 hw => ?_)
                    refine cw_putJ (q := z41) (v := z47) hF hH fk_X11_739 dX11_rename_261 rfl rfl rfl hw (fun κ48 H locs cells slots hw hH => ?_)
                    refine lv_aload_n hx hb dX11_rename_264 rfl (lv_at hl 3 rfl) ?_
                    refine w_aloadq hF dX11_rename_265 (lv_at hl 0 rfl) ?_
                    refine cw_cVv (b := h) (As := [va_rf z41]) (rest := []) hF hH hA hE mv_X11_584 ci_X11 (by decide) (fun sz => c_X11_done l D t G _ h z41 _ hw.2 sz) dX11_rename_267 hw.1 ⟨Nat.le_of_ble_eq_true rfl, Nat.le_of_ble_eq_true rfl⟩ rfl hl.1 (Nat.le_of_ble_eq_true rfl) rfl (fun κ49 H locs cells slots hw hH => ?_)
                    refine lv_iconst (v := 0) hx hb dX11_rename_270 (by decide) ?_
                    exact cw_reti hF hH ⟨rfl, rfl⟩ hr rfl hlk dX11_rename_271 hw
                  · skip
                    refine cw_ifnull (q := z34) (tgt := 226) hF dX11_rename_149 rfl hw (fun hw => ?_) (fun hw => ?_)
                    · have hl : lv_has ls 11 [(9, .ref o6), (6, va_rf z1), (0, .ref h)] := lv_sub hl [0, 1, 4] rfl
                      exact jn39 () κ30 ls _ _ _ _ hl hw hH
                    · refine lv_aload hx hb dX11_rename_152 (lv_at hl 0 rfl) ?_
                      refine cw_getPr (a := o6) hF hH fk_X11_682 dX11_rename_154 hw (fun z51 hw => ?_)
                      refine w_aloadq hF dX11_rename_157 (lv_at hl 1 rfl) ?_
                      refine cw_acmp_eq (rx := z51) (ry := z1) (tgt := 226) hF dX11_rename_159 rfl hw (fun hw => ?_) (fun hw => ?_)
                      · have hl : lv_has ls 11 [(9, .ref o6), (6, va_rf z1), (0, .ref h)] := lv_sub hl [0, 1, 4] rfl
                        exact jn39 () κ30 ls _ _ _ _ hl hw hH
                      · refine lv_aload hx hb dX11_rename_162 (lv_at hl 0 rfl) ?_
                        refine cw_getPr (a := o6) hF hH fk_X11_682 dX11_rename_164 hw (fun z52 hw => ?_)
                        refine w_astoreq (lv' := [(10, va_rf z52), (9, .ref o6), (6, va_rf z1), (3, .int a3), (1, va_rf a1), (0, .ref h)]) hF dX11_rename_167 hl (by decide) rfl (fun ls hl => ?_)
                        refine w_aloadq_n hF dX11_rename_169 rfl (lv_at hl 4 rfl) ?_
                        refine lv_iload_n hx hb dX11_rename_170 rfl (lv_at hl 3 rfl) ?_
                        refine lv_iconst (v := 1) hx hb dX11_rename_171 (by decide) ?_
                        refine cw_cVlq (q := a1) (As := [.int a3, .int 1]) (rest := []) hF hH hA hE mv_X11_394 ci_X0 (by decide) hw (fun b hw sz => c_X0_number l D t G _ b a3 1 _ hw sz) dX11_rename_172 ⟨Nat.le_of_ble_eq_true rfl, Nat.le_of_ble_eq_true rfl⟩ rfl hl.1 (Nat.le_of_ble_eq_true rfl) rfl (fun z54 κ53 H locs cells slots hw hH => ?_)
                        refine lv_lconst (v := 0) hx hb dX11_rename_175 (by decide) ?_
                        refine w_lif_ne (tgt := 184) hF dX11_rename_176 dX11_rename_177 rfl hw (fun hw => ?_) (fun hw => ?_)
                        · refine w_aloadq hF dX11_rename_184 (lv_at hl 0 rfl) ?_
                          refine cw_getI (q := z52) hF hH fk_X11_577 dX11_rename_186 hw (fun z55 hw => ?_)
                          obtain ⟨K58, hK59, hw⟩ := jc_open hw
                          refine cw_join (K := K58) 211 (fun (x56 : Unit) => []) (fun (x56 : Unit) => []) hl hH (fun x56 κ57 ls H locs cells slots hl hw hH => ?_) (fun jn60 => ?_)
                          · have hw := hK59 x56 κ57 hw
                            have hl : lv_has ls 11 [] := hl
                            refine lv_ldcw (v := (-1073741790)) hx hb hF.1.2.2.2.1 (hF.1.2.2.2.2 _ (wc_22 30 rfl)) dX11_rename_211 ?_
                            exact cw_reti hF hH ⟨rfl, rfl⟩ hr rfl hlk dX11_rename_214 hw
                          · skip
                            refine w_if_ne (tgt := 211) hF dX11_rename_189 rfl hw (fun hw => ?_) (fun hw => ?_)
                            · have hl : lv_has ls 11 [] := lv_sub hl [] rfl
                              exact jn60 () κ53 ls _ _ _ _ hl hw hH
                            · refine lv_aload_n hx hb dX11_rename_192 rfl (lv_at hl 5 rfl) ?_
                              refine w_aloadq hF dX11_rename_193 (lv_at hl 0 rfl) ?_
                              refine cw_cVi (b := h) (As := [va_rf z52]) (rest := []) hF hH hA hE mv_X11_573 ci_X11 (by decide) (fun sz => c_X11_isOpened l D t G _ h z52 _ hw.2 sz) dX11_rename_195 hw.1 ⟨Nat.le_of_ble_eq_true rfl, Nat.le_of_ble_eq_true rfl⟩ rfl hl.1 (Nat.le_of_ble_eq_true rfl) rfl (fun z62 κ61 H locs cells slots hw hH => ?_)
                              refine w_if_ne (tgt := 211) hF dX11_rename_198 rfl hw (fun hw => ?_) (fun hw => ?_)
                              · have hl : lv_has ls 11 [] := lv_sub hl [] rfl
                                exact jn60 () κ61 ls _ _ _ _ hl hw hH
                              · refine w_aloadq hF dX11_rename_201 (lv_at hl 0 rfl) ?_
                                refine cw_getI (q := z52) hF hH fk_X11_742 dX11_rename_203 hw (fun z63 hw => ?_)
                                refine lv_iconst (v := 1) hx hb dX11_rename_206 (by decide) ?_
                                refine lv_iand hx hb dX11_rename_207 ?_
                                refine w_nmi hw (fun z64 hw => ?_)
                                refine w_if_eq (tgt := 215) hF dX11_rename_208 rfl hw (fun hw => ?_) (fun hw => ?_)
                                · refine lv_aload_n hx hb dX11_rename_215 rfl (lv_at hl 5 rfl) ?_
                                  refine lv_aload_n hx hb dX11_rename_216 rfl (lv_at hl 5 rfl) ?_
                                  refine lv_iconst (v := 5) hx hb dX11_rename_217 (by decide) ?_
                                  refine w_aloadq hF dX11_rename_218 (lv_at hl 0 rfl) ?_
                                  refine cw_cVq (b := h) (As := [.int 5, va_rf z52]) (rest := [.ref h]) hF hH hA hE mv_X11_234 ci_X11 (by decide) (fun sz => c_X11_nextChange l D t G _ h 5 z52 _ hw.2 sz) dX11_rename_220 hw.1 ⟨Nat.le_of_ble_eq_true rfl, Nat.le_of_ble_eq_true rfl⟩ rfl hl.1 (Nat.le_of_ble_eq_true rfl) rfl (fun z66 κ65 H locs cells slots hw hH => ?_)
                                  refine cw_cVv (b := h) (As := [va_rf z66]) (rest := []) hF hH hA hE mv_X11_584 ci_X11 (by decide) (fun sz => c_X11_done l D t G _ h z66 _ hw.2 sz) dX11_rename_223 hw.1 ⟨Nat.le_of_ble_eq_true rfl, Nat.le_of_ble_eq_true rfl⟩ rfl hl.1 (Nat.le_of_ble_eq_true rfl) rfl (fun κ67 H locs cells slots hw hH => ?_)
                                  have hl : lv_has ls 11 [(9, .ref o6), (6, va_rf z1), (0, .ref h)] := lv_sub hl [1, 2, 5] rfl
                                  exact jn39 () κ67 ls _ _ _ _ hl hw hH
                                · have hl : lv_has ls 11 [] := lv_sub hl [] rfl
                                  exact jn60 () κ61 ls _ _ _ _ hl hw hH
                        · refine lv_ldcw (v := (-1073741771)) hx hb hF.1.2.2.2.1 (hF.1.2.2.2.2 _ (wc_23 12 rfl)) dX11_rename_180 ?_
                          exact cw_reti hF hH ⟨rfl, rfl⟩ hr rfl hlk dX11_rename_183 hw
                · skip
                  refine w_if_eq (tgt := 144) hF dX11_rename_128 rfl hw (fun hw => ?_) (fun hw => ?_)
                  · have hl : lv_has ls 11 [(9, .ref o6), (6, va_rf z1), (3, .int a3), (1, va_rf a1), (0, .ref h)] := lv_sub hl [0, 2, 6, 4, 3] rfl
                    exact jn33 () κ26 ls _ _ _ _ hl hw hH
                  · refine lv_aload_n hx hb dX11_rename_131 rfl (lv_at hl 3 rfl) ?_
                    refine w_aloadq hF dX11_rename_132 (lv_at hl 2 rfl) ?_
                    refine cw_cVi (b := h) (As := [va_rf z1]) (rest := []) hF hH hA hE mv_X11_969 ci_X11 (by decide) (fun sz => c_X11_isOpenedBelow l D t G _ h z1 _ hw.2 sz) dX11_rename_134 hw.1 ⟨Nat.le_of_ble_eq_true rfl, Nat.le_of_ble_eq_true rfl⟩ rfl hl.1 (Nat.le_of_ble_eq_true rfl) rfl (fun z70 κ69 H locs cells slots hw hH => ?_)
                    refine w_if_eq (tgt := 144) hF dX11_rename_137 rfl hw (fun hw => ?_) (fun hw => ?_)
                    · have hl : lv_has ls 11 [(9, .ref o6), (6, va_rf z1), (3, .int a3), (1, va_rf a1), (0, .ref h)] := lv_sub hl [0, 2, 6, 4, 3] rfl
                      exact jn33 () κ69 ls _ _ _ _ hl hw hH
                    · refine lv_ldcw (v := (-1073741790)) hx hb hF.1.2.2.2.1 (hF.1.2.2.2.2 _ (wc_22 30 rfl)) dX11_rename_140 ?_
                      exact cw_reti hF hH ⟨rfl, rfl⟩ hr rfl hlk dX11_rename_143 hw
              · refine lv_ldcw (v := (-1073741811)) hx hb hF.1.2.2.2.1 (hF.1.2.2.2.2 _ (wc_16 24 rfl)) dX11_rename_119 ?_
                exact cw_reti hF hH ⟨rfl, rfl⟩ hr rfl hlk dX11_rename_122 hw
            · have hl : lv_has ls 11 [] := lv_sub hl [] rfl
              exact jn22 () κ15 ls _ _ _ _ hl hw hH
      · refine lv_ldcw (v := (-1073741766)) hx hb hF.1.2.2.2.1 (hF.1.2.2.2.2 _ (wc_17 36 rfl)) dX11_rename_77 ?_
        exact cw_reti hF hH ⟨rfl, rfl⟩ hr rfl hlk dX11_rename_80 hw
    · refine lv_ldcw (v := (-1073741773)) hx hb hF.1.2.2.2.1 (hF.1.2.2.2.2 _ (wc_31 15 rfl)) dX11_rename_57 ?_
      exact cw_reti hF hH ⟨rfl, rfl⟩ hr rfl hlk dX11_rename_60 hw
  · refine lv_ldcw (v := (-1073741820)) hx hb hF.1.2.2.2.1 (hF.1.2.2.2.2 _ (wc_33 8 rfl)) dX11_rename_29 ?_
    exact cw_reti hF hH ⟨rfl, rfl⟩ hr rfl hlk dX11_rename_32 hw

/-! the class, lifted: 7 -/
set_option maxRecDepth 100000 in
def F_X11_walk (G : GE) (h : Nat) (a1 : Option Nat) (a2 : Option Nat) (post : Int32 → CS → Prop) (κ : CS) : Prop := ∃ b : Nat, a1 = some b ∧ (b ∈ sL κ.1 ∧ sK κ.1 b = 13) ∧ ∀ z1 : Int32, z1 = sI κ.1 b 9 → jc (fun (K4 : (Option Nat) → CS → Prop) => ((¬ z1.toInt = 0) → K4 (none : Option Nat) κ) ∧ ((z1.toInt = 0) → K4 a2 κ)) (fun (x2 : Option Nat) (κ3 : CS) => ∃ b : Nat, a1 = some b ∧ (b ∈ sL κ3.1 ∧ sK κ3.1 b = 13) ∧ ∀ κ7 : CS, κ7 = (h_uP κ3.1 b 11 x2, κ3.2) → ∃ b : Nat, a1 = some b ∧ (b ∈ sL κ7.1 ∧ sK κ7.1 b = 13) ∧ ∀ κ8 : CS, κ8 = (h_uP κ7.1 b 10 a2, κ7.2) → ∃ b : Nat, a1 = some b ∧ (b ∈ sL κ8.1 ∧ sK κ8.1 b = 13) ∧ ∀ κ9 : CS, κ9 = (h_uI κ8.1 b 12 0, κ8.2) → lc (fun (K12 : (Int32 × Int32 × Option Nat) → CS → Prop) (x10 : Int32 × Int32 × Option Nat) (κ11 : CS) => ∃ b : Nat, a1 = some b ∧ (b ∈ sL κ11.1 ∧ sK κ11.1 b = 13) ∧ ∀ z14 : Int32, z14 = sI κ11.1 b 9 → ((z14.toInt ≤ x10.1.toInt) → ∃ b : Nat, a1 = some b ∧ (b ∈ sL κ11.1 ∧ sK κ11.1 b = 13) ∧ ∀ z15 : Int32, z15 = sI κ11.1 b 9 → jc (fun (K18 : Unit → CS → Prop) => ((z15.toInt ≤ 0) → K18 () κ11) ∧ ((0 < z15.toInt) → ∃ b : Nat, a1 = some b ∧ (b ∈ sL κ11.1 ∧ sK κ11.1 b = 13) ∧ ∀ κ21 : CS, κ21 = (h_uP κ11.1 b 10 x10.2.2, κ11.2) → ∃ b : Nat, a1 = some b ∧ (b ∈ sL κ21.1 ∧ sK κ21.1 b = 13) ∧ ∀ κ22 : CS, κ22 = (h_uI κ21.1 b 12 x10.2.1, κ21.2) → (h ∈ sL κ22.1 ∧ sK κ22.1 h = 1) ∧ ∀ z23 : Option Nat, z23 = sP κ22.1 h 3 → ∃ b : Nat, x10.2.2 = some b ∧ (b ∈ sL κ22.1 ∧ sK κ22.1 b = 5) ∧ ∀ z24 : Int32, z24 = sI κ22.1 b 0 → ∃ b : Nat, a1 = some b ∧ (b ∈ sL κ22.1 ∧ sK κ22.1 b = 13) ∧ ∀ z25 : Int32, z25 = sI κ22.1 b 9 → ∃ b : Nat, z23 = some b ∧ (b ∈ sL κ22.1 ∧ sK κ22.1 b = 6) ∧ F_X9_child G b z24 a1 x10.2.1 z25 (fun (z27 : Option Nat) (κ26 : CS) => ∃ b : Nat, a1 = some b ∧ (b ∈ sL κ26.1 ∧ sK κ26.1 b = 13) ∧ ∀ κ28 : CS, κ28 = (h_uP κ26.1 b 11 z27, κ26.2) → K18 () κ28) κ22)) (fun (x16 : Unit) (κ17 : CS) => (0 ≤ (1 : Int32).toInt ∧ (1 : Int32).toInt ≤ 1) ∧ post 1 κ17)) ∧ ((x10.1.toInt < z14.toInt) → ∃ b : Nat, a1 = some b ∧ (b ∈ sL κ11.1 ∧ sK κ11.1 b = 13) ∧ F_X10_unit G b x10.1 (fun (z30 : Int32) (κ29 : CS) => jc (fun (K33 : (Int32 × Option Nat) → CS → Prop) => ((¬ z30.toInt = (92 : Int32).toInt) → K33 (x10.2.1, x10.2.2) κ29) ∧ ((z30.toInt = (92 : Int32).toInt) → (h ∈ sL κ29.1 ∧ sK κ29.1 h = 1) ∧ ∀ z37 : Option Nat, z37 = sP κ29.1 h 3 → ∃ b : Nat, x10.2.2 = some b ∧ (b ∈ sL κ29.1 ∧ sK κ29.1 b = 5) ∧ ∀ z38 : Int32, z38 = sI κ29.1 b 0 → ∃ b : Nat, z37 = some b ∧ (b ∈ sL κ29.1 ∧ sK κ29.1 b = 6) ∧ F_X9_child G b z38 a1 x10.2.1 x10.1 (fun (z40 : Option Nat) (κ39 : CS) => jc (fun (K43 : Unit → CS → Prop) => ((z40 = none) → K43 () κ39) ∧ ((¬ z40 = none) → ∃ b : Nat, z40 = some b ∧ (b ∈ sL κ39.1 ∧ sK κ39.1 b = 5) ∧ ∀ z46 : Int32, z46 = sI κ39.1 b 2 → ((z46.toInt = 0) → K43 () κ39) ∧ ((¬ z46.toInt = 0) → ∃ b : Nat, z40 = some b ∧ (b ∈ sL κ39.1 ∧ sK κ39.1 b = 5) ∧ ∀ z47 : Int32, z47 = sI κ39.1 b 3 → ((z47.toInt = 0) → ∀ z48 : Int32, z48 = x10.1 + 1 → K33 (z48, z40) κ39) ∧ ((¬ z47.toInt = 0) → K43 () κ39)))) (fun (x41 : Unit) (κ42 : CS) => (0 ≤ (0 : Int32).toInt ∧ (0 : Int32).toInt ≤ 1) ∧ post 0 κ42)) κ29)) (fun (x31 : Int32 × Option Nat) (κ32 : CS) => ∀ z36 : Int32, z36 = x10.1 + 1 → K12 (z36, x31.1, x31.2) κ32)) κ11)) (0, 0, a2) κ9)
theorem dX11_walk_0 : decode cX11_walk 0 = .ok (.aload_n 2, 1) := by decide +kernel
theorem dX11_walk_1 : decode cX11_walk 1 = .ok (.astore_n 3, 1) := by decide +kernel
theorem dX11_walk_2 : decode cX11_walk 2 = .ok (.iconst 0, 1) := by decide +kernel
theorem dX11_walk_3 : decode cX11_walk 3 = .ok (.istore 4, 2) := by decide +kernel
theorem dX11_walk_5 : decode cX11_walk 5 = .ok (.aload_n 1, 1) := by decide +kernel
theorem dX11_walk_6 : decode cX11_walk 6 = .ok (.aload_n 1, 1) := by decide +kernel
theorem dX11_walk_7 : decode cX11_walk 7 = .ok (.getfield 692, 3) := by decide +kernel
theorem dX11_walk_10 : decode cX11_walk 10 = .ok (.ifCond .ne 7, 3) := by decide +kernel
theorem dX11_walk_13 : decode cX11_walk 13 = .ok (.aload_n 2, 1) := by decide +kernel
theorem dX11_walk_14 : decode cX11_walk 14 = .ok (.goto 4, 3) := by decide +kernel
theorem dX11_walk_17 : decode cX11_walk 17 = .ok (.aconst_null, 1) := by decide +kernel
theorem dX11_walk_18 : decode cX11_walk 18 = .ok (.putfield 682, 3) := by decide +kernel
theorem dX11_walk_21 : decode cX11_walk 21 = .ok (.aload_n 1, 1) := by decide +kernel
theorem dX11_walk_22 : decode cX11_walk 22 = .ok (.aload_n 2, 1) := by decide +kernel
theorem dX11_walk_23 : decode cX11_walk 23 = .ok (.putfield 693, 3) := by decide +kernel
theorem dX11_walk_26 : decode cX11_walk 26 = .ok (.aload_n 1, 1) := by decide +kernel
theorem dX11_walk_27 : decode cX11_walk 27 = .ok (.iconst 0, 1) := by decide +kernel
theorem dX11_walk_28 : decode cX11_walk 28 = .ok (.putfield 696, 3) := by decide +kernel
theorem dX11_walk_31 : decode cX11_walk 31 = .ok (.iconst 0, 1) := by decide +kernel
theorem dX11_walk_32 : decode cX11_walk 32 = .ok (.istore 5, 2) := by decide +kernel
theorem dX11_walk_34 : decode cX11_walk 34 = .ok (.iload 5, 2) := by decide +kernel
theorem dX11_walk_36 : decode cX11_walk 36 = .ok (.aload_n 1, 1) := by decide +kernel
theorem dX11_walk_37 : decode cX11_walk 37 = .ok (.getfield 692, 3) := by decide +kernel
theorem dX11_walk_40 : decode cX11_walk 40 = .ok (.if_icmp .ge 63, 3) := by decide +kernel
theorem dX11_walk_43 : decode cX11_walk 43 = .ok (.aload_n 1, 1) := by decide +kernel
theorem dX11_walk_44 : decode cX11_walk 44 = .ok (.iload 5, 2) := by decide +kernel
theorem dX11_walk_46 : decode cX11_walk 46 = .ok (.invokevirtual 699, 3) := by decide +kernel
theorem dX11_walk_49 : decode cX11_walk 49 = .ok (.bipush 92, 2) := by decide +kernel
theorem dX11_walk_51 : decode cX11_walk 51 = .ok (.if_icmp .ne 46, 3) := by decide +kernel
theorem dX11_walk_54 : decode cX11_walk 54 = .ok (.aload_n 0, 1) := by decide +kernel
theorem dX11_walk_55 : decode cX11_walk 55 = .ok (.getfield 29, 3) := by decide +kernel
theorem dX11_walk_58 : decode cX11_walk 58 = .ok (.aload_n 3, 1) := by decide +kernel
theorem dX11_walk_59 : decode cX11_walk 59 = .ok (.getfield 248, 3) := by decide +kernel
theorem dX11_walk_62 : decode cX11_walk 62 = .ok (.aload_n 1, 1) := by decide +kernel
theorem dX11_walk_63 : decode cX11_walk 63 = .ok (.iload 4, 2) := by decide +kernel
theorem dX11_walk_65 : decode cX11_walk 65 = .ok (.iload 5, 2) := by decide +kernel
theorem dX11_walk_67 : decode cX11_walk 67 = .ok (.invokevirtual 702, 3) := by decide +kernel
theorem dX11_walk_70 : decode cX11_walk 70 = .ok (.astore_n 3, 1) := by decide +kernel
theorem dX11_walk_71 : decode cX11_walk 71 = .ok (.aload_n 3, 1) := by decide +kernel
theorem dX11_walk_72 : decode cX11_walk 72 = .ok (.ifnull 17, 3) := by decide +kernel
theorem dX11_walk_75 : decode cX11_walk 75 = .ok (.aload_n 3, 1) := by decide +kernel
theorem dX11_walk_76 : decode cX11_walk 76 = .ok (.getfield 577, 3) := by decide +kernel
theorem dX11_walk_79 : decode cX11_walk 79 = .ok (.ifCond .eq 10, 3) := by decide +kernel
theorem dX11_walk_82 : decode cX11_walk 82 = .ok (.aload_n 3, 1) := by decide +kernel
theorem dX11_walk_83 : decode cX11_walk 83 = .ok (.getfield 567, 3) := by decide +kernel
theorem dX11_walk_86 : decode cX11_walk 86 = .ok (.ifCond .eq 5, 3) := by decide +kernel
theorem dX11_walk_89 : decode cX11_walk 89 = .ok (.iconst 0, 1) := by decide +kernel
theorem dX11_walk_90 : decode cX11_walk 90 = .ok (.ireturn, 1) := by decide +kernel
theorem dX11_walk_91 : decode cX11_walk 91 = .ok (.iload 5, 2) := by decide +kernel
theorem dX11_walk_93 : decode cX11_walk 93 = .ok (.iconst 1, 1) := by decide +kernel
theorem dX11_walk_94 : decode cX11_walk 94 = .ok (.iadd, 1) := by decide +kernel
theorem dX11_walk_95 : decode cX11_walk 95 = .ok (.istore 4, 2) := by decide +kernel
theorem dX11_walk_97 : decode cX11_walk 97 = .ok (.iinc 5 1, 3) := by decide +kernel
theorem dX11_walk_100 : decode cX11_walk 100 = .ok (.goto (-66), 3) := by decide +kernel
theorem dX11_walk_103 : decode cX11_walk 103 = .ok (.aload_n 1, 1) := by decide +kernel
theorem dX11_walk_104 : decode cX11_walk 104 = .ok (.getfield 692, 3) := by decide +kernel
theorem dX11_walk_107 : decode cX11_walk 107 = .ok (.ifCond .le 36, 3) := by decide +kernel
theorem dX11_walk_110 : decode cX11_walk 110 = .ok (.aload_n 1, 1) := by decide +kernel
theorem dX11_walk_111 : decode cX11_walk 111 = .ok (.aload_n 3, 1) := by decide +kernel
theorem dX11_walk_112 : decode cX11_walk 112 = .ok (.putfield 693, 3) := by decide +kernel
theorem dX11_walk_115 : decode cX11_walk 115 = .ok (.aload_n 1, 1) := by decide +kernel
theorem dX11_walk_116 : decode cX11_walk 116 = .ok (.iload 4, 2) := by decide +kernel
theorem dX11_walk_118 : decode cX11_walk 118 = .ok (.putfield 696, 3) := by decide +kernel
theorem dX11_walk_121 : decode cX11_walk 121 = .ok (.aload_n 1, 1) := by decide +kernel
theorem dX11_walk_122 : decode cX11_walk 122 = .ok (.aload_n 0, 1) := by decide +kernel
theorem dX11_walk_123 : decode cX11_walk 123 = .ok (.getfield 29, 3) := by decide +kernel
theorem dX11_walk_126 : decode cX11_walk 126 = .ok (.aload_n 3, 1) := by decide +kernel
theorem dX11_walk_127 : decode cX11_walk 127 = .ok (.getfield 248, 3) := by decide +kernel
theorem dX11_walk_130 : decode cX11_walk 130 = .ok (.aload_n 1, 1) := by decide +kernel
theorem dX11_walk_131 : decode cX11_walk 131 = .ok (.iload 4, 2) := by decide +kernel
theorem dX11_walk_133 : decode cX11_walk 133 = .ok (.aload_n 1, 1) := by decide +kernel
theorem dX11_walk_134 : decode cX11_walk 134 = .ok (.getfield 692, 3) := by decide +kernel
theorem dX11_walk_137 : decode cX11_walk 137 = .ok (.invokevirtual 702, 3) := by decide +kernel
theorem dX11_walk_140 : decode cX11_walk 140 = .ok (.putfield 682, 3) := by decide +kernel
theorem dX11_walk_143 : decode cX11_walk 143 = .ok (.iconst 1, 1) := by decide +kernel
theorem dX11_walk_144 : decode cX11_walk 144 = .ok (.ireturn, 1) := by decide +kernel
set_option maxRecDepth 100000 in
set_option maxHeartbeats 4000000 in
theorem c_X11_walk (l : Launch) (D : va_G) (t : Nat → ClassId) (G : GE) (κ : CS) (h : Nat) (a1 : Option Nat) (a2 : Option Nat) (post : Int32 → CS → Prop) (hw : F_X11_walk G h a1 a2 post κ) (sz : Nat) : CMi l D t yX11_walk cX11_walk 6 (some .boolean) 2 63 G κ sz [.ref h, va_rf a1, va_rf a2] post := by
  refine c_go (by decide) (by cases a1 <;> cases a2 <;> exact Nat.le_of_ble_eq_true rfl) ?_
  intro p e s m below meth c ls A hF hr hlk hin hAe hH hA hE hl
  unfold cB
  rw [hAe]
  clear hAe
  have hF : FX p m c cX11_walk 6 s _ RX11 D t := hF
  have hx := hF.1.1
  have hb := hF.1.2.1
  have hl : lv_has ls 6 [(0, .ref h), (1, va_rf a1), (2, va_rf a2)] := (by have h2 := hl; clear hw; revert h2; cases a1 <;> cases a2 <;> exact id)
  unfold F_X11_walk at hw
  refine w_aloadq_n hF dX11_walk_0 rfl (lv_at hl 2 rfl) ?_
  refine w_astoreq_n (lv' := [(3, va_rf a2), (0, .ref h), (1, va_rf a1), (2, va_rf a2)]) hF dX11_walk_1 rfl hl (by decide) (by generalize a2 = y; cases y <;> rfl) (fun ls hl => ?_)
  refine lv_iconst (v := 0) hx hb dX11_walk_2 (by decide) ?_
  refine lv_istore (lv' := [(4, .int 0), (3, va_rf a2), (0, .ref h), (1, va_rf a1), (2, va_rf a2)]) hx hb dX11_walk_3 hl (by decide) (by generalize a2 = y; cases y <;> rfl) (fun ls hl => ?_)
  refine w_aloadq_n hF dX11_walk_5 rfl (lv_at hl 3 rfl) ?_
  refine w_aloadq_n hF dX11_walk_6 rfl (lv_at hl 3 rfl) ?_
  refine cw_getI (q := a1) hF hH fk_X11_692 dX11_walk_7 hw (fun z1 hw => ?_)
  obtain ⟨K4, hK5, hw⟩ := jc_open hw
  refine cw_join (K := K4) 18 (fun (x2 : Option Nat) => [(4, .int 0), (3, va_rf a2), (2, va_rf a2), (1, va_rf a1), (0, .ref h)]) (fun (x2 : Option Nat) => [va_rf x2, va_rf a1]) hl hH (fun x2 κ3 ls H locs cells slots hl hw hH => ?_) (fun jn6 => ?_)
  · have hw := hK5 x2 κ3 hw
    have hl : lv_has ls 6 [(4, .int 0), (3, va_rf a2), (2, va_rf a2), (1, va_rf a1), (0, .ref h)] := hl
    refine cw_putP (q := a1) (v := x2) hF hH fk_X11_682 dX11_walk_18 rfl rfl hw (fun κ7 H locs cells slots hw hH => ?_)
    refine w_aloadq_n hF dX11_walk_21 rfl (lv_at hl 3 rfl) ?_
    refine w_aloadq_n hF dX11_walk_22 rfl (lv_at hl 2 rfl) ?_
    refine cw_putP (q := a1) (v := a2) hF hH fk_X11_693 dX11_walk_23 rfl rfl hw (fun κ8 H locs cells slots hw hH => ?_)
    refine w_aloadq_n hF dX11_walk_26 rfl (lv_at hl 3 rfl) ?_
    refine lv_iconst (v := 0) hx hb dX11_walk_27 (by decide) ?_
    refine cw_putI (q := a1) (v := 0) hF hH fk_X11_696 dX11_walk_28 rfl rfl rfl hw (fun κ9 H locs cells slots hw hH => ?_)
    refine lv_iconst (v := 0) hx hb dX11_walk_31 (by decide) ?_
    refine lv_istore (lv' := [(5, .int 0), (4, .int 0), (3, va_rf a2), (2, va_rf a2), (1, va_rf a1), (0, .ref h)]) hx hb dX11_walk_32 hl (by decide) rfl (fun ls hl => ?_)
    have hl : lv_has ls 6 [(5, .int 0), (4, .int 0), (3, va_rf a2), (1, va_rf a1), (0, .ref h)] := lv_sub hl [0, 1, 2, 4, 5] rfl
    refine cw_loop (β := Int32 × Int32 × Option Nat) (fun x10 => [(5, .int x10.1), (4, .int x10.2.1), (3, va_rf x10.2.2), (1, va_rf a1), (0, .ref h)]) (0, 0, a2) hl hw hH (fun K12 x10 κ11 ls H locs cells slots hl hw hH ih13 => ?_)
    have hl : lv_has ls 6 [(5, .int x10.1), (4, .int x10.2.1), (3, va_rf x10.2.2), (1, va_rf a1), (0, .ref h)] := hl
    refine lv_iload hx hb dX11_walk_34 (lv_at hl 0 rfl) ?_
    refine w_aloadq_n hF dX11_walk_36 rfl (lv_at hl 3 rfl) ?_
    refine cw_getI (q := a1) hF hH fk_X11_692 dX11_walk_37 hw (fun z14 hw => ?_)
    refine w_icmp_ge (tgt := 103) hF dX11_walk_40 rfl hw (fun hw => ?_) (fun hw => ?_)
    · refine w_aloadq_n hF dX11_walk_103 rfl (lv_at hl 3 rfl) ?_
      refine cw_getI (q := a1) hF hH fk_X11_692 dX11_walk_104 hw (fun z15 hw => ?_)
      obtain ⟨K18, hK19, hw⟩ := jc_open hw
      refine cw_join (K := K18) 143 (fun (x16 : Unit) => []) (fun (x16 : Unit) => []) hl hH (fun x16 κ17 ls H locs cells slots hl hw hH => ?_) (fun jn20 => ?_)
      · have hw := hK19 x16 κ17 hw
        have hl : lv_has ls 6 [] := hl
        refine lv_iconst (v := 1) hx hb dX11_walk_143 (by decide) ?_
        exact cw_retz hF hH ⟨rfl, rfl⟩ hr hlk dX11_walk_144 hw
      · skip
        refine w_if_le (tgt := 143) hF dX11_walk_107 rfl hw (fun hw => ?_) (fun hw => ?_)
        · have hl : lv_has ls 6 [] := lv_sub hl [] rfl
          exact jn20 () κ11 ls _ _ _ _ hl hw hH
        · refine w_aloadq_n hF dX11_walk_110 rfl (lv_at hl 3 rfl) ?_
          refine w_aloadq_n hF dX11_walk_111 rfl (lv_at hl 2 rfl) ?_
          refine cw_putP (q := a1) (v := x10.2.2) hF hH fk_X11_693 dX11_walk_112 rfl rfl hw (fun κ21 H locs cells slots hw hH => ?_)
          refine w_aloadq_n hF dX11_walk_115 rfl (lv_at hl 3 rfl) ?_
          refine lv_iload hx hb dX11_walk_116 (lv_at hl 1 rfl) ?_
          refine cw_putI (q := a1) (v := x10.2.1) hF hH fk_X11_696 dX11_walk_118 rfl rfl rfl hw (fun κ22 H locs cells slots hw hH => ?_)
          refine w_aloadq_n hF dX11_walk_121 rfl (lv_at hl 3 rfl) ?_
          refine lv_aload_n hx hb dX11_walk_122 rfl (lv_at hl 4 rfl) ?_
          refine cw_getPr (a := h) hF hH fk_X11_29 dX11_walk_123 hw (fun z23 hw => ?_)
          refine w_aloadq_n hF dX11_walk_126 rfl (lv_at hl 2 rfl) ?_
          refine cw_getI (q := x10.2.2) hF hH fk_X11_248 dX11_walk_127 hw (fun z24 hw => ?_)
          refine w_aloadq_n hF dX11_walk_130 rfl (lv_at hl 3 rfl) ?_
          refine lv_iload hx hb dX11_walk_131 (lv_at hl 1 rfl) ?_
          refine w_aloadq_n hF dX11_walk_133 rfl (lv_at hl 3 rfl) ?_
          refine cw_getI (q := a1) hF hH fk_X11_692 dX11_walk_134 hw (fun z25 hw => ?_)
          refine cw_cVqq (q := z23) (As := [.int z24, va_rf a1, .int x10.2.1, .int z25]) (rest := [va_rf a1]) hF hH hA hE mv_X11_702 ci_X9 (by decide) hw (fun b hw sz => c_X9_child l D t G _ b z24 a1 x10.2.1 z25 _ hw sz) dX11_walk_137 ⟨Nat.le_of_ble_eq_true rfl, Nat.le_of_ble_eq_true rfl⟩ rfl hl.1 (by simp only [List.map_cons, List.map_nil, cat_rf]; exact Nat.le_of_ble_eq_true rfl) rfl (fun z27 κ26 H locs cells slots hw hH => ?_)
          refine cw_putP (q := a1) (v := z27) hF hH fk_X11_682 dX11_walk_140 rfl rfl hw (fun κ28 H locs cells slots hw hH => ?_)
          have hl : lv_has ls 6 [] := lv_sub hl [] rfl
          exact jn20 () κ28 ls _ _ _ _ hl hw hH
    · refine w_aloadq_n hF dX11_walk_43 rfl (lv_at hl 3 rfl) ?_
      refine lv_iload hx hb dX11_walk_44 (lv_at hl 0 rfl) ?_
      refine cw_cViq (q := a1) (As := [.int x10.1]) (rest := []) hF hH hA hE mv_X11_699 ci_X10 (by decide) hw (fun b hw sz => c_X10_unit l D t G _ b x10.1 _ hw sz) dX11_walk_46 ⟨Nat.le_of_ble_eq_true rfl, Nat.le_of_ble_eq_true rfl⟩ rfl hl.1 (Nat.le_of_ble_eq_true rfl) rfl (fun z30 κ29 H locs cells slots hw hH => ?_)
      refine lv_bipush (v := 92) hx hb dX11_walk_49 (by decide) ?_
      obtain ⟨K33, hK34, hw⟩ := jc_open hw
      refine cw_join (K := K33) 97 (fun (x31 : Int32 × Option Nat) => [(5, .int x10.1), (4, .int x31.1), (3, va_rf x31.2), (1, va_rf a1), (0, .ref h)]) (fun (x31 : Int32 × Option Nat) => []) hl hH (fun x31 κ32 ls H locs cells slots hl hw hH => ?_) (fun jn35 => ?_)
      · have hw := hK34 x31 κ32 hw
        have hl : lv_has ls 6 [(5, .int x10.1), (4, .int x31.1), (3, va_rf x31.2), (1, va_rf a1), (0, .ref h)] := hl
        obtain ⟨z36, ez36⟩ : ∃ z : Int32, z = x10.1 + 1 := ⟨_, rfl⟩
        have hw := hw z36 ez36
        refine lv_iinc (lv' := [(5, .int z36), (4, .int x31.1), (3, va_rf x31.2), (1, va_rf a1), (0, .ref h)]) (k := 0) (v := z36) hx hb dX11_walk_97 hl rfl ez36.symm (by decide) rfl (fun ls hl => ?_)
        refine lv_goto (tgt := 34) hx hb dX11_walk_100 rfl ?_
        exact ih13 (z36, x31.1, x31.2) κ32 ls _ _ _ _ hl hw hH
      · skip
        refine w_icmp_ne (tgt := 97) hF dX11_walk_51 rfl hw (fun hw => ?_) (fun hw => ?_)
        · exact jn35 (x10.2.1, x10.2.2) κ29 ls _ _ _ _ hl hw hH
        · refine lv_aload_n hx hb dX11_walk_54 rfl (lv_at hl 4 rfl) ?_
          refine cw_getPr (a := h) hF hH fk_X11_29 dX11_walk_55 hw (fun z37 hw => ?_)
          refine w_aloadq_n hF dX11_walk_58 rfl (lv_at hl 2 rfl) ?_
          refine cw_getI (q := x10.2.2) hF hH fk_X11_248 dX11_walk_59 hw (fun z38 hw => ?_)
          refine w_aloadq_n hF dX11_walk_62 rfl (lv_at hl 3 rfl) ?_
          refine lv_iload hx hb dX11_walk_63 (lv_at hl 1 rfl) ?_
          refine lv_iload hx hb dX11_walk_65 (lv_at hl 0 rfl) ?_
          refine cw_cVqq (q := z37) (As := [.int z38, va_rf a1, .int x10.2.1, .int x10.1]) (rest := []) hF hH hA hE mv_X11_702 ci_X9 (by decide) hw (fun b hw sz => c_X9_child l D t G _ b z38 a1 x10.2.1 x10.1 _ hw sz) dX11_walk_67 ⟨Nat.le_of_ble_eq_true rfl, Nat.le_of_ble_eq_true rfl⟩ rfl hl.1 (Nat.le_of_ble_eq_true rfl) rfl (fun z40 κ39 H locs cells slots hw hH => ?_)
          refine w_astoreq_n (lv' := [(3, va_rf z40), (5, .int x10.1), (4, .int x10.2.1), (1, va_rf a1), (0, .ref h)]) hF dX11_walk_70 rfl hl (by decide) rfl (fun ls hl => ?_)
          refine w_aloadq_n hF dX11_walk_71 rfl (lv_at hl 0 rfl) ?_
          obtain ⟨K43, hK44, hw⟩ := jc_open hw
          refine cw_join (K := K43) 89 (fun (x41 : Unit) => []) (fun (x41 : Unit) => []) hl hH (fun x41 κ42 ls H locs cells slots hl hw hH => ?_) (fun jn45 => ?_)
          · have hw := hK44 x41 κ42 hw
            have hl : lv_has ls 6 [] := hl
            refine lv_iconst (v := 0) hx hb dX11_walk_89 (by decide) ?_
            exact cw_retz hF hH ⟨rfl, rfl⟩ hr hlk dX11_walk_90 hw
          · skip
            refine cw_ifnull (q := z40) (tgt := 89) hF dX11_walk_72 rfl hw (fun hw => ?_) (fun hw => ?_)
            · have hl : lv_has ls 6 [] := lv_sub hl [] rfl
              exact jn45 () κ39 ls _ _ _ _ hl hw hH
            · refine w_aloadq_n hF dX11_walk_75 rfl (lv_at hl 0 rfl) ?_
              refine cw_getI (q := z40) hF hH fk_X11_577 dX11_walk_76 hw (fun z46 hw => ?_)
              refine w_if_eq (tgt := 89) hF dX11_walk_79 rfl hw (fun hw => ?_) (fun hw => ?_)
              · have hl : lv_has ls 6 [] := lv_sub hl [] rfl
                exact jn45 () κ39 ls _ _ _ _ hl hw hH
              · refine w_aloadq_n hF dX11_walk_82 rfl (lv_at hl 0 rfl) ?_
                refine cw_getI (q := z40) hF hH fk_X11_567 dX11_walk_83 hw (fun z47 hw => ?_)
                refine w_if_eq (tgt := 91) hF dX11_walk_86 rfl hw (fun hw => ?_) (fun hw => ?_)
                · refine lv_iload hx hb dX11_walk_91 (lv_at hl 1 rfl) ?_
                  refine lv_iconst (v := 1) hx hb dX11_walk_93 (by decide) ?_
                  refine lv_iadd hx hb dX11_walk_94 ?_
                  refine w_nmi hw (fun z48 hw => ?_)
                  refine lv_istore (lv' := [(4, .int z48), (3, va_rf z40), (5, .int x10.1), (1, va_rf a1), (0, .ref h)]) hx hb dX11_walk_95 hl (by decide) (by generalize z40 = y; cases y <;> rfl) (fun ls hl => ?_)
                  have hl : lv_has ls 6 [(5, .int x10.1), (4, .int z48), (3, va_rf z40), (1, va_rf a1), (0, .ref h)] := lv_sub hl [2, 0, 1, 3, 4] rfl
                  exact jn35 (z48, z40) κ39 ls _ _ _ _ hl hw hH
                · have hl : lv_has ls 6 [] := lv_sub hl [] rfl
                  exact jn45 () κ39 ls _ _ _ _ hl hw hH
  · skip
    refine w_if_ne (tgt := 17) hF dX11_walk_10 rfl hw (fun hw => ?_) (fun hw => ?_)
    · refine cw_null dX11_walk_17 hF ?_
      have hl : lv_has ls 6 [(4, .int 0), (3, va_rf a2), (2, va_rf a2), (1, va_rf a1), (0, .ref h)] := lv_sub hl [0, 1, 4, 3, 2] rfl
      exact jn6 (none : Option Nat) κ ls _ _ _ _ hl hw hH
    · refine w_aloadq_n hF dX11_walk_13 rfl (lv_at hl 4 rfl) ?_
      refine lv_goto (tgt := 18) hx hb dX11_walk_14 rfl ?_
      have hl : lv_has ls 6 [(4, .int 0), (3, va_rf a2), (2, va_rf a2), (1, va_rf a1), (0, .ref h)] := lv_sub hl [0, 1, 4, 3, 2] rfl
      exact jn6 a2 κ ls _ _ _ _ hl hw hH
set_option maxRecDepth 100000 in
def F_X11_done (G : GE) (h : Nat) (a1 : Option Nat) (post : CS → Prop) (κ : CS) : Prop := (h ∈ sL κ.1 ∧ sK κ.1 h = 1) ∧ ∀ z1 : Option Nat, z1 = sP κ.1 h 3 → ∃ b : Nat, z1 = some b ∧ (b ∈ sL κ.1 ∧ sK κ.1 b = 6) ∧ F_X9_apply G b a1 (fun (κ2 : CS) => (h ∈ sL κ2.1 ∧ sK κ2.1 h = 1) ∧ ∀ z4 : Int32, z4 = sI κ2.1 h 6 → ∀ z5 : Int32, z5 = z4 + 1 → (h ∈ sL κ2.1 ∧ sK κ2.1 h = 1) ∧ ∀ κ6 : CS, κ6 = (h_uI κ2.1 h 6 z5, κ2.2) → (h ∈ sL κ6.1 ∧ sK κ6.1 h = 1) ∧ ∀ z7 : Int32, z7 = sI κ6.1 h 6 → jc (fun (K10 : Unit → CS → Prop) => ((z7.toInt < (8 : Int32).toInt) → K10 () κ6) ∧ (((8 : Int32).toInt ≤ z7.toInt) → (h ∈ sL κ6.1 ∧ sK κ6.1 h = 1) ∧ F_X11_comeToDisk G h  (fun (κ13 : CS) => K10 () κ13) κ6)) (fun (x8 : Unit) (κ9 : CS) => post κ9)) κ
theorem dX11_done_0 : decode cX11_done 0 = .ok (.aload_n 0, 1) := by decide +kernel
theorem dX11_done_1 : decode cX11_done 1 = .ok (.getfield 29, 3) := by decide +kernel
theorem dX11_done_4 : decode cX11_done 4 = .ok (.aload_n 1, 1) := by decide +kernel
theorem dX11_done_5 : decode cX11_done 5 = .ok (.invokevirtual 244, 3) := by decide +kernel
theorem dX11_done_8 : decode cX11_done 8 = .ok (.aload_n 0, 1) := by decide +kernel
theorem dX11_done_9 : decode cX11_done 9 = .ok (.dup, 1) := by decide +kernel
theorem dX11_done_10 : decode cX11_done 10 = .ok (.getfield 182, 3) := by decide +kernel
theorem dX11_done_13 : decode cX11_done 13 = .ok (.iconst 1, 1) := by decide +kernel
theorem dX11_done_14 : decode cX11_done 14 = .ok (.iadd, 1) := by decide +kernel
theorem dX11_done_15 : decode cX11_done 15 = .ok (.putfield 182, 3) := by decide +kernel
theorem dX11_done_18 : decode cX11_done 18 = .ok (.aload_n 0, 1) := by decide +kernel
theorem dX11_done_19 : decode cX11_done 19 = .ok (.getfield 182, 3) := by decide +kernel
theorem dX11_done_22 : decode cX11_done 22 = .ok (.bipush 8, 2) := by decide +kernel
theorem dX11_done_24 : decode cX11_done 24 = .ok (.if_icmp .lt 7, 3) := by decide +kernel
theorem dX11_done_27 : decode cX11_done 27 = .ok (.aload_n 0, 1) := by decide +kernel
theorem dX11_done_28 : decode cX11_done 28 = .ok (.invokevirtual 185, 3) := by decide +kernel
theorem dX11_done_31 : decode cX11_done 31 = .ok (.return_, 1) := by decide +kernel
set_option maxRecDepth 100000 in
set_option maxHeartbeats 4000000 in
theorem c_X11_done (l : Launch) (D : va_G) (t : Nat → ClassId) (G : GE) (κ : CS) (h : Nat) (a1 : Option Nat) (post : CS → Prop) (hw : F_X11_done G h a1 post κ) (sz : Nat) : CMv l D t yX11_done cX11_done 2 4 107 G κ sz [.ref h, va_rf a1] post := by
  refine c_go (by decide) (by cases a1 <;> exact Nat.le_of_ble_eq_true rfl) ?_
  intro p e s m below meth c ls A hF hr hlk hin hAe hH hA hE hl
  unfold cB
  rw [hAe]
  clear hAe
  have hF : FX p m c cX11_done 2 s _ RX11 D t := hF
  have hx := hF.1.1
  have hb := hF.1.2.1
  have hl : lv_has ls 2 [(0, .ref h), (1, va_rf a1)] := (by have h2 := hl; clear hw; revert h2; cases a1 <;> exact id)
  unfold F_X11_done at hw
  refine lv_aload_n hx hb dX11_done_0 rfl (lv_at hl 0 rfl) ?_
  refine cw_getPr (a := h) hF hH fk_X11_29 dX11_done_1 hw (fun z1 hw => ?_)
  refine w_aloadq_n hF dX11_done_4 rfl (lv_at hl 1 rfl) ?_
  refine cw_cVvq (q := z1) (As := [va_rf a1]) (rest := []) hF hH hA hE mv_X11_244 ci_X9 (by decide) hw (fun b hw sz => c_X9_apply l D t G _ b a1 _ hw sz) dX11_done_5 ⟨Nat.le_of_ble_eq_true rfl, Nat.le_of_ble_eq_true rfl⟩ rfl hl.1 (Nat.le_of_ble_eq_true rfl) rfl (fun κ2 H locs cells slots hw hH => ?_)
  refine lv_aload_n hx hb dX11_done_8 rfl (lv_at hl 0 rfl) ?_
  refine lv_dup hx hb dX11_done_9 rfl ?_
  refine cw_getIr (a := h) hF hH fk_X11_182 dX11_done_10 hw (fun z4 hw => ?_)
  refine lv_iconst (v := 1) hx hb dX11_done_13 (by decide) ?_
  refine lv_iadd hx hb dX11_done_14 ?_
  refine w_nmi hw (fun z5 hw => ?_)
  refine cw_putIr (a := h) (v := z5) hF hH fk_X11_182 dX11_done_15 rfl rfl rfl hw (fun κ6 H locs cells slots hw hH => ?_)
  refine lv_aload_n hx hb dX11_done_18 rfl (lv_at hl 0 rfl) ?_
  refine cw_getIr (a := h) hF hH fk_X11_182 dX11_done_19 hw (fun z7 hw => ?_)
  refine lv_bipush (v := 8) hx hb dX11_done_22 (by decide) ?_
  obtain ⟨K10, hK11, hw⟩ := jc_open hw
  refine cw_join (K := K10) 31 (fun (x8 : Unit) => []) (fun (x8 : Unit) => []) hl hH (fun x8 κ9 ls H locs cells slots hl hw hH => ?_) (fun jn12 => ?_)
  · have hw := hK11 x8 κ9 hw
    have hl : lv_has ls 2 [] := hl
    exact cw_retv hF hH ⟨rfl, rfl⟩ hr hlk dX11_done_31 hw
  · skip
    refine w_icmp_lt (tgt := 31) hF dX11_done_24 rfl hw (fun hw => ?_) (fun hw => ?_)
    · have hl : lv_has ls 2 [] := lv_sub hl [] rfl
      exact jn12 () κ6 ls _ _ _ _ hl hw hH
    · refine lv_aload_n hx hb dX11_done_27 rfl (lv_at hl 0 rfl) ?_
      refine cw_cVv (b := h) (As := []) (rest := []) hF hH hA hE mv_X11_185 ci_X11 (by decide) (fun sz => c_X11_comeToDisk l D t G _ h  _ hw.2 sz) dX11_done_28 hw.1 ⟨Nat.le_of_ble_eq_true rfl, Nat.le_of_ble_eq_true rfl⟩ rfl hl.1 (Nat.le_of_ble_eq_true rfl) rfl (fun κ13 H locs cells slots hw hH => ?_)
      have hl : lv_has ls 2 [] := lv_sub hl [] rfl
      exact jn12 () κ13 ls _ _ _ _ hl hw hH
set_option maxRecDepth 100000 in
def F_X11_isOpened (G : GE) (h : Nat) (a1 : Option Nat) (post : Int32 → CS → Prop) (κ : CS) : Prop := lc (fun (K3 : Int32 → CS → Prop) (x1 : Int32) (κ2 : CS) => (h ∈ sL κ2.1 ∧ sK κ2.1 h = 1) ∧ ∀ z5 : Option Nat, z5 = sP κ2.1 h 10 → ∃ b : Nat, z5 = some b ∧ (b ∈ sL κ2.1 ∧ sK κ2.1 b = 7) ∧ F_Jx4a65c_size_8abf5 G b  (fun (z7 : Int32) (κ6 : CS) => ((z7.toInt ≤ x1.toInt) → (0 ≤ (0 : Int32).toInt ∧ (0 : Int32).toInt ≤ 1) ∧ post 0 κ6) ∧ ((x1.toInt < z7.toInt) → (h ∈ sL κ6.1 ∧ sK κ6.1 h = 1) ∧ ∀ z8 : Option Nat, z8 = sP κ6.1 h 10 → ∃ b : Nat, z8 = some b ∧ (b ∈ sL κ6.1 ∧ sK κ6.1 b = 7) ∧ F_Jx4a65c_get_915e3 G b x1 (fun (z10 : Option Nat) (κ9 : CS) => (z10 = none ∨ ∃ b : Nat, z10 = some b ∧ b ∈ sL κ9.1 ∧ sK κ9.1 b = 10) ∧ ∃ b : Nat, z10 = some b ∧ (b ∈ sL κ9.1 ∧ sK κ9.1 b = 10) ∧ ∀ z11 : Option Nat, z11 = sP κ9.1 b 2 → ((¬ z11 = a1) → ∀ z12 : Int32, z12 = x1 + 1 → K3 z12 κ9) ∧ ((z11 = a1) → (0 ≤ (1 : Int32).toInt ∧ (1 : Int32).toInt ≤ 1) ∧ post 1 κ9)) κ6)) κ2) 0 κ
theorem dX11_isOpened_0 : decode cX11_isOpened 0 = .ok (.iconst 0, 1) := by decide +kernel
theorem dX11_isOpened_1 : decode cX11_isOpened 1 = .ok (.istore_n 2, 1) := by decide +kernel
theorem dX11_isOpened_2 : decode cX11_isOpened 2 = .ok (.iload_n 2, 1) := by decide +kernel
theorem dX11_isOpened_3 : decode cX11_isOpened 3 = .ok (.aload_n 0, 1) := by decide +kernel
theorem dX11_isOpened_4 : decode cX11_isOpened 4 = .ok (.getfield 52, 3) := by decide +kernel
theorem dX11_isOpened_7 : decode cX11_isOpened 7 = .ok (.invokevirtual 161, 3) := by decide +kernel
theorem dX11_isOpened_10 : decode cX11_isOpened 10 = .ok (.if_icmp .ge 29, 3) := by decide +kernel
theorem dX11_isOpened_13 : decode cX11_isOpened 13 = .ok (.aload_n 0, 1) := by decide +kernel
theorem dX11_isOpened_14 : decode cX11_isOpened 14 = .ok (.getfield 52, 3) := by decide +kernel
theorem dX11_isOpened_17 : decode cX11_isOpened 17 = .ok (.iload_n 2, 1) := by decide +kernel
theorem dX11_isOpened_18 : decode cX11_isOpened 18 = .ok (.invokevirtual 164, 3) := by decide +kernel
theorem dX11_isOpened_21 : decode cX11_isOpened 21 = .ok (.checkcast 168, 3) := by decide +kernel
theorem dX11_isOpened_24 : decode cX11_isOpened 24 = .ok (.getfield 564, 3) := by decide +kernel
theorem dX11_isOpened_27 : decode cX11_isOpened 27 = .ok (.aload_n 1, 1) := by decide +kernel
theorem dX11_isOpened_28 : decode cX11_isOpened 28 = .ok (.if_acmp .ne 5, 3) := by decide +kernel
theorem dX11_isOpened_31 : decode cX11_isOpened 31 = .ok (.iconst 1, 1) := by decide +kernel
theorem dX11_isOpened_32 : decode cX11_isOpened 32 = .ok (.ireturn, 1) := by decide +kernel
theorem dX11_isOpened_33 : decode cX11_isOpened 33 = .ok (.iinc 2 1, 3) := by decide +kernel
theorem dX11_isOpened_36 : decode cX11_isOpened 36 = .ok (.goto (-34), 3) := by decide +kernel
theorem dX11_isOpened_39 : decode cX11_isOpened 39 = .ok (.iconst 0, 1) := by decide +kernel
theorem dX11_isOpened_40 : decode cX11_isOpened 40 = .ok (.ireturn, 1) := by decide +kernel
set_option maxRecDepth 100000 in
set_option maxHeartbeats 4000000 in
theorem c_X11_isOpened (l : Launch) (D : va_G) (t : Nat → ClassId) (G : GE) (κ : CS) (h : Nat) (a1 : Option Nat) (post : Int32 → CS → Prop) (hw : F_X11_isOpened G h a1 post κ) (sz : Nat) : CMi l D t yX11_isOpened cX11_isOpened 3 (some .boolean) 3 78 G κ sz [.ref h, va_rf a1] post := by
  refine c_go (by decide) (by cases a1 <;> exact Nat.le_of_ble_eq_true rfl) ?_
  intro p e s m below meth c ls A hF hr hlk hin hAe hH hA hE hl
  unfold cB
  rw [hAe]
  clear hAe
  have hF : FX p m c cX11_isOpened 3 s _ RX11 D t := hF
  have hx := hF.1.1
  have hb := hF.1.2.1
  have hl : lv_has ls 3 [(0, .ref h), (1, va_rf a1)] := (by have h2 := hl; clear hw; revert h2; cases a1 <;> exact id)
  unfold F_X11_isOpened at hw
  refine lv_iconst (v := 0) hx hb dX11_isOpened_0 (by decide) ?_
  refine lv_istore_n (lv' := [(2, .int 0), (0, .ref h), (1, va_rf a1)]) hx hb dX11_isOpened_1 rfl hl (by decide) (by generalize a1 = y; cases y <;> rfl) (fun ls hl => ?_)
  have hl : lv_has ls 3 [(2, .int 0), (1, va_rf a1), (0, .ref h)] := lv_sub hl [0, 2, 1] rfl
  refine cw_loop (β := Int32) (fun x1 => [(2, .int x1), (1, va_rf a1), (0, .ref h)]) 0 hl hw hH (fun K3 x1 κ2 ls H locs cells slots hl hw hH ih4 => ?_)
  have hl : lv_has ls 3 [(2, .int x1), (1, va_rf a1), (0, .ref h)] := hl
  refine lv_iload_n hx hb dX11_isOpened_2 rfl (lv_at hl 0 rfl) ?_
  refine lv_aload_n hx hb dX11_isOpened_3 rfl (lv_at hl 2 rfl) ?_
  refine cw_getPr (a := h) hF hH fk_X11_52 dX11_isOpened_4 hw (fun z5 hw => ?_)
  refine cw_cViq (q := z5) (As := []) (rest := [.int x1]) hF hH hA hE mv_X11_161 ci_Jx4a65c (by decide) hw (fun b hw sz => c_Jx4a65c_size_8abf5 l D t G _ b  _ hw sz) dX11_isOpened_7 ⟨Nat.le_of_ble_eq_true rfl, Nat.le_of_ble_eq_true rfl⟩ rfl hl.1 (Nat.le_of_ble_eq_true rfl) rfl (fun z7 κ6 H locs cells slots hw hH => ?_)
  refine w_icmp_ge (tgt := 39) hF dX11_isOpened_10 rfl hw (fun hw => ?_) (fun hw => ?_)
  · refine lv_iconst (v := 0) hx hb dX11_isOpened_39 (by decide) ?_
    exact cw_retz hF hH ⟨rfl, rfl⟩ hr hlk dX11_isOpened_40 hw
  · refine lv_aload_n hx hb dX11_isOpened_13 rfl (lv_at hl 2 rfl) ?_
    refine cw_getPr (a := h) hF hH fk_X11_52 dX11_isOpened_14 hw (fun z8 hw => ?_)
    refine lv_iload_n hx hb dX11_isOpened_17 rfl (lv_at hl 0 rfl) ?_
    refine cw_cVqq (q := z8) (As := [.int x1]) (rest := []) hF hH hA hE mv_X11_164 ci_Jx4a65c (by decide) hw (fun b hw sz => c_Jx4a65c_get_915e3 l D t G _ b x1 _ hw sz) dX11_isOpened_18 ⟨Nat.le_of_ble_eq_true rfl, Nat.le_of_ble_eq_true rfl⟩ rfl hl.1 (Nat.le_of_ble_eq_true rfl) rfl (fun z10 κ9 H locs cells slots hw hH => ?_)
    refine cw_cast (q := z10) hF hH ci_X5 (by decide) (wc_16 7 rfl) (by decide) dX11_isOpened_21 hw (fun hw => ?_)
    refine cw_getP (q := z10) hF hH fk_X11_564 dX11_isOpened_24 hw (fun z11 hw => ?_)
    refine w_aloadq_n hF dX11_isOpened_27 rfl (lv_at hl 1 rfl) ?_
    refine cw_acmp_ne (rx := z11) (ry := a1) (tgt := 33) hF dX11_isOpened_28 rfl hw (fun hw => ?_) (fun hw => ?_)
    · obtain ⟨z12, ez12⟩ : ∃ z : Int32, z = x1 + 1 := ⟨_, rfl⟩
      have hw := hw z12 ez12
      refine lv_iinc (lv' := [(2, .int z12), (1, va_rf a1), (0, .ref h)]) (k := 0) (v := z12) hx hb dX11_isOpened_33 hl rfl ez12.symm (by decide) (by generalize a1 = y; cases y <;> rfl) (fun ls hl => ?_)
      refine lv_goto (tgt := 2) hx hb dX11_isOpened_36 rfl ?_
      exact ih4 z12 κ9 ls _ _ _ _ hl hw hH
    · refine lv_iconst (v := 1) hx hb dX11_isOpened_31 (by decide) ?_
      exact cw_retz hF hH ⟨rfl, rfl⟩ hr hlk dX11_isOpened_32 hw
set_option maxRecDepth 100000 in
def F_X11_holder (G : GE) (h : Nat) (a1 : Option Nat) (post : Option Nat → CS → Prop) (κ : CS) : Prop := lc (fun (K3 : Int32 → CS → Prop) (x1 : Int32) (κ2 : CS) => (h ∈ sL κ2.1 ∧ sK κ2.1 h = 1) ∧ ∀ z5 : Option Nat, z5 = sP κ2.1 h 10 → ∃ b : Nat, z5 = some b ∧ (b ∈ sL κ2.1 ∧ sK κ2.1 b = 7) ∧ F_Jx4a65c_size_8abf5 G b  (fun (z7 : Int32) (κ6 : CS) => ((z7.toInt ≤ x1.toInt) → post (none : Option Nat) κ6) ∧ ((x1.toInt < z7.toInt) → (h ∈ sL κ6.1 ∧ sK κ6.1 h = 1) ∧ ∀ z8 : Option Nat, z8 = sP κ6.1 h 10 → ∃ b : Nat, z8 = some b ∧ (b ∈ sL κ6.1 ∧ sK κ6.1 b = 7) ∧ F_Jx4a65c_get_915e3 G b x1 (fun (z10 : Option Nat) (κ9 : CS) => (z10 = none ∨ ∃ b : Nat, z10 = some b ∧ b ∈ sL κ9.1 ∧ sK κ9.1 b = 10) ∧ ∃ b : Nat, z10 = some b ∧ (b ∈ sL κ9.1 ∧ sK κ9.1 b = 10) ∧ ∀ z11 : Option Nat, z11 = sP κ9.1 b 2 → jc (fun (K14 : Unit → CS → Prop) => ((¬ z11 = a1) → K14 () κ9) ∧ ((z11 = a1) → ∃ b : Nat, z10 = some b ∧ (b ∈ sL κ9.1 ∧ sK κ9.1 b = 10) ∧ ∀ z18 : Int32, z18 = sI κ9.1 b 7 → ((z18.toInt < (8 : Int32).toInt) → K14 () κ9) ∧ (((8 : Int32).toInt ≤ z18.toInt) → post z10 κ9))) (fun (x12 : Unit) (κ13 : CS) => ∀ z17 : Int32, z17 = x1 + 1 → K3 z17 κ13)) κ6)) κ2) 0 κ
theorem dX11_holder_0 : decode cX11_holder 0 = .ok (.iconst 0, 1) := by decide +kernel
theorem dX11_holder_1 : decode cX11_holder 1 = .ok (.istore_n 2, 1) := by decide +kernel
theorem dX11_holder_2 : decode cX11_holder 2 = .ok (.iload_n 2, 1) := by decide +kernel
theorem dX11_holder_3 : decode cX11_holder 3 = .ok (.aload_n 0, 1) := by decide +kernel
theorem dX11_holder_4 : decode cX11_holder 4 = .ok (.getfield 52, 3) := by decide +kernel
theorem dX11_holder_7 : decode cX11_holder 7 = .ok (.invokevirtual 161, 3) := by decide +kernel
theorem dX11_holder_10 : decode cX11_holder 10 = .ok (.if_icmp .ge 40, 3) := by decide +kernel
theorem dX11_holder_13 : decode cX11_holder 13 = .ok (.aload_n 0, 1) := by decide +kernel
theorem dX11_holder_14 : decode cX11_holder 14 = .ok (.getfield 52, 3) := by decide +kernel
theorem dX11_holder_17 : decode cX11_holder 17 = .ok (.iload_n 2, 1) := by decide +kernel
theorem dX11_holder_18 : decode cX11_holder 18 = .ok (.invokevirtual 164, 3) := by decide +kernel
theorem dX11_holder_21 : decode cX11_holder 21 = .ok (.checkcast 168, 3) := by decide +kernel
theorem dX11_holder_24 : decode cX11_holder 24 = .ok (.astore_n 3, 1) := by decide +kernel
theorem dX11_holder_25 : decode cX11_holder 25 = .ok (.aload_n 3, 1) := by decide +kernel
theorem dX11_holder_26 : decode cX11_holder 26 = .ok (.getfield 564, 3) := by decide +kernel
theorem dX11_holder_29 : decode cX11_holder 29 = .ok (.aload_n 1, 1) := by decide +kernel
theorem dX11_holder_30 : decode cX11_holder 30 = .ok (.if_acmp .ne 14, 3) := by decide +kernel
theorem dX11_holder_33 : decode cX11_holder 33 = .ok (.aload_n 3, 1) := by decide +kernel
theorem dX11_holder_34 : decode cX11_holder 34 = .ok (.getfield 726, 3) := by decide +kernel
theorem dX11_holder_37 : decode cX11_holder 37 = .ok (.bipush 8, 2) := by decide +kernel
theorem dX11_holder_39 : decode cX11_holder 39 = .ok (.if_icmp .lt 5, 3) := by decide +kernel
theorem dX11_holder_42 : decode cX11_holder 42 = .ok (.aload_n 3, 1) := by decide +kernel
theorem dX11_holder_43 : decode cX11_holder 43 = .ok (.areturn, 1) := by decide +kernel
theorem dX11_holder_44 : decode cX11_holder 44 = .ok (.iinc 2 1, 3) := by decide +kernel
theorem dX11_holder_47 : decode cX11_holder 47 = .ok (.goto (-45), 3) := by decide +kernel
theorem dX11_holder_50 : decode cX11_holder 50 = .ok (.aconst_null, 1) := by decide +kernel
theorem dX11_holder_51 : decode cX11_holder 51 = .ok (.areturn, 1) := by decide +kernel
set_option maxRecDepth 100000 in
set_option maxHeartbeats 4000000 in
theorem c_X11_holder (l : Launch) (D : va_G) (t : Nat → ClassId) (G : GE) (κ : CS) (h : Nat) (a1 : Option Nat) (post : Option Nat → CS → Prop) (hw : F_X11_holder G h a1 post κ) (sz : Nat) : CMq l D t yX11_holder cX11_holder 4 (some (.object "ShareHouse$Open")) 3 78 G κ sz [.ref h, va_rf a1] post := by
  refine c_go (by decide) (by cases a1 <;> exact Nat.le_of_ble_eq_true rfl) ?_
  intro p e s m below meth c ls A hF hr hlk hin hAe hH hA hE hl
  unfold cB
  rw [hAe]
  clear hAe
  have hF : FX p m c cX11_holder 4 s _ RX11 D t := hF
  have hx := hF.1.1
  have hb := hF.1.2.1
  have hl : lv_has ls 4 [(0, .ref h), (1, va_rf a1)] := (by have h2 := hl; clear hw; revert h2; cases a1 <;> exact id)
  unfold F_X11_holder at hw
  refine lv_iconst (v := 0) hx hb dX11_holder_0 (by decide) ?_
  refine lv_istore_n (lv' := [(2, .int 0), (0, .ref h), (1, va_rf a1)]) hx hb dX11_holder_1 rfl hl (by decide) (by generalize a1 = y; cases y <;> rfl) (fun ls hl => ?_)
  have hl : lv_has ls 4 [(2, .int 0), (1, va_rf a1), (0, .ref h)] := lv_sub hl [0, 2, 1] rfl
  refine cw_loop (β := Int32) (fun x1 => [(2, .int x1), (1, va_rf a1), (0, .ref h)]) 0 hl hw hH (fun K3 x1 κ2 ls H locs cells slots hl hw hH ih4 => ?_)
  have hl : lv_has ls 4 [(2, .int x1), (1, va_rf a1), (0, .ref h)] := hl
  refine lv_iload_n hx hb dX11_holder_2 rfl (lv_at hl 0 rfl) ?_
  refine lv_aload_n hx hb dX11_holder_3 rfl (lv_at hl 2 rfl) ?_
  refine cw_getPr (a := h) hF hH fk_X11_52 dX11_holder_4 hw (fun z5 hw => ?_)
  refine cw_cViq (q := z5) (As := []) (rest := [.int x1]) hF hH hA hE mv_X11_161 ci_Jx4a65c (by decide) hw (fun b hw sz => c_Jx4a65c_size_8abf5 l D t G _ b  _ hw sz) dX11_holder_7 ⟨Nat.le_of_ble_eq_true rfl, Nat.le_of_ble_eq_true rfl⟩ rfl hl.1 (Nat.le_of_ble_eq_true rfl) rfl (fun z7 κ6 H locs cells slots hw hH => ?_)
  refine w_icmp_ge (tgt := 50) hF dX11_holder_10 rfl hw (fun hw => ?_) (fun hw => ?_)
  · refine cw_null dX11_holder_50 hF ?_
    exact cw_retq (v := (none : Option Nat)) hF hH ⟨rfl, rfl⟩ hr (by first | exact Or.inl ⟨_, rfl⟩ | exact Or.inr ⟨_, rfl⟩) hlk dX11_holder_51 hw
  · refine lv_aload_n hx hb dX11_holder_13 rfl (lv_at hl 2 rfl) ?_
    refine cw_getPr (a := h) hF hH fk_X11_52 dX11_holder_14 hw (fun z8 hw => ?_)
    refine lv_iload_n hx hb dX11_holder_17 rfl (lv_at hl 0 rfl) ?_
    refine cw_cVqq (q := z8) (As := [.int x1]) (rest := []) hF hH hA hE mv_X11_164 ci_Jx4a65c (by decide) hw (fun b hw sz => c_Jx4a65c_get_915e3 l D t G _ b x1 _ hw sz) dX11_holder_18 ⟨Nat.le_of_ble_eq_true rfl, Nat.le_of_ble_eq_true rfl⟩ rfl hl.1 (Nat.le_of_ble_eq_true rfl) rfl (fun z10 κ9 H locs cells slots hw hH => ?_)
    refine cw_cast (q := z10) hF hH ci_X5 (by decide) (wc_16 7 rfl) (by decide) dX11_holder_21 hw (fun hw => ?_)
    refine w_astoreq_n (lv' := [(3, va_rf z10), (2, .int x1), (1, va_rf a1), (0, .ref h)]) hF dX11_holder_24 rfl hl (by decide) rfl (fun ls hl => ?_)
    refine w_aloadq_n hF dX11_holder_25 rfl (lv_at hl 0 rfl) ?_
    refine cw_getP (q := z10) hF hH fk_X11_564 dX11_holder_26 hw (fun z11 hw => ?_)
    refine w_aloadq_n hF dX11_holder_29 rfl (lv_at hl 2 rfl) ?_
    obtain ⟨K14, hK15, hw⟩ := jc_open hw
    refine cw_join (K := K14) 44 (fun (x12 : Unit) => [(2, .int x1), (1, va_rf a1), (0, .ref h)]) (fun (x12 : Unit) => []) hl hH (fun x12 κ13 ls H locs cells slots hl hw hH => ?_) (fun jn16 => ?_)
    · have hw := hK15 x12 κ13 hw
      have hl : lv_has ls 4 [(2, .int x1), (1, va_rf a1), (0, .ref h)] := hl
      obtain ⟨z17, ez17⟩ : ∃ z : Int32, z = x1 + 1 := ⟨_, rfl⟩
      have hw := hw z17 ez17
      refine lv_iinc (lv' := [(2, .int z17), (1, va_rf a1), (0, .ref h)]) (k := 0) (v := z17) hx hb dX11_holder_44 hl rfl ez17.symm (by decide) (by generalize a1 = y; cases y <;> rfl) (fun ls hl => ?_)
      refine lv_goto (tgt := 2) hx hb dX11_holder_47 rfl ?_
      exact ih4 z17 κ13 ls _ _ _ _ hl hw hH
    · skip
      refine cw_acmp_ne (rx := z11) (ry := a1) (tgt := 44) hF dX11_holder_30 rfl hw (fun hw => ?_) (fun hw => ?_)
      · have hl : lv_has ls 4 [(2, .int x1), (1, va_rf a1), (0, .ref h)] := lv_sub hl [1, 2, 3] rfl
        exact jn16 () κ9 ls _ _ _ _ hl hw hH
      · refine w_aloadq_n hF dX11_holder_33 rfl (lv_at hl 0 rfl) ?_
        refine cw_getI (q := z10) hF hH fk_X11_726 dX11_holder_34 hw (fun z18 hw => ?_)
        refine lv_bipush (v := 8) hx hb dX11_holder_37 (by decide) ?_
        refine w_icmp_lt (tgt := 44) hF dX11_holder_39 rfl hw (fun hw => ?_) (fun hw => ?_)
        · have hl : lv_has ls 4 [(2, .int x1), (1, va_rf a1), (0, .ref h)] := lv_sub hl [1, 2, 3] rfl
          exact jn16 () κ9 ls _ _ _ _ hl hw hH
        · refine w_aloadq_n hF dX11_holder_42 rfl (lv_at hl 0 rfl) ?_
          exact cw_retq (v := z10) hF hH ⟨rfl, rfl⟩ hr (by first | exact Or.inl ⟨_, rfl⟩ | exact Or.inr ⟨_, rfl⟩) hlk dX11_holder_43 hw
set_option maxRecDepth 100000 in
def F_X11_hasLocks (G : GE) (h : Nat) (a1 : Option Nat) (post : Int32 → CS → Prop) (κ : CS) : Prop := lc (fun (K3 : Int32 → CS → Prop) (x1 : Int32) (κ2 : CS) => (h ∈ sL κ2.1 ∧ sK κ2.1 h = 1) ∧ ∀ z5 : Option Nat, z5 = sP κ2.1 h 11 → ∃ b : Nat, z5 = some b ∧ (b ∈ sL κ2.1 ∧ sK κ2.1 b = 7) ∧ F_Jx4a65c_size_8abf5 G b  (fun (z7 : Int32) (κ6 : CS) => ((z7.toInt ≤ x1.toInt) → (0 ≤ (0 : Int32).toInt ∧ (0 : Int32).toInt ≤ 1) ∧ post 0 κ6) ∧ ((x1.toInt < z7.toInt) → (h ∈ sL κ6.1 ∧ sK κ6.1 h = 1) ∧ ∀ z8 : Option Nat, z8 = sP κ6.1 h 11 → ∃ b : Nat, z8 = some b ∧ (b ∈ sL κ6.1 ∧ sK κ6.1 b = 7) ∧ F_Jx4a65c_get_915e3 G b x1 (fun (z10 : Option Nat) (κ9 : CS) => (z10 = none ∨ ∃ b : Nat, z10 = some b ∧ b ∈ sL κ9.1 ∧ sK κ9.1 b = 9) ∧ ∃ b : Nat, z10 = some b ∧ (b ∈ sL κ9.1 ∧ sK κ9.1 b = 9) ∧ ∀ z11 : Option Nat, z11 = sP κ9.1 b 0 → ∃ b : Nat, z11 = some b ∧ (b ∈ sL κ9.1 ∧ sK κ9.1 b = 10) ∧ ∀ z12 : Option Nat, z12 = sP κ9.1 b 2 → ((¬ z12 = a1) → ∀ z13 : Int32, z13 = x1 + 1 → K3 z13 κ9) ∧ ((z12 = a1) → (0 ≤ (1 : Int32).toInt ∧ (1 : Int32).toInt ≤ 1) ∧ post 1 κ9)) κ6)) κ2) 0 κ
theorem dX11_hasLocks_0 : decode cX11_hasLocks 0 = .ok (.iconst 0, 1) := by decide +kernel
theorem dX11_hasLocks_1 : decode cX11_hasLocks 1 = .ok (.istore_n 2, 1) := by decide +kernel
theorem dX11_hasLocks_2 : decode cX11_hasLocks 2 = .ok (.iload_n 2, 1) := by decide +kernel
theorem dX11_hasLocks_3 : decode cX11_hasLocks 3 = .ok (.aload_n 0, 1) := by decide +kernel
theorem dX11_hasLocks_4 : decode cX11_hasLocks 4 = .ok (.getfield 55, 3) := by decide +kernel
theorem dX11_hasLocks_7 : decode cX11_hasLocks 7 = .ok (.invokevirtual 161, 3) := by decide +kernel
theorem dX11_hasLocks_10 : decode cX11_hasLocks 10 = .ok (.if_icmp .ge 32, 3) := by decide +kernel
theorem dX11_hasLocks_13 : decode cX11_hasLocks 13 = .ok (.aload_n 0, 1) := by decide +kernel
theorem dX11_hasLocks_14 : decode cX11_hasLocks 14 = .ok (.getfield 55, 3) := by decide +kernel
theorem dX11_hasLocks_17 : decode cX11_hasLocks 17 = .ok (.iload_n 2, 1) := by decide +kernel
theorem dX11_hasLocks_18 : decode cX11_hasLocks 18 = .ok (.invokevirtual 164, 3) := by decide +kernel
theorem dX11_hasLocks_21 : decode cX11_hasLocks 21 = .ok (.checkcast 561, 3) := by decide +kernel
theorem dX11_hasLocks_24 : decode cX11_hasLocks 24 = .ok (.getfield 563, 3) := by decide +kernel
theorem dX11_hasLocks_27 : decode cX11_hasLocks 27 = .ok (.getfield 564, 3) := by decide +kernel
theorem dX11_hasLocks_30 : decode cX11_hasLocks 30 = .ok (.aload_n 1, 1) := by decide +kernel
theorem dX11_hasLocks_31 : decode cX11_hasLocks 31 = .ok (.if_acmp .ne 5, 3) := by decide +kernel
theorem dX11_hasLocks_34 : decode cX11_hasLocks 34 = .ok (.iconst 1, 1) := by decide +kernel
theorem dX11_hasLocks_35 : decode cX11_hasLocks 35 = .ok (.ireturn, 1) := by decide +kernel
theorem dX11_hasLocks_36 : decode cX11_hasLocks 36 = .ok (.iinc 2 1, 3) := by decide +kernel
theorem dX11_hasLocks_39 : decode cX11_hasLocks 39 = .ok (.goto (-37), 3) := by decide +kernel
theorem dX11_hasLocks_42 : decode cX11_hasLocks 42 = .ok (.iconst 0, 1) := by decide +kernel
theorem dX11_hasLocks_43 : decode cX11_hasLocks 43 = .ok (.ireturn, 1) := by decide +kernel
set_option maxRecDepth 100000 in
set_option maxHeartbeats 4000000 in
theorem c_X11_hasLocks (l : Launch) (D : va_G) (t : Nat → ClassId) (G : GE) (κ : CS) (h : Nat) (a1 : Option Nat) (post : Int32 → CS → Prop) (hw : F_X11_hasLocks G h a1 post κ) (sz : Nat) : CMi l D t yX11_hasLocks cX11_hasLocks 3 (some .boolean) 3 78 G κ sz [.ref h, va_rf a1] post := by
  refine c_go (by decide) (by cases a1 <;> exact Nat.le_of_ble_eq_true rfl) ?_
  intro p e s m below meth c ls A hF hr hlk hin hAe hH hA hE hl
  unfold cB
  rw [hAe]
  clear hAe
  have hF : FX p m c cX11_hasLocks 3 s _ RX11 D t := hF
  have hx := hF.1.1
  have hb := hF.1.2.1
  have hl : lv_has ls 3 [(0, .ref h), (1, va_rf a1)] := (by have h2 := hl; clear hw; revert h2; cases a1 <;> exact id)
  unfold F_X11_hasLocks at hw
  refine lv_iconst (v := 0) hx hb dX11_hasLocks_0 (by decide) ?_
  refine lv_istore_n (lv' := [(2, .int 0), (0, .ref h), (1, va_rf a1)]) hx hb dX11_hasLocks_1 rfl hl (by decide) (by generalize a1 = y; cases y <;> rfl) (fun ls hl => ?_)
  have hl : lv_has ls 3 [(2, .int 0), (1, va_rf a1), (0, .ref h)] := lv_sub hl [0, 2, 1] rfl
  refine cw_loop (β := Int32) (fun x1 => [(2, .int x1), (1, va_rf a1), (0, .ref h)]) 0 hl hw hH (fun K3 x1 κ2 ls H locs cells slots hl hw hH ih4 => ?_)
  have hl : lv_has ls 3 [(2, .int x1), (1, va_rf a1), (0, .ref h)] := hl
  refine lv_iload_n hx hb dX11_hasLocks_2 rfl (lv_at hl 0 rfl) ?_
  refine lv_aload_n hx hb dX11_hasLocks_3 rfl (lv_at hl 2 rfl) ?_
  refine cw_getPr (a := h) hF hH fk_X11_55 dX11_hasLocks_4 hw (fun z5 hw => ?_)
  refine cw_cViq (q := z5) (As := []) (rest := [.int x1]) hF hH hA hE mv_X11_161 ci_Jx4a65c (by decide) hw (fun b hw sz => c_Jx4a65c_size_8abf5 l D t G _ b  _ hw sz) dX11_hasLocks_7 ⟨Nat.le_of_ble_eq_true rfl, Nat.le_of_ble_eq_true rfl⟩ rfl hl.1 (Nat.le_of_ble_eq_true rfl) rfl (fun z7 κ6 H locs cells slots hw hH => ?_)
  refine w_icmp_ge (tgt := 42) hF dX11_hasLocks_10 rfl hw (fun hw => ?_) (fun hw => ?_)
  · refine lv_iconst (v := 0) hx hb dX11_hasLocks_42 (by decide) ?_
    exact cw_retz hF hH ⟨rfl, rfl⟩ hr hlk dX11_hasLocks_43 hw
  · refine lv_aload_n hx hb dX11_hasLocks_13 rfl (lv_at hl 2 rfl) ?_
    refine cw_getPr (a := h) hF hH fk_X11_55 dX11_hasLocks_14 hw (fun z8 hw => ?_)
    refine lv_iload_n hx hb dX11_hasLocks_17 rfl (lv_at hl 0 rfl) ?_
    refine cw_cVqq (q := z8) (As := [.int x1]) (rest := []) hF hH hA hE mv_X11_164 ci_Jx4a65c (by decide) hw (fun b hw sz => c_Jx4a65c_get_915e3 l D t G _ b x1 _ hw sz) dX11_hasLocks_18 ⟨Nat.le_of_ble_eq_true rfl, Nat.le_of_ble_eq_true rfl⟩ rfl hl.1 (Nat.le_of_ble_eq_true rfl) rfl (fun z10 κ9 H locs cells slots hw hH => ?_)
    refine cw_cast (q := z10) hF hH ci_X3 (by decide) (wc_17 27 rfl) (by decide) dX11_hasLocks_21 hw (fun hw => ?_)
    refine cw_getP (q := z10) hF hH fk_X11_563 dX11_hasLocks_24 hw (fun z11 hw => ?_)
    refine cw_getP (q := z11) hF hH fk_X11_564 dX11_hasLocks_27 hw (fun z12 hw => ?_)
    refine w_aloadq_n hF dX11_hasLocks_30 rfl (lv_at hl 1 rfl) ?_
    refine cw_acmp_ne (rx := z12) (ry := a1) (tgt := 36) hF dX11_hasLocks_31 rfl hw (fun hw => ?_) (fun hw => ?_)
    · obtain ⟨z13, ez13⟩ : ∃ z : Int32, z = x1 + 1 := ⟨_, rfl⟩
      have hw := hw z13 ez13
      refine lv_iinc (lv' := [(2, .int z13), (1, va_rf a1), (0, .ref h)]) (k := 0) (v := z13) hx hb dX11_hasLocks_36 hl rfl ez13.symm (by decide) (by generalize a1 = y; cases y <;> rfl) (fun ls hl => ?_)
      refine lv_goto (tgt := 2) hx hb dX11_hasLocks_39 rfl ?_
      exact ih4 z13 κ9 ls _ _ _ _ hl hw hH
    · refine lv_iconst (v := 1) hx hb dX11_hasLocks_34 (by decide) ?_
      exact cw_retz hF hH ⟨rfl, rfl⟩ hr hlk dX11_hasLocks_35 hw
set_option maxRecDepth 100000 in
def F_X11_granted (G : GE) (h : Nat) (a1 : Option Nat) (a2 : Int32) (post : Int32 → CS → Prop) (κ : CS) : Prop := ∃ b : Nat, a1 = some b ∧ (b ∈ sL κ.1 ∧ sK κ.1 b = 5) ∧ ∀ z1 : Int32, z1 = sI κ.1 b 2 → jc (fun (K4 : Unit → CS → Prop) => ((¬ z1.toInt = 0) → K4 () κ) ∧ ((z1.toInt = 0) → ((¬ a2.toInt = 0) → (h ∈ sL κ.1 ∧ sK κ.1 h = 1) ∧ F_X11_isOpened G h a1 (fun (z8 : Int32) (κ7 : CS) => ((¬ z8.toInt = 0) → (h ∈ sL κ7.1 ∧ sK κ7.1 h = 1) ∧ F_X11_holder G h a1 (fun (z10 : Option Nat) (κ9 : CS) => jc (fun (K13 : Int32 → CS → Prop) => jc (fun (K18 : Unit → CS → Prop) => ((¬ z10 = none) → K18 () κ9) ∧ ((z10 = none) → (h ∈ sL κ9.1 ∧ sK κ9.1 h = 1) ∧ F_X11_hasLocks G h a1 (fun (z22 : Int32) (κ21 : CS) => ((¬ z22.toInt = 0) → K18 () κ21) ∧ ((z22.toInt = 0) → K13 1 κ21)) κ9)) (fun (x16 : Unit) (κ17 : CS) => K13 0 κ17)) (fun (x11 : Int32) (κ12 : CS) => post x11 κ12)) κ7) ∧ ((z8.toInt = 0) → post a2 κ7)) κ) ∧ ((a2.toInt = 0) → K4 () κ))) (fun (x2 : Unit) (κ3 : CS) => post 0 κ3)
theorem dX11_granted_0 : decode cX11_granted 0 = .ok (.aload_n 1, 1) := by decide +kernel
theorem dX11_granted_1 : decode cX11_granted 1 = .ok (.getfield 577, 3) := by decide +kernel
theorem dX11_granted_4 : decode cX11_granted 4 = .ok (.ifCond .ne 7, 3) := by decide +kernel
theorem dX11_granted_7 : decode cX11_granted 7 = .ok (.iload_n 2, 1) := by decide +kernel
theorem dX11_granted_8 : decode cX11_granted 8 = .ok (.ifCond .ne 5, 3) := by decide +kernel
theorem dX11_granted_11 : decode cX11_granted 11 = .ok (.iconst 0, 1) := by decide +kernel
theorem dX11_granted_12 : decode cX11_granted 12 = .ok (.ireturn, 1) := by decide +kernel
theorem dX11_granted_13 : decode cX11_granted 13 = .ok (.aload_n 0, 1) := by decide +kernel
theorem dX11_granted_14 : decode cX11_granted 14 = .ok (.aload_n 1, 1) := by decide +kernel
theorem dX11_granted_15 : decode cX11_granted 15 = .ok (.invokevirtual 573, 3) := by decide +kernel
theorem dX11_granted_18 : decode cX11_granted 18 = .ok (.ifCond .ne 5, 3) := by decide +kernel
theorem dX11_granted_21 : decode cX11_granted 21 = .ok (.iload_n 2, 1) := by decide +kernel
theorem dX11_granted_22 : decode cX11_granted 22 = .ok (.ireturn, 1) := by decide +kernel
theorem dX11_granted_23 : decode cX11_granted 23 = .ok (.aload_n 0, 1) := by decide +kernel
theorem dX11_granted_24 : decode cX11_granted 24 = .ok (.aload_n 1, 1) := by decide +kernel
theorem dX11_granted_25 : decode cX11_granted 25 = .ok (.invokevirtual 722, 3) := by decide +kernel
theorem dX11_granted_28 : decode cX11_granted 28 = .ok (.ifnonnull 15, 3) := by decide +kernel
theorem dX11_granted_31 : decode cX11_granted 31 = .ok (.aload_n 0, 1) := by decide +kernel
theorem dX11_granted_32 : decode cX11_granted 32 = .ok (.aload_n 1, 1) := by decide +kernel
theorem dX11_granted_33 : decode cX11_granted 33 = .ok (.invokevirtual 779, 3) := by decide +kernel
theorem dX11_granted_36 : decode cX11_granted 36 = .ok (.ifCond .ne 7, 3) := by decide +kernel
theorem dX11_granted_39 : decode cX11_granted 39 = .ok (.iconst 1, 1) := by decide +kernel
theorem dX11_granted_40 : decode cX11_granted 40 = .ok (.goto 4, 3) := by decide +kernel
theorem dX11_granted_43 : decode cX11_granted 43 = .ok (.iconst 0, 1) := by decide +kernel
theorem dX11_granted_44 : decode cX11_granted 44 = .ok (.ireturn, 1) := by decide +kernel
set_option maxRecDepth 100000 in
set_option maxHeartbeats 4000000 in
theorem c_X11_granted (l : Launch) (D : va_G) (t : Nat → ClassId) (G : GE) (κ : CS) (h : Nat) (a1 : Option Nat) (a2 : Int32) (post : Int32 → CS → Prop) (hw : F_X11_granted G h a1 a2 post κ) (sz : Nat) : CMi l D t yX11_granted cX11_granted 3 (some .int) 4 101 G κ sz [.ref h, va_rf a1, .int a2] post := by
  refine c_go (by decide) (by cases a1 <;> exact Nat.le_of_ble_eq_true rfl) ?_
  intro p e s m below meth c ls A hF hr hlk hin hAe hH hA hE hl
  unfold cB
  rw [hAe]
  clear hAe
  have hF : FX p m c cX11_granted 3 s _ RX11 D t := hF
  have hx := hF.1.1
  have hb := hF.1.2.1
  have hl : lv_has ls 3 [(0, .ref h), (1, va_rf a1), (2, .int a2)] := (by have h2 := hl; clear hw; revert h2; cases a1 <;> exact id)
  unfold F_X11_granted at hw
  refine w_aloadq_n hF dX11_granted_0 rfl (lv_at hl 1 rfl) ?_
  refine cw_getI (q := a1) hF hH fk_X11_577 dX11_granted_1 hw (fun z1 hw => ?_)
  obtain ⟨K4, hK5, hw⟩ := jc_open hw
  refine cw_join (K := K4) 11 (fun (x2 : Unit) => []) (fun (x2 : Unit) => []) hl hH (fun x2 κ3 ls H locs cells slots hl hw hH => ?_) (fun jn6 => ?_)
  · have hw := hK5 x2 κ3 hw
    have hl : lv_has ls 3 [] := hl
    refine lv_iconst (v := 0) hx hb dX11_granted_11 (by decide) ?_
    exact cw_reti hF hH ⟨rfl, rfl⟩ hr rfl hlk dX11_granted_12 hw
  · skip
    refine w_if_ne (tgt := 11) hF dX11_granted_4 rfl hw (fun hw => ?_) (fun hw => ?_)
    · have hl : lv_has ls 3 [] := lv_sub hl [] rfl
      exact jn6 () κ ls _ _ _ _ hl hw hH
    · refine lv_iload_n hx hb dX11_granted_7 rfl (lv_at hl 2 rfl) ?_
      refine w_if_ne (tgt := 13) hF dX11_granted_8 rfl hw (fun hw => ?_) (fun hw => ?_)
      · refine lv_aload_n hx hb dX11_granted_13 rfl (lv_at hl 0 rfl) ?_
        refine w_aloadq_n hF dX11_granted_14 rfl (lv_at hl 1 rfl) ?_
        refine cw_cVi (b := h) (As := [va_rf a1]) (rest := []) hF hH hA hE mv_X11_573 ci_X11 (by decide) (fun sz => c_X11_isOpened l D t G _ h a1 _ hw.2 sz) dX11_granted_15 hw.1 ⟨Nat.le_of_ble_eq_true rfl, Nat.le_of_ble_eq_true rfl⟩ rfl hl.1 (Nat.le_of_ble_eq_true rfl) rfl (fun z8 κ7 H locs cells slots hw hH => ?_)
        refine w_if_ne (tgt := 23) hF dX11_granted_18 rfl hw (fun hw => ?_) (fun hw => ?_)
        · refine lv_aload_n hx hb dX11_granted_23 rfl (lv_at hl 0 rfl) ?_
          refine w_aloadq_n hF dX11_granted_24 rfl (lv_at hl 1 rfl) ?_
          refine cw_cVq (b := h) (As := [va_rf a1]) (rest := []) hF hH hA hE mv_X11_722 ci_X11 (by decide) (fun sz => c_X11_holder l D t G _ h a1 _ hw.2 sz) dX11_granted_25 hw.1 ⟨Nat.le_of_ble_eq_true rfl, Nat.le_of_ble_eq_true rfl⟩ rfl hl.1 (Nat.le_of_ble_eq_true rfl) rfl (fun z10 κ9 H locs cells slots hw hH => ?_)
          obtain ⟨K13, hK14, hw⟩ := jc_open hw
          refine cw_join (K := K13) 44 (fun (x11 : Int32) => []) (fun (x11 : Int32) => [.int x11]) hl hH (fun x11 κ12 ls H locs cells slots hl hw hH => ?_) (fun jn15 => ?_)
          · have hw := hK14 x11 κ12 hw
            have hl : lv_has ls 3 [] := hl
            exact cw_reti hF hH ⟨rfl, rfl⟩ hr rfl hlk dX11_granted_44 hw
          · skip
            obtain ⟨K18, hK19, hw⟩ := jc_open hw
            refine cw_join (K := K18) 43 (fun (x16 : Unit) => []) (fun (x16 : Unit) => []) hl hH (fun x16 κ17 ls H locs cells slots hl hw hH => ?_) (fun jn20 => ?_)
            · have hw := hK19 x16 κ17 hw
              have hl : lv_has ls 3 [] := hl
              refine lv_iconst (v := 0) hx hb dX11_granted_43 (by decide) ?_
              exact jn15 0 κ17 ls _ _ _ _ hl hw hH
            · skip
              refine cw_ifnonnull (q := z10) (tgt := 43) hF dX11_granted_28 rfl hw (fun hw => ?_) (fun hw => ?_)
              · have hl : lv_has ls 3 [] := lv_sub hl [] rfl
                exact jn20 () κ9 ls _ _ _ _ hl hw hH
              · refine lv_aload_n hx hb dX11_granted_31 rfl (lv_at hl 0 rfl) ?_
                refine w_aloadq_n hF dX11_granted_32 rfl (lv_at hl 1 rfl) ?_
                refine cw_cVi (b := h) (As := [va_rf a1]) (rest := []) hF hH hA hE mv_X11_779 ci_X11 (by decide) (fun sz => c_X11_hasLocks l D t G _ h a1 _ hw.2 sz) dX11_granted_33 hw.1 ⟨Nat.le_of_ble_eq_true rfl, Nat.le_of_ble_eq_true rfl⟩ rfl hl.1 (Nat.le_of_ble_eq_true rfl) rfl (fun z22 κ21 H locs cells slots hw hH => ?_)
                refine w_if_ne (tgt := 43) hF dX11_granted_36 rfl hw (fun hw => ?_) (fun hw => ?_)
                · have hl : lv_has ls 3 [] := lv_sub hl [] rfl
                  exact jn20 () κ21 ls _ _ _ _ hl hw hH
                · refine lv_iconst (v := 1) hx hb dX11_granted_39 (by decide) ?_
                  refine lv_goto (tgt := 44) hx hb dX11_granted_40 rfl ?_
                  have hl : lv_has ls 3 [] := lv_sub hl [] rfl
                  exact jn15 1 κ21 ls _ _ _ _ hl hw hH
        · refine lv_iload_n hx hb dX11_granted_21 rfl (lv_at hl 2 rfl) ?_
          exact cw_reti hF hH ⟨rfl, rfl⟩ hr rfl hlk dX11_granted_22 hw
      · have hl : lv_has ls 3 [] := lv_sub hl [] rfl
        exact jn6 () κ ls _ _ _ _ hl hw hH
set_option maxRecDepth 100000 in
def F_X11_nextSerial (G : GE) (h : Nat) (a1 : Int32) (post : Int64 → CS → Prop) (κ : CS) : Prop := jc (fun (K3 : Unit → CS → Prop) => ((a1.toInt < 0) → K3 () κ) ∧ ((0 ≤ a1.toInt) → (h ∈ sL κ.1 ∧ sK κ.1 h = 1) ∧ ∀ z6 : Option Nat, z6 = sP κ.1 h 13 → ∃ n : Nat, AL G κ z6 n ∧ ∀ z7 : Int32, z7 = nI n → ((a1.toInt < z7.toInt) → (h ∈ sL κ.1 ∧ sK κ.1 h = 1) ∧ ∀ z8 : Option Nat, z8 = sP κ.1 h 13 → ∃ b : Nat, z8 = some b ∧ (b ∈ sL κ.1 ∧ sK κ.1 b = 22) ∧ (0 ≤ a1.toInt ∧ a1.toInt < (sN κ.1 b : Int)) ∧ ∀ z9 : Int64, z9 = sJ κ.1 b a1.toInt.toNat → ∀ z10 : Int64, z10 = z9 + 1 → ∃ b : Nat, z8 = some b ∧ (b ∈ sL κ.1 ∧ sK κ.1 b = 22) ∧ (0 ≤ a1.toInt ∧ a1.toInt < (sN κ.1 b : Int)) ∧ ∀ κ11 : CS, κ11 = (h_uJ κ.1 b a1.toInt.toNat z10, κ.2) → (h ∈ sL κ11.1 ∧ sK κ11.1 h = 1) ∧ ∀ z12 : Option Nat, z12 = sP κ11.1 h 13 → ∃ b : Nat, z12 = some b ∧ (b ∈ sL κ11.1 ∧ sK κ11.1 b = 22) ∧ (0 ≤ a1.toInt ∧ a1.toInt < (sN κ11.1 b : Int)) ∧ ∀ z13 : Int64, z13 = sJ κ11.1 b a1.toInt.toNat → post z13 κ11) ∧ ((z7.toInt ≤ a1.toInt) → K3 () κ))) (fun (x1 : Unit) (κ2 : CS) => post (-1) κ2)
theorem dX11_nextSerial_0 : decode cX11_nextSerial 0 = .ok (.iload_n 1, 1) := by decide +kernel
theorem dX11_nextSerial_1 : decode cX11_nextSerial 1 = .ok (.ifCond .lt 12, 3) := by decide +kernel
theorem dX11_nextSerial_4 : decode cX11_nextSerial 4 = .ok (.iload_n 1, 1) := by decide +kernel
theorem dX11_nextSerial_5 : decode cX11_nextSerial 5 = .ok (.aload_n 0, 1) := by decide +kernel
theorem dX11_nextSerial_6 : decode cX11_nextSerial 6 = .ok (.getfield 61, 3) := by decide +kernel
theorem dX11_nextSerial_9 : decode cX11_nextSerial 9 = .ok (.arraylength, 1) := by decide +kernel
theorem dX11_nextSerial_10 : decode cX11_nextSerial 10 = .ok (.if_icmp .lt 7, 3) := by decide +kernel
theorem dX11_nextSerial_13 : decode cX11_nextSerial 13 = .ok (.ldc2_w 412, 3) := by decide +kernel
theorem dX11_nextSerial_16 : decode cX11_nextSerial 16 = .ok (.lreturn, 1) := by decide +kernel
theorem dX11_nextSerial_17 : decode cX11_nextSerial 17 = .ok (.aload_n 0, 1) := by decide +kernel
theorem dX11_nextSerial_18 : decode cX11_nextSerial 18 = .ok (.getfield 61, 3) := by decide +kernel
theorem dX11_nextSerial_21 : decode cX11_nextSerial 21 = .ok (.iload_n 1, 1) := by decide +kernel
theorem dX11_nextSerial_22 : decode cX11_nextSerial 22 = .ok (.dup2, 1) := by decide +kernel
theorem dX11_nextSerial_23 : decode cX11_nextSerial 23 = .ok (.laload, 1) := by decide +kernel
theorem dX11_nextSerial_24 : decode cX11_nextSerial 24 = .ok (.lconst 1, 1) := by decide +kernel
theorem dX11_nextSerial_25 : decode cX11_nextSerial 25 = .ok (.ladd, 1) := by decide +kernel
theorem dX11_nextSerial_26 : decode cX11_nextSerial 26 = .ok (.lastore, 1) := by decide +kernel
theorem dX11_nextSerial_27 : decode cX11_nextSerial 27 = .ok (.aload_n 0, 1) := by decide +kernel
theorem dX11_nextSerial_28 : decode cX11_nextSerial 28 = .ok (.getfield 61, 3) := by decide +kernel
theorem dX11_nextSerial_31 : decode cX11_nextSerial 31 = .ok (.iload_n 1, 1) := by decide +kernel
theorem dX11_nextSerial_32 : decode cX11_nextSerial 32 = .ok (.laload, 1) := by decide +kernel
theorem dX11_nextSerial_33 : decode cX11_nextSerial 33 = .ok (.lreturn, 1) := by decide +kernel
set_option maxRecDepth 100000 in
set_option maxHeartbeats 4000000 in
theorem c_X11_nextSerial (l : Launch) (D : va_G) (t : Nat → ClassId) (G : GE) (κ : CS) (h : Nat) (a1 : Int32) (post : Int64 → CS → Prop) (hw : F_X11_nextSerial G h a1 post κ) (sz : Nat) : CMl l D t yX11_nextSerial cX11_nextSerial 2 (some .long) 0 14 G κ sz [.ref h, .int a1] post := by
  refine c_go (by decide) (Nat.le_of_ble_eq_true rfl) ?_
  intro p e s m below meth c ls A hF hr hlk hin hAe hH hA hE hl
  unfold cB
  rw [hAe]
  clear hAe
  have hF : FX p m c cX11_nextSerial 2 s _ RX11 D t := hF
  have hx := hF.1.1
  have hb := hF.1.2.1
  have hl : lv_has ls 2 [(0, .ref h), (1, .int a1)] := hl
  unfold F_X11_nextSerial at hw
  refine lv_iload_n hx hb dX11_nextSerial_0 rfl (lv_at hl 1 rfl) ?_
  obtain ⟨K3, hK4, hw⟩ := jc_open hw
  refine cw_join (K := K3) 13 (fun (x1 : Unit) => []) (fun (x1 : Unit) => []) hl hH (fun x1 κ2 ls H locs cells slots hl hw hH => ?_) (fun jn5 => ?_)
  · have hw := hK4 x1 κ2 hw
    have hl : lv_has ls 2 [] := hl
    refine lv_ldc2 (v := (-1)) hx hb hF.1.2.2.2.1 (hF.1.2.2.2.2 _ (wc_21 32 rfl)) dX11_nextSerial_13 ?_
    exact cw_retl hF hH ⟨rfl, rfl⟩ hr hlk dX11_nextSerial_16 hw
  · skip
    refine w_if_lt (tgt := 13) hF dX11_nextSerial_1 rfl hw (fun hw => ?_) (fun hw => ?_)
    · have hl : lv_has ls 2 [] := lv_sub hl [] rfl
      exact jn5 () κ ls _ _ _ _ hl hw hH
    · refine lv_iload_n hx hb dX11_nextSerial_4 rfl (lv_at hl 1 rfl) ?_
      refine lv_aload_n hx hb dX11_nextSerial_5 rfl (lv_at hl 0 rfl) ?_
      refine cw_getPr (a := h) hF hH fk_X11_61 dX11_nextSerial_6 hw (fun z6 hw => ?_)
      refine cw_alen (q := z6) hF hH hE dX11_nextSerial_9 hw (fun z7 hw => ?_)
      refine w_icmp_lt (tgt := 17) hF dX11_nextSerial_10 rfl hw (fun hw => ?_) (fun hw => ?_)
      · refine lv_aload_n hx hb dX11_nextSerial_17 rfl (lv_at hl 0 rfl) ?_
        refine cw_getPr (a := h) hF hH fk_X11_61 dX11_nextSerial_18 hw (fun z8 hw => ?_)
        refine lv_iload_n hx hb dX11_nextSerial_21 rfl (lv_at hl 1 rfl) ?_
        refine lv_dup2_11 hx hb dX11_nextSerial_22 rfl (cat_rf _) ?_
        refine cw_lald (q := z8) hF hH dX11_nextSerial_23 hw (fun z9 hw => ?_)
        refine lv_lconst (v := 1) hx hb dX11_nextSerial_24 (by decide) ?_
        refine lv_ladd hx hb dX11_nextSerial_25 ?_
        refine w_nml hw (fun z10 hw => ?_)
        refine cw_last (q := z8) hF hH dX11_nextSerial_26 hw (fun κ11 H locs cells slots hw hH => ?_)
        refine lv_aload_n hx hb dX11_nextSerial_27 rfl (lv_at hl 0 rfl) ?_
        refine cw_getPr (a := h) hF hH fk_X11_61 dX11_nextSerial_28 hw (fun z12 hw => ?_)
        refine lv_iload_n hx hb dX11_nextSerial_31 rfl (lv_at hl 1 rfl) ?_
        refine cw_lald (q := z12) hF hH dX11_nextSerial_32 hw (fun z13 hw => ?_)
        exact cw_retl hF hH ⟨rfl, rfl⟩ hr hlk dX11_nextSerial_33 hw
      · have hl : lv_has ls 2 [] := lv_sub hl [] rfl
        exact jn5 () κ ls _ _ _ _ hl hw hH
set_option maxRecDepth 100000 in
def F_X11_addOpen (G : GE) (h : Nat) (a1 : Option Nat) (a2 : Option Nat) (a3 : Int32) (a4 : Option Nat) (post : CS → Prop) (κ : CS) : Prop := ∃ b : Nat, a1 = some b ∧ (b ∈ sL κ.1 ∧ sK κ.1 b = 8) ∧ ∀ z1 : Option Nat, z1 = sP κ.1 b 17 → ((¬ z1 = none) → ∃ b : Nat, z1 = some b ∧ (b ∈ sL κ.1 ∧ sK κ.1 b = 13) ∧ ∀ z2 : Int32, z2 = sI κ.1 b 0 → (h ∈ sL κ.1 ∧ sK κ.1 h = 1) ∧ F_X11_granted G h a2 z2 (fun (z4 : Int32) (κ3 : CS) => (15 + 12 ≤ κ3.2) ∧ ∀ o5 : Nat, o5 ∉ sL κ3.1 → ∀ κ6 : CS, κ6 = (h_uN κ3.1 o5 10 0, κ3.2 - (15 + 12)) → (h ∈ sL κ6.1 ∧ sK κ6.1 h = 1) ∧ F_X11_nextSerial G h 2 (fun (z8 : Int64) (κ7 : CS) => ∃ b : Nat, a1 = some b ∧ (b ∈ sL κ7.1 ∧ sK κ7.1 b = 8) ∧ ∀ z9 : Option Nat, z9 = sP κ7.1 b 14 → F_X5_init G o5 z8 z9 a2 (fun (κ10 : CS) => ∃ b : Nat, z1 = some b ∧ (b ∈ sL κ10.1 ∧ sK κ10.1 b = 13) ∧ ∀ z12 : Int32, z12 = sI κ10.1 b 1 → (o5 ∈ sL κ10.1 ∧ sK κ10.1 o5 = 10) ∧ ∀ κ13 : CS, κ13 = (h_uI κ10.1 o5 3 z12, κ10.2) → ∃ b : Nat, z1 = some b ∧ (b ∈ sL κ13.1 ∧ sK κ13.1 b = 13) ∧ ∀ z14 : Int32, z14 = sI κ13.1 b 3 → (o5 ∈ sL κ13.1 ∧ sK κ13.1 o5 = 10) ∧ ∀ κ15 : CS, κ15 = (h_uI κ13.1 o5 4 z14, κ13.2) → ∃ b : Nat, z1 = some b ∧ (b ∈ sL κ15.1 ∧ sK κ15.1 b = 13) ∧ ∀ z16 : Int32, z16 = sI κ15.1 b 7 → (0 ≤ z16.toInt ∧ z16.toInt ≤ 1) ∧ (o5 ∈ sL κ15.1 ∧ sK κ15.1 o5 = 10) ∧ ∀ κ17 : CS, κ17 = (h_uI κ15.1 o5 5 z16, κ15.2) → (o5 ∈ sL κ17.1 ∧ sK κ17.1 o5 = 10) ∧ ∀ κ18 : CS, κ18 = (h_uI κ17.1 o5 7 z4, κ17.2) → (h ∈ sL κ18.1 ∧ sK κ18.1 h = 1) ∧ ∀ z19 : Option Nat, z19 = sP κ18.1 h 10 → ∃ b : Nat, z19 = some b ∧ (b ∈ sL κ18.1 ∧ sK κ18.1 b = 7) ∧ F_Jx4a65c_add_9ea2d G b (some o5) (fun (z21 : Int32) (κ20 : CS) => ∃ b : Nat, a1 = some b ∧ (b ∈ sL κ20.1 ∧ sK κ20.1 b = 8) ∧ ∀ κ22 : CS, κ22 = (h_uP κ20.1 b 15 (some o5), κ20.2) → ∃ b : Nat, a4 = some b ∧ (b ∈ sL κ22.1 ∧ sK κ22.1 b = 2) ∧ F_X6_begin G b 152 (fun (κ23 : CS) => ∃ b : Nat, a4 = some b ∧ (b ∈ sL κ23.1 ∧ sK κ23.1 b = 2) ∧ F_X6_put G b 64 2 89 (fun (κ25 : CS) => ∀ z27 : Int64, z27 = (z4 : Int32).toInt64 → ∃ b : Nat, a4 = some b ∧ (b ∈ sL κ25.1 ∧ sK κ25.1 b = 2) ∧ F_X6_put G b 66 1 z27 (fun (κ28 : CS) => ∀ z30 : Int64, z30 = (a3 : Int32).toInt64 → ∃ b : Nat, a4 = some b ∧ (b ∈ sL κ28.1 ∧ sK κ28.1 b = 2) ∧ F_X6_put G b 68 4 z30 (fun (κ31 : CS) => ∃ b : Nat, a2 = some b ∧ (b ∈ sL κ31.1 ∧ sK κ31.1 b = 5) ∧ F_X4_tellAll G b a4 (fun (κ33 : CS) => (o5 ∈ sL κ33.1 ∧ sK κ33.1 o5 = 10) ∧ ∀ z35 : Int64, z35 = sJ κ33.1 o5 0 → ∃ b : Nat, a4 = some b ∧ (b ∈ sL κ33.1 ∧ sK κ33.1 b = 2) ∧ F_X6_put G b 128 8 z35 (fun (κ36 : CS) => (o5 ∈ sL κ36.1 ∧ sK κ36.1 o5 = 10) ∧ ∀ z38 : Int64, z38 = sJ κ36.1 o5 0 → ∃ b : Nat, a4 = some b ∧ (b ∈ sL κ36.1 ∧ sK κ36.1 b = 2) ∧ F_X6_put G b 136 8 z38 (fun (κ39 : CS) => post κ39) κ36) κ33) κ31) κ28) κ25) κ23) κ22) κ18) κ7) κ6) κ) ∧ ((z1 = none) → post κ)
theorem dX11_addOpen_0 : decode cX11_addOpen 0 = .ok (.aload_n 1, 1) := by decide +kernel
theorem dX11_addOpen_1 : decode cX11_addOpen 1 = .ok (.getfield 591, 3) := by decide +kernel
theorem dX11_addOpen_4 : decode cX11_addOpen 4 = .ok (.astore 5, 2) := by decide +kernel
theorem dX11_addOpen_6 : decode cX11_addOpen 6 = .ok (.aload 5, 2) := by decide +kernel
theorem dX11_addOpen_8 : decode cX11_addOpen 8 = .ok (.ifnonnull 4, 3) := by decide +kernel
theorem dX11_addOpen_11 : decode cX11_addOpen 11 = .ok (.return_, 1) := by decide +kernel
theorem dX11_addOpen_12 : decode cX11_addOpen 12 = .ok (.aload_n 0, 1) := by decide +kernel
theorem dX11_addOpen_13 : decode cX11_addOpen 13 = .ok (.aload_n 2, 1) := by decide +kernel
theorem dX11_addOpen_14 : decode cX11_addOpen 14 = .ok (.aload 5, 2) := by decide +kernel
theorem dX11_addOpen_16 : decode cX11_addOpen 16 = .ok (.getfield 659, 3) := by decide +kernel
theorem dX11_addOpen_19 : decode cX11_addOpen 19 = .ok (.invokevirtual 767, 3) := by decide +kernel
theorem dX11_addOpen_22 : decode cX11_addOpen 22 = .ok (.istore 6, 2) := by decide +kernel
theorem dX11_addOpen_24 : decode cX11_addOpen 24 = .ok (.new 168, 3) := by decide +kernel
theorem dX11_addOpen_27 : decode cX11_addOpen 27 = .ok (.dup, 1) := by decide +kernel
theorem dX11_addOpen_28 : decode cX11_addOpen 28 = .ok (.aload_n 0, 1) := by decide +kernel
theorem dX11_addOpen_29 : decode cX11_addOpen 29 = .ok (.iconst 2, 1) := by decide +kernel
theorem dX11_addOpen_30 : decode cX11_addOpen 30 = .ok (.invokevirtual 484, 3) := by decide +kernel
theorem dX11_addOpen_33 : decode cX11_addOpen 33 = .ok (.aload_n 1, 1) := by decide +kernel
theorem dX11_addOpen_34 : decode cX11_addOpen 34 = .ok (.getfield 382, 3) := by decide +kernel
theorem dX11_addOpen_37 : decode cX11_addOpen 37 = .ok (.aload_n 2, 1) := by decide +kernel
theorem dX11_addOpen_38 : decode cX11_addOpen 38 = .ok (.invokespecial 771, 3) := by decide +kernel
theorem dX11_addOpen_41 : decode cX11_addOpen 41 = .ok (.astore 7, 2) := by decide +kernel
theorem dX11_addOpen_43 : decode cX11_addOpen 43 = .ok (.aload 7, 2) := by decide +kernel
theorem dX11_addOpen_45 : decode cX11_addOpen 45 = .ok (.aload 5, 2) := by decide +kernel
theorem dX11_addOpen_47 : decode cX11_addOpen 47 = .ok (.getfield 653, 3) := by decide +kernel
theorem dX11_addOpen_50 : decode cX11_addOpen 50 = .ok (.putfield 765, 3) := by decide +kernel
theorem dX11_addOpen_53 : decode cX11_addOpen 53 = .ok (.aload 7, 2) := by decide +kernel
theorem dX11_addOpen_55 : decode cX11_addOpen 55 = .ok (.aload 5, 2) := by decide +kernel
theorem dX11_addOpen_57 : decode cX11_addOpen 57 = .ok (.getfield 634, 3) := by decide +kernel
theorem dX11_addOpen_60 : decode cX11_addOpen 60 = .ok (.putfield 766, 3) := by decide +kernel
theorem dX11_addOpen_63 : decode cX11_addOpen 63 = .ok (.aload 7, 2) := by decide +kernel
theorem dX11_addOpen_65 : decode cX11_addOpen 65 = .ok (.aload 5, 2) := by decide +kernel
theorem dX11_addOpen_67 : decode cX11_addOpen 67 = .ok (.getfield 656, 3) := by decide +kernel
theorem dX11_addOpen_70 : decode cX11_addOpen 70 = .ok (.putfield 570, 3) := by decide +kernel
theorem dX11_addOpen_73 : decode cX11_addOpen 73 = .ok (.aload 7, 2) := by decide +kernel
theorem dX11_addOpen_75 : decode cX11_addOpen 75 = .ok (.iload 6, 2) := by decide +kernel
theorem dX11_addOpen_77 : decode cX11_addOpen 77 = .ok (.putfield 726, 3) := by decide +kernel
theorem dX11_addOpen_80 : decode cX11_addOpen 80 = .ok (.aload_n 0, 1) := by decide +kernel
theorem dX11_addOpen_81 : decode cX11_addOpen 81 = .ok (.getfield 52, 3) := by decide +kernel
theorem dX11_addOpen_84 : decode cX11_addOpen 84 = .ok (.aload 7, 2) := by decide +kernel
theorem dX11_addOpen_86 : decode cX11_addOpen 86 = .ok (.invokevirtual 488, 3) := by decide +kernel
theorem dX11_addOpen_89 : decode cX11_addOpen 89 = .ok (.pop, 1) := by decide +kernel
theorem dX11_addOpen_90 : decode cX11_addOpen 90 = .ok (.aload_n 1, 1) := by decide +kernel
theorem dX11_addOpen_91 : decode cX11_addOpen 91 = .ok (.aload 7, 2) := by decide +kernel
theorem dX11_addOpen_93 : decode cX11_addOpen 93 = .ok (.putfield 288, 3) := by decide +kernel
theorem dX11_addOpen_96 : decode cX11_addOpen 96 = .ok (.aload 4, 2) := by decide +kernel
theorem dX11_addOpen_98 : decode cX11_addOpen 98 = .ok (.sipush 152, 3) := by decide +kernel
theorem dX11_addOpen_101 : decode cX11_addOpen 101 = .ok (.invokevirtual 262, 3) := by decide +kernel
theorem dX11_addOpen_104 : decode cX11_addOpen 104 = .ok (.aload 4, 2) := by decide +kernel
theorem dX11_addOpen_106 : decode cX11_addOpen 106 = .ok (.bipush 64, 2) := by decide +kernel
theorem dX11_addOpen_108 : decode cX11_addOpen 108 = .ok (.iconst 2, 1) := by decide +kernel
theorem dX11_addOpen_109 : decode cX11_addOpen 109 = .ok (.ldc2_w 774, 3) := by decide +kernel
theorem dX11_addOpen_112 : decode cX11_addOpen 112 = .ok (.invokevirtual 349, 3) := by decide +kernel
theorem dX11_addOpen_115 : decode cX11_addOpen 115 = .ok (.aload 4, 2) := by decide +kernel
theorem dX11_addOpen_117 : decode cX11_addOpen 117 = .ok (.bipush 66, 2) := by decide +kernel
theorem dX11_addOpen_119 : decode cX11_addOpen 119 = .ok (.iconst 1, 1) := by decide +kernel
theorem dX11_addOpen_120 : decode cX11_addOpen 120 = .ok (.iload 6, 2) := by decide +kernel
theorem dX11_addOpen_122 : decode cX11_addOpen 122 = .ok (.i2l, 1) := by decide +kernel
theorem dX11_addOpen_123 : decode cX11_addOpen 123 = .ok (.invokevirtual 349, 3) := by decide +kernel
theorem dX11_addOpen_126 : decode cX11_addOpen 126 = .ok (.aload 4, 2) := by decide +kernel
theorem dX11_addOpen_128 : decode cX11_addOpen 128 = .ok (.bipush 68, 2) := by decide +kernel
theorem dX11_addOpen_130 : decode cX11_addOpen 130 = .ok (.iconst 4, 1) := by decide +kernel
theorem dX11_addOpen_131 : decode cX11_addOpen 131 = .ok (.iload_n 3, 1) := by decide +kernel
theorem dX11_addOpen_132 : decode cX11_addOpen 132 = .ok (.i2l, 1) := by decide +kernel
theorem dX11_addOpen_133 : decode cX11_addOpen 133 = .ok (.invokevirtual 349, 3) := by decide +kernel
theorem dX11_addOpen_136 : decode cX11_addOpen 136 = .ok (.aload_n 2, 1) := by decide +kernel
theorem dX11_addOpen_137 : decode cX11_addOpen 137 = .ok (.aload 4, 2) := by decide +kernel
theorem dX11_addOpen_139 : decode cX11_addOpen 139 = .ok (.invokevirtual 776, 3) := by decide +kernel
theorem dX11_addOpen_142 : decode cX11_addOpen 142 = .ok (.aload 4, 2) := by decide +kernel
theorem dX11_addOpen_144 : decode cX11_addOpen 144 = .ok (.sipush 128, 3) := by decide +kernel
theorem dX11_addOpen_147 : decode cX11_addOpen 147 = .ok (.bipush 8, 2) := by decide +kernel
theorem dX11_addOpen_149 : decode cX11_addOpen 149 = .ok (.aload 7, 2) := by decide +kernel
theorem dX11_addOpen_151 : decode cX11_addOpen 151 = .ok (.getfield 328, 3) := by decide +kernel
theorem dX11_addOpen_154 : decode cX11_addOpen 154 = .ok (.invokevirtual 349, 3) := by decide +kernel
theorem dX11_addOpen_157 : decode cX11_addOpen 157 = .ok (.aload 4, 2) := by decide +kernel
theorem dX11_addOpen_159 : decode cX11_addOpen 159 = .ok (.sipush 136, 3) := by decide +kernel
theorem dX11_addOpen_162 : decode cX11_addOpen 162 = .ok (.bipush 8, 2) := by decide +kernel
theorem dX11_addOpen_164 : decode cX11_addOpen 164 = .ok (.aload 7, 2) := by decide +kernel
theorem dX11_addOpen_166 : decode cX11_addOpen 166 = .ok (.getfield 328, 3) := by decide +kernel
theorem dX11_addOpen_169 : decode cX11_addOpen 169 = .ok (.invokevirtual 349, 3) := by decide +kernel
theorem dX11_addOpen_172 : decode cX11_addOpen 172 = .ok (.return_, 1) := by decide +kernel
set_option maxRecDepth 100000 in
set_option maxHeartbeats 4000000 in
theorem c_X11_addOpen (l : Launch) (D : va_G) (t : Nat → ClassId) (G : GE) (κ : CS) (h : Nat) (a1 : Option Nat) (a2 : Option Nat) (a3 : Int32) (a4 : Option Nat) (post : CS → Prop) (hw : F_X11_addOpen G h a1 a2 a3 a4 post κ) (sz : Nat) : CMv l D t yX11_addOpen cX11_addOpen 8 7 171 G κ sz [.ref h, va_rf a1, va_rf a2, .int a3, va_rf a4] post := by
  refine c_go (by decide) (by cases a1 <;> cases a2 <;> cases a4 <;> exact Nat.le_of_ble_eq_true rfl) ?_
  intro p e s m below meth c ls A hF hr hlk hin hAe hH hA hE hl
  unfold cB
  rw [hAe]
  clear hAe
  have hF : FX p m c cX11_addOpen 8 s _ RX11 D t := hF
  have hx := hF.1.1
  have hb := hF.1.2.1
  have hl : lv_has ls 8 [(0, .ref h), (1, va_rf a1), (2, va_rf a2), (3, .int a3), (4, va_rf a4)] := (by have h2 := hl; clear hw; revert h2; cases a1 <;> cases a2 <;> cases a4 <;> exact id)
  unfold F_X11_addOpen at hw
  refine w_aloadq_n hF dX11_addOpen_0 rfl (lv_at hl 1 rfl) ?_
  refine cw_getP (q := a1) hF hH fk_X11_591 dX11_addOpen_1 hw (fun z1 hw => ?_)
  refine w_astoreq (lv' := [(5, va_rf z1), (0, .ref h), (1, va_rf a1), (2, va_rf a2), (3, .int a3), (4, va_rf a4)]) hF dX11_addOpen_4 hl (by decide) (by generalize a4 = y; cases y <;> rfl) (fun ls hl => ?_)
  refine w_aloadq hF dX11_addOpen_6 (lv_at hl 0 rfl) ?_
  refine cw_ifnonnull (q := z1) (tgt := 12) hF dX11_addOpen_8 rfl hw (fun hw => ?_) (fun hw => ?_)
  · refine lv_aload_n hx hb dX11_addOpen_12 rfl (lv_at hl 1 rfl) ?_
    refine w_aloadq_n hF dX11_addOpen_13 rfl (lv_at hl 3 rfl) ?_
    refine w_aloadq hF dX11_addOpen_14 (lv_at hl 0 rfl) ?_
    refine cw_getI (q := z1) hF hH fk_X11_659 dX11_addOpen_16 hw (fun z2 hw => ?_)
    refine cw_cVi (b := h) (As := [va_rf a2, .int z2]) (rest := []) hF hH hA hE mv_X11_767 ci_X11 (by decide) (fun sz => c_X11_granted l D t G _ h a2 z2 _ hw.2 sz) dX11_addOpen_19 hw.1 ⟨Nat.le_of_ble_eq_true rfl, Nat.le_of_ble_eq_true rfl⟩ rfl hl.1 (Nat.le_of_ble_eq_true rfl) rfl (fun z4 κ3 H locs cells slots hw hH => ?_)
    refine lv_istore (lv' := [(6, .int z4), (5, va_rf z1), (0, .ref h), (1, va_rf a1), (2, va_rf a2), (3, .int a3), (4, va_rf a4)]) hx hb dX11_addOpen_22 hl (by decide) (by generalize z1 = y; cases y <;> rfl) (fun ls hl => ?_)
    refine cw_new hF hH hA ci_X5 (by decide) rfl df_X5 dX11_addOpen_24 (wc_16 7 rfl) (wc_23 25 rfl) (wc_8 13 rfl) hw (fun o5 κ6 H locs cells slots hw hH => ?_)
    refine lv_dup hx hb dX11_addOpen_27 rfl ?_
    refine lv_aload_n hx hb dX11_addOpen_28 rfl (lv_at hl 2 rfl) ?_
    refine lv_iconst (v := 2) hx hb dX11_addOpen_29 (by decide) ?_
    refine cw_cVl (b := h) (As := [.int 2]) (rest := [.ref o5, .ref o5]) hF hH hA hE mv_X11_484 ci_X11 (by decide) (fun sz => c_X11_nextSerial l D t G _ h 2 _ hw.2 sz) dX11_addOpen_30 hw.1 ⟨Nat.le_of_ble_eq_true rfl, Nat.le_of_ble_eq_true rfl⟩ rfl hl.1 (Nat.le_of_ble_eq_true rfl) rfl (fun z8 κ7 H locs cells slots hw hH => ?_)
    refine w_aloadq_n hF dX11_addOpen_33 rfl (lv_at hl 3 rfl) ?_
    refine cw_getP (q := a1) hF hH fk_X11_382 dX11_addOpen_34 hw (fun z9 hw => ?_)
    refine w_aloadq_n hF dX11_addOpen_37 rfl (lv_at hl 4 rfl) ?_
    refine cw_cI (b := o5) (As := [.long z8, va_rf z9, va_rf a2]) (rest := [.ref o5]) hF hH hA hE mi_X11_771 (fun sz => c_X5_init l D t G _ o5 z8 z9 a2 _ hw sz) dX11_addOpen_38 ⟨Nat.le_of_ble_eq_true rfl, Nat.le_of_ble_eq_true rfl⟩ rfl hl.1 (Nat.le_of_ble_eq_true rfl) rfl (fun κ10 H locs cells slots hw hH => ?_)
    refine lv_astore (lv' := [(7, .ref o5), (6, .int z4), (5, va_rf z1), (0, .ref h), (1, va_rf a1), (2, va_rf a2), (3, .int a3), (4, va_rf a4)]) hx hb dX11_addOpen_41 hl (by decide) rfl (fun ls hl => ?_)
    refine lv_aload hx hb dX11_addOpen_43 (lv_at hl 0 rfl) ?_
    refine w_aloadq hF dX11_addOpen_45 (lv_at hl 2 rfl) ?_
    refine cw_getI (q := z1) hF hH fk_X11_653 dX11_addOpen_47 hw (fun z12 hw => ?_)
    refine cw_putIr (a := o5) (v := z12) hF hH fk_X11_765 dX11_addOpen_50 rfl rfl rfl hw (fun κ13 H locs cells slots hw hH => ?_)
    refine lv_aload hx hb dX11_addOpen_53 (lv_at hl 0 rfl) ?_
    refine w_aloadq hF dX11_addOpen_55 (lv_at hl 2 rfl) ?_
    refine cw_getI (q := z1) hF hH fk_X11_634 dX11_addOpen_57 hw (fun z14 hw => ?_)
    refine cw_putIr (a := o5) (v := z14) hF hH fk_X11_766 dX11_addOpen_60 rfl rfl rfl hw (fun κ15 H locs cells slots hw hH => ?_)
    refine lv_aload hx hb dX11_addOpen_63 (lv_at hl 0 rfl) ?_
    refine w_aloadq hF dX11_addOpen_65 (lv_at hl 2 rfl) ?_
    refine cw_getI (q := z1) hF hH fk_X11_656 dX11_addOpen_67 hw (fun z16 hw => ?_)
    refine cw_putZr (a := o5) (v := z16) hF hH fk_X11_570 dX11_addOpen_70 rfl rfl hw (fun κ17 H locs cells slots hw hH => ?_)
    refine lv_aload hx hb dX11_addOpen_73 (lv_at hl 0 rfl) ?_
    refine lv_iload hx hb dX11_addOpen_75 (lv_at hl 1 rfl) ?_
    refine cw_putIr (a := o5) (v := z4) hF hH fk_X11_726 dX11_addOpen_77 rfl rfl rfl hw (fun κ18 H locs cells slots hw hH => ?_)
    refine lv_aload_n hx hb dX11_addOpen_80 rfl (lv_at hl 3 rfl) ?_
    refine cw_getPr (a := h) hF hH fk_X11_52 dX11_addOpen_81 hw (fun z19 hw => ?_)
    refine lv_aload hx hb dX11_addOpen_84 (lv_at hl 0 rfl) ?_
    refine cw_cViq (q := z19) (As := [.ref o5]) (rest := []) hF hH hA hE mv_X11_488 ci_Jx4a65c (by decide) hw (fun b hw sz => c_Jx4a65c_add_9ea2d l D t G _ b (some o5) _ hw sz) dX11_addOpen_86 ⟨Nat.le_of_ble_eq_true rfl, Nat.le_of_ble_eq_true rfl⟩ rfl hl.1 (Nat.le_of_ble_eq_true rfl) rfl (fun z21 κ20 H locs cells slots hw hH => ?_)
    refine lv_pop hx hb dX11_addOpen_89 rfl ?_
    refine w_aloadq_n hF dX11_addOpen_90 rfl (lv_at hl 4 rfl) ?_
    refine lv_aload hx hb dX11_addOpen_91 (lv_at hl 0 rfl) ?_
    refine cw_putP (q := a1) (v := (some o5)) hF hH fk_X11_288 dX11_addOpen_93 rfl rfl hw (fun κ22 H locs cells slots hw hH => ?_)
    refine w_aloadq hF dX11_addOpen_96 (lv_at hl 7 rfl) ?_
    refine lv_sipush (v := 152) hx hb dX11_addOpen_98 (by decide) ?_
    refine cw_cVvq (q := a4) (As := [.int 152]) (rest := []) hF hH hA hE mv_X11_262 ci_X6 (by decide) hw (fun b hw sz => c_X6_begin l D t G _ b 152 _ hw sz) dX11_addOpen_101 ⟨Nat.le_of_ble_eq_true rfl, Nat.le_of_ble_eq_true rfl⟩ rfl hl.1 (Nat.le_of_ble_eq_true rfl) rfl (fun κ23 H locs cells slots hw hH => ?_)
    refine w_aloadq hF dX11_addOpen_104 (lv_at hl 7 rfl) ?_
    refine lv_bipush (v := 64) hx hb dX11_addOpen_106 (by decide) ?_
    refine lv_iconst (v := 2) hx hb dX11_addOpen_108 (by decide) ?_
    refine lv_ldc2 (v := 89) hx hb hF.1.2.2.2.1 (hF.1.2.2.2.2 _ (wc_23 29 rfl)) dX11_addOpen_109 ?_
    refine cw_cVvq (q := a4) (As := [.int 64, .int 2, .long 89]) (rest := []) hF hH hA hE mv_X11_349 ci_X6 (by decide) hw (fun b hw sz => c_X6_put l D t G _ b 64 2 89 _ hw sz) dX11_addOpen_112 ⟨Nat.le_of_ble_eq_true rfl, Nat.le_of_ble_eq_true rfl⟩ rfl hl.1 (Nat.le_of_ble_eq_true rfl) rfl (fun κ25 H locs cells slots hw hH => ?_)
    refine w_aloadq hF dX11_addOpen_115 (lv_at hl 7 rfl) ?_
    refine lv_bipush (v := 66) hx hb dX11_addOpen_117 (by decide) ?_
    refine lv_iconst (v := 1) hx hb dX11_addOpen_119 (by decide) ?_
    refine lv_iload hx hb dX11_addOpen_120 (lv_at hl 1 rfl) ?_
    refine lv_i2l hx hb dX11_addOpen_122 rfl ?_
    refine w_nml hw (fun z27 hw => ?_)
    refine cw_cVvq (q := a4) (As := [.int 66, .int 1, .long z27]) (rest := []) hF hH hA hE mv_X11_349 ci_X6 (by decide) hw (fun b hw sz => c_X6_put l D t G _ b 66 1 z27 _ hw sz) dX11_addOpen_123 ⟨Nat.le_of_ble_eq_true rfl, Nat.le_of_ble_eq_true rfl⟩ rfl hl.1 (Nat.le_of_ble_eq_true rfl) rfl (fun κ28 H locs cells slots hw hH => ?_)
    refine w_aloadq hF dX11_addOpen_126 (lv_at hl 7 rfl) ?_
    refine lv_bipush (v := 68) hx hb dX11_addOpen_128 (by decide) ?_
    refine lv_iconst (v := 4) hx hb dX11_addOpen_130 (by decide) ?_
    refine lv_iload_n hx hb dX11_addOpen_131 rfl (lv_at hl 6 rfl) ?_
    refine lv_i2l hx hb dX11_addOpen_132 rfl ?_
    refine w_nml hw (fun z30 hw => ?_)
    refine cw_cVvq (q := a4) (As := [.int 68, .int 4, .long z30]) (rest := []) hF hH hA hE mv_X11_349 ci_X6 (by decide) hw (fun b hw sz => c_X6_put l D t G _ b 68 4 z30 _ hw sz) dX11_addOpen_133 ⟨Nat.le_of_ble_eq_true rfl, Nat.le_of_ble_eq_true rfl⟩ rfl hl.1 (Nat.le_of_ble_eq_true rfl) rfl (fun κ31 H locs cells slots hw hH => ?_)
    refine w_aloadq_n hF dX11_addOpen_136 rfl (lv_at hl 5 rfl) ?_
    refine w_aloadq hF dX11_addOpen_137 (lv_at hl 7 rfl) ?_
    refine cw_cVvq (q := a2) (As := [va_rf a4]) (rest := []) hF hH hA hE mv_X11_776 ci_X4 (by decide) hw (fun b hw sz => c_X4_tellAll l D t G _ b a4 _ hw sz) dX11_addOpen_139 ⟨Nat.le_of_ble_eq_true rfl, Nat.le_of_ble_eq_true rfl⟩ rfl hl.1 (Nat.le_of_ble_eq_true rfl) rfl (fun κ33 H locs cells slots hw hH => ?_)
    refine w_aloadq hF dX11_addOpen_142 (lv_at hl 7 rfl) ?_
    refine lv_sipush (v := 128) hx hb dX11_addOpen_144 (by decide) ?_
    refine lv_bipush (v := 8) hx hb dX11_addOpen_147 (by decide) ?_
    refine lv_aload hx hb dX11_addOpen_149 (lv_at hl 0 rfl) ?_
    refine cw_getJr (a := o5) hF hH fk_X11_328 dX11_addOpen_151 hw (fun z35 hw => ?_)
    refine cw_cVvq (q := a4) (As := [.int 128, .int 8, .long z35]) (rest := []) hF hH hA hE mv_X11_349 ci_X6 (by decide) hw (fun b hw sz => c_X6_put l D t G _ b 128 8 z35 _ hw sz) dX11_addOpen_154 ⟨Nat.le_of_ble_eq_true rfl, Nat.le_of_ble_eq_true rfl⟩ rfl hl.1 (Nat.le_of_ble_eq_true rfl) rfl (fun κ36 H locs cells slots hw hH => ?_)
    refine w_aloadq hF dX11_addOpen_157 (lv_at hl 7 rfl) ?_
    refine lv_sipush (v := 136) hx hb dX11_addOpen_159 (by decide) ?_
    refine lv_bipush (v := 8) hx hb dX11_addOpen_162 (by decide) ?_
    refine lv_aload hx hb dX11_addOpen_164 (lv_at hl 0 rfl) ?_
    refine cw_getJr (a := o5) hF hH fk_X11_328 dX11_addOpen_166 hw (fun z38 hw => ?_)
    refine cw_cVvq (q := a4) (As := [.int 136, .int 8, .long z38]) (rest := []) hF hH hA hE mv_X11_349 ci_X6 (by decide) hw (fun b hw sz => c_X6_put l D t G _ b 136 8 z38 _ hw sz) dX11_addOpen_169 ⟨Nat.le_of_ble_eq_true rfl, Nat.le_of_ble_eq_true rfl⟩ rfl hl.1 (Nat.le_of_ble_eq_true rfl) rfl (fun κ39 H locs cells slots hw hH => ?_)
    exact cw_retv hF hH ⟨rfl, rfl⟩ hr hlk dX11_addOpen_172 hw
  · exact cw_retv hF hH ⟨rfl, rfl⟩ hr hlk dX11_addOpen_11 hw
set_option maxRecDepth 100000 in
def F_X11_openNew (G : GE) (h : Nat) (a1 : Option Nat) (a2 : Option Nat) (a3 : Option Nat) (post : Int32 → CS → Prop) (κ : CS) : Prop := ∃ b : Nat, a2 = some b ∧ (b ∈ sL κ.1 ∧ sK κ.1 b = 13) ∧ ∀ z1 : Int32, z1 = sI κ.1 b 4 → jc (fun (K4 : Unit → CS → Prop) => ((z1.toInt = (1 : Int32).toInt) → K4 () κ) ∧ ((¬ z1.toInt = (1 : Int32).toInt) → ∃ b : Nat, a2 = some b ∧ (b ∈ sL κ.1 ∧ sK κ.1 b = 13) ∧ ∀ z7 : Int32, z7 = sI κ.1 b 4 → ((¬ z7.toInt = (4 : Int32).toInt) → (h ∈ sL κ.1 ∧ sK κ.1 h = 1) ∧ ∀ z8 : Option Nat, z8 = sP κ.1 h 10 → ∃ b : Nat, z8 = some b ∧ (b ∈ sL κ.1 ∧ sK κ.1 b = 7) ∧ F_Jx4a65c_size_8abf5 G b  (fun (z10 : Int32) (κ9 : CS) => ((z10.toInt < (40 : Int32).toInt) → (h ∈ sL κ9.1 ∧ sK κ9.1 h = 1) ∧ ∀ z11 : Option Nat, z11 = sP κ9.1 h 3 → ∃ b : Nat, z11 = some b ∧ (b ∈ sL κ9.1 ∧ sK κ9.1 b = 6) ∧ F_X9_free G b  (fun (z13 : Option Nat) (κ12 : CS) => ((¬ z13 = none) → (h ∈ sL κ12.1 ∧ sK κ12.1 h = 1) ∧ F_X11_nextChange G h 0 z13 (fun (z15 : Option Nat) (κ14 : CS) => ∃ b : Nat, a2 = some b ∧ (b ∈ sL κ14.1 ∧ sK κ14.1 b = 13) ∧ ∀ z16 : Option Nat, z16 = sP κ14.1 b 10 → ∃ b : Nat, z16 = some b ∧ (b ∈ sL κ14.1 ∧ sK κ14.1 b = 5) ∧ ∀ z17 : Int32, z17 = sI κ14.1 b 0 → ∃ b : Nat, a2 = some b ∧ (b ∈ sL κ14.1 ∧ sK κ14.1 b = 13) ∧ ∀ z18 : Int32, z18 = sI κ14.1 b 5 → ∃ b : Nat, a2 = some b ∧ (b ∈ sL κ14.1 ∧ sK κ14.1 b = 13) ∧ F_X10_newAttributes G b  (fun (z20 : Int32) (κ19 : CS) => (h ∈ sL κ19.1 ∧ sK κ19.1 h = 1) ∧ ∀ z21 : Int64, z21 = sJ κ19.1 h 7 → ∃ b : Nat, z15 = some b ∧ (b ∈ sL κ19.1 ∧ sK κ19.1 b = 4) ∧ F_X1_beginNode G b z17 z18 z20 z21 (fun (κ22 : CS) => ∃ b : Nat, a2 = some b ∧ (b ∈ sL κ22.1 ∧ sK κ22.1 b = 13) ∧ F_X10_nameTo G b z15 (fun (κ24 : CS) => (h ∈ sL κ24.1 ∧ sK κ24.1 h = 1) ∧ F_X11_done G h z15 (fun (κ26 : CS) => (h ∈ sL κ26.1 ∧ sK κ26.1 h = 1) ∧ F_X11_addOpen G h a1 z13 2 a3 (fun (κ28 : CS) => post 0 κ28) κ26) κ24) κ22) κ19) κ14) κ12) ∧ ((z13 = none) → post (-1073741697) κ12)) κ9) ∧ (((40 : Int32).toInt ≤ z10.toInt) → post (-1073741670) κ9)) κ) ∧ ((z7.toInt = (4 : Int32).toInt) → K4 () κ))) (fun (x2 : Unit) (κ3 : CS) => post (-1073741772) κ3)
theorem dX11_openNew_0 : decode cX11_openNew 0 = .ok (.aload_n 2, 1) := by decide +kernel
theorem dX11_openNew_1 : decode cX11_openNew 1 = .ok (.getfield 637, 3) := by decide +kernel
theorem dX11_openNew_4 : decode cX11_openNew 4 = .ok (.iconst 1, 1) := by decide +kernel
theorem dX11_openNew_5 : decode cX11_openNew 5 = .ok (.if_icmp .eq 11, 3) := by decide +kernel
theorem dX11_openNew_8 : decode cX11_openNew 8 = .ok (.aload_n 2, 1) := by decide +kernel
theorem dX11_openNew_9 : decode cX11_openNew 9 = .ok (.getfield 637, 3) := by decide +kernel
theorem dX11_openNew_12 : decode cX11_openNew 12 = .ok (.iconst 4, 1) := by decide +kernel
theorem dX11_openNew_13 : decode cX11_openNew 13 = .ok (.if_icmp .ne 7, 3) := by decide +kernel
theorem dX11_openNew_16 : decode cX11_openNew 16 = .ok (.ldc_w 706, 3) := by decide +kernel
theorem dX11_openNew_19 : decode cX11_openNew 19 = .ok (.ireturn, 1) := by decide +kernel
theorem dX11_openNew_20 : decode cX11_openNew 20 = .ok (.aload_n 0, 1) := by decide +kernel
theorem dX11_openNew_21 : decode cX11_openNew 21 = .ok (.getfield 52, 3) := by decide +kernel
theorem dX11_openNew_24 : decode cX11_openNew 24 = .ok (.invokevirtual 161, 3) := by decide +kernel
theorem dX11_openNew_27 : decode cX11_openNew 27 = .ok (.bipush 40, 2) := by decide +kernel
theorem dX11_openNew_29 : decode cX11_openNew 29 = .ok (.if_icmp .lt 7, 3) := by decide +kernel
theorem dX11_openNew_32 : decode cX11_openNew 32 = .ok (.ldc_w 483, 3) := by decide +kernel
theorem dX11_openNew_35 : decode cX11_openNew 35 = .ok (.ireturn, 1) := by decide +kernel
theorem dX11_openNew_36 : decode cX11_openNew 36 = .ok (.aload_n 0, 1) := by decide +kernel
theorem dX11_openNew_37 : decode cX11_openNew 37 = .ok (.getfield 29, 3) := by decide +kernel
theorem dX11_openNew_40 : decode cX11_openNew 40 = .ok (.invokevirtual 230, 3) := by decide +kernel
theorem dX11_openNew_43 : decode cX11_openNew 43 = .ok (.astore 4, 2) := by decide +kernel
theorem dX11_openNew_45 : decode cX11_openNew 45 = .ok (.aload 4, 2) := by decide +kernel
theorem dX11_openNew_47 : decode cX11_openNew 47 = .ok (.ifnonnull 7, 3) := by decide +kernel
theorem dX11_openNew_50 : decode cX11_openNew 50 = .ok (.ldc_w 707, 3) := by decide +kernel
theorem dX11_openNew_53 : decode cX11_openNew 53 = .ok (.ireturn, 1) := by decide +kernel
theorem dX11_openNew_54 : decode cX11_openNew 54 = .ok (.aload_n 0, 1) := by decide +kernel
theorem dX11_openNew_55 : decode cX11_openNew 55 = .ok (.iconst 0, 1) := by decide +kernel
theorem dX11_openNew_56 : decode cX11_openNew 56 = .ok (.aload 4, 2) := by decide +kernel
theorem dX11_openNew_58 : decode cX11_openNew 58 = .ok (.invokevirtual 234, 3) := by decide +kernel
theorem dX11_openNew_61 : decode cX11_openNew 61 = .ok (.astore 5, 2) := by decide +kernel
theorem dX11_openNew_63 : decode cX11_openNew 63 = .ok (.aload 5, 2) := by decide +kernel
theorem dX11_openNew_65 : decode cX11_openNew 65 = .ok (.aload_n 2, 1) := by decide +kernel
theorem dX11_openNew_66 : decode cX11_openNew 66 = .ok (.getfield 693, 3) := by decide +kernel
theorem dX11_openNew_69 : decode cX11_openNew 69 = .ok (.getfield 248, 3) := by decide +kernel
theorem dX11_openNew_72 : decode cX11_openNew 72 = .ok (.aload_n 2, 1) := by decide +kernel
theorem dX11_openNew_73 : decode cX11_openNew 73 = .ok (.getfield 643, 3) := by decide +kernel
theorem dX11_openNew_76 : decode cX11_openNew 76 = .ok (.aload_n 2, 1) := by decide +kernel
theorem dX11_openNew_77 : decode cX11_openNew 77 = .ok (.invokevirtual 708, 3) := by decide +kernel
theorem dX11_openNew_80 : decode cX11_openNew 80 = .ok (.aload_n 0, 1) := by decide +kernel
theorem dX11_openNew_81 : decode cX11_openNew 81 = .ok (.getfield 157, 3) := by decide +kernel
theorem dX11_openNew_84 : decode cX11_openNew 84 = .ok (.invokevirtual 238, 3) := by decide +kernel
theorem dX11_openNew_87 : decode cX11_openNew 87 = .ok (.aload_n 2, 1) := by decide +kernel
theorem dX11_openNew_88 : decode cX11_openNew 88 = .ok (.aload 5, 2) := by decide +kernel
theorem dX11_openNew_90 : decode cX11_openNew 90 = .ok (.invokevirtual 711, 3) := by decide +kernel
theorem dX11_openNew_93 : decode cX11_openNew 93 = .ok (.aload_n 0, 1) := by decide +kernel
theorem dX11_openNew_94 : decode cX11_openNew 94 = .ok (.aload 5, 2) := by decide +kernel
theorem dX11_openNew_96 : decode cX11_openNew 96 = .ok (.invokevirtual 584, 3) := by decide +kernel
theorem dX11_openNew_99 : decode cX11_openNew 99 = .ok (.aload_n 0, 1) := by decide +kernel
theorem dX11_openNew_100 : decode cX11_openNew 100 = .ok (.aload_n 1, 1) := by decide +kernel
theorem dX11_openNew_101 : decode cX11_openNew 101 = .ok (.aload 4, 2) := by decide +kernel
theorem dX11_openNew_103 : decode cX11_openNew 103 = .ok (.iconst 2, 1) := by decide +kernel
theorem dX11_openNew_104 : decode cX11_openNew 104 = .ok (.aload_n 3, 1) := by decide +kernel
theorem dX11_openNew_105 : decode cX11_openNew 105 = .ok (.invokevirtual 714, 3) := by decide +kernel
theorem dX11_openNew_108 : decode cX11_openNew 108 = .ok (.iconst 0, 1) := by decide +kernel
theorem dX11_openNew_109 : decode cX11_openNew 109 = .ok (.ireturn, 1) := by decide +kernel
set_option maxRecDepth 100000 in
set_option maxHeartbeats 4000000 in
theorem c_X11_openNew (l : Launch) (D : va_G) (t : Nat → ClassId) (G : GE) (κ : CS) (h : Nat) (a1 : Option Nat) (a2 : Option Nat) (a3 : Option Nat) (post : Int32 → CS → Prop) (hw : F_X11_openNew G h a1 a2 a3 post κ) (sz : Nat) : CMi l D t yX11_openNew cX11_openNew 6 (some .int) 8 198 G κ sz [.ref h, va_rf a1, va_rf a2, va_rf a3] post := by
  refine c_go (by decide) (by cases a1 <;> cases a2 <;> cases a3 <;> exact Nat.le_of_ble_eq_true rfl) ?_
  intro p e s m below meth c ls A hF hr hlk hin hAe hH hA hE hl
  unfold cB
  rw [hAe]
  clear hAe
  have hF : FX p m c cX11_openNew 6 s _ RX11 D t := hF
  have hx := hF.1.1
  have hb := hF.1.2.1
  have hl : lv_has ls 6 [(0, .ref h), (1, va_rf a1), (2, va_rf a2), (3, va_rf a3)] := (by have h2 := hl; clear hw; revert h2; cases a1 <;> cases a2 <;> cases a3 <;> exact id)
  unfold F_X11_openNew at hw
  refine w_aloadq_n hF dX11_openNew_0 rfl (lv_at hl 2 rfl) ?_
  refine cw_getI (q := a2) hF hH fk_X11_637 dX11_openNew_1 hw (fun z1 hw => ?_)
  refine lv_iconst (v := 1) hx hb dX11_openNew_4 (by decide) ?_
  obtain ⟨K4, hK5, hw⟩ := jc_open hw
  refine cw_join (K := K4) 16 (fun (x2 : Unit) => []) (fun (x2 : Unit) => []) hl hH (fun x2 κ3 ls H locs cells slots hl hw hH => ?_) (fun jn6 => ?_)
  · have hw := hK5 x2 κ3 hw
    have hl : lv_has ls 6 [] := hl
    refine lv_ldcw (v := (-1073741772)) hx hb hF.1.2.2.2.1 (hF.1.2.2.2.2 _ (wc_18 5 rfl)) dX11_openNew_16 ?_
    exact cw_reti hF hH ⟨rfl, rfl⟩ hr rfl hlk dX11_openNew_19 hw
  · skip
    refine w_icmp_eq (tgt := 16) hF dX11_openNew_5 rfl hw (fun hw => ?_) (fun hw => ?_)
    · have hl : lv_has ls 6 [] := lv_sub hl [] rfl
      exact jn6 () κ ls _ _ _ _ hl hw hH
    · refine w_aloadq_n hF dX11_openNew_8 rfl (lv_at hl 2 rfl) ?_
      refine cw_getI (q := a2) hF hH fk_X11_637 dX11_openNew_9 hw (fun z7 hw => ?_)
      refine lv_iconst (v := 4) hx hb dX11_openNew_12 (by decide) ?_
      refine w_icmp_ne (tgt := 20) hF dX11_openNew_13 rfl hw (fun hw => ?_) (fun hw => ?_)
      · refine lv_aload_n hx hb dX11_openNew_20 rfl (lv_at hl 0 rfl) ?_
        refine cw_getPr (a := h) hF hH fk_X11_52 dX11_openNew_21 hw (fun z8 hw => ?_)
        refine cw_cViq (q := z8) (As := []) (rest := []) hF hH hA hE mv_X11_161 ci_Jx4a65c (by decide) hw (fun b hw sz => c_Jx4a65c_size_8abf5 l D t G _ b  _ hw sz) dX11_openNew_24 ⟨Nat.le_of_ble_eq_true rfl, Nat.le_of_ble_eq_true rfl⟩ rfl hl.1 (Nat.le_of_ble_eq_true rfl) rfl (fun z10 κ9 H locs cells slots hw hH => ?_)
        refine lv_bipush (v := 40) hx hb dX11_openNew_27 (by decide) ?_
        refine w_icmp_lt (tgt := 36) hF dX11_openNew_29 rfl hw (fun hw => ?_) (fun hw => ?_)
        · refine lv_aload_n hx hb dX11_openNew_36 rfl (lv_at hl 0 rfl) ?_
          refine cw_getPr (a := h) hF hH fk_X11_29 dX11_openNew_37 hw (fun z11 hw => ?_)
          refine cw_cVqq (q := z11) (As := []) (rest := []) hF hH hA hE mv_X11_230 ci_X9 (by decide) hw (fun b hw sz => c_X9_free l D t G _ b  _ hw sz) dX11_openNew_40 ⟨Nat.le_of_ble_eq_true rfl, Nat.le_of_ble_eq_true rfl⟩ rfl hl.1 (Nat.le_of_ble_eq_true rfl) rfl (fun z13 κ12 H locs cells slots hw hH => ?_)
          refine w_astoreq (lv' := [(4, va_rf z13), (0, .ref h), (1, va_rf a1), (2, va_rf a2), (3, va_rf a3)]) hF dX11_openNew_43 hl (by decide) (by generalize a3 = y; cases y <;> rfl) (fun ls hl => ?_)
          refine w_aloadq hF dX11_openNew_45 (lv_at hl 0 rfl) ?_
          refine cw_ifnonnull (q := z13) (tgt := 54) hF dX11_openNew_47 rfl hw (fun hw => ?_) (fun hw => ?_)
          · refine lv_aload_n hx hb dX11_openNew_54 rfl (lv_at hl 1 rfl) ?_
            refine lv_iconst (v := 0) hx hb dX11_openNew_55 (by decide) ?_
            refine w_aloadq hF dX11_openNew_56 (lv_at hl 0 rfl) ?_
            refine cw_cVq (b := h) (As := [.int 0, va_rf z13]) (rest := []) hF hH hA hE mv_X11_234 ci_X11 (by decide) (fun sz => c_X11_nextChange l D t G _ h 0 z13 _ hw.2 sz) dX11_openNew_58 hw.1 ⟨Nat.le_of_ble_eq_true rfl, Nat.le_of_ble_eq_true rfl⟩ rfl hl.1 (Nat.le_of_ble_eq_true rfl) rfl (fun z15 κ14 H locs cells slots hw hH => ?_)
            refine w_astoreq (lv' := [(5, va_rf z15), (4, va_rf z13), (0, .ref h), (1, va_rf a1), (2, va_rf a2), (3, va_rf a3)]) hF dX11_openNew_61 hl (by decide) (by generalize z13 = y; cases y <;> rfl) (fun ls hl => ?_)
            refine w_aloadq hF dX11_openNew_63 (lv_at hl 0 rfl) ?_
            refine w_aloadq_n hF dX11_openNew_65 rfl (lv_at hl 4 rfl) ?_
            refine cw_getP (q := a2) hF hH fk_X11_693 dX11_openNew_66 hw (fun z16 hw => ?_)
            refine cw_getI (q := z16) hF hH fk_X11_248 dX11_openNew_69 hw (fun z17 hw => ?_)
            refine w_aloadq_n hF dX11_openNew_72 rfl (lv_at hl 4 rfl) ?_
            refine cw_getI (q := a2) hF hH fk_X11_643 dX11_openNew_73 hw (fun z18 hw => ?_)
            refine w_aloadq_n hF dX11_openNew_76 rfl (lv_at hl 4 rfl) ?_
            refine cw_cViq (q := a2) (As := []) (rest := [.int z18, .int z17, va_rf z15]) hF hH hA hE mv_X11_708 ci_X10 (by decide) hw (fun b hw sz => c_X10_newAttributes l D t G _ b  _ hw sz) dX11_openNew_77 ⟨Nat.le_of_ble_eq_true rfl, Nat.le_of_ble_eq_true rfl⟩ rfl hl.1 (by simp only [List.map_cons, List.map_nil, cat_rf]; exact Nat.le_of_ble_eq_true rfl) rfl (fun z20 κ19 H locs cells slots hw hH => ?_)
            refine lv_aload_n hx hb dX11_openNew_80 rfl (lv_at hl 2 rfl) ?_
            refine cw_getJr (a := h) hF hH fk_X11_157 dX11_openNew_81 hw (fun z21 hw => ?_)
            refine cw_cVvq (q := z15) (As := [.int z17, .int z18, .int z20, .long z21]) (rest := []) hF hH hA hE mv_X11_238 ci_X1 (by decide) hw (fun b hw sz => c_X1_beginNode l D t G _ b z17 z18 z20 z21 _ hw sz) dX11_openNew_84 ⟨Nat.le_of_ble_eq_true rfl, Nat.le_of_ble_eq_true rfl⟩ rfl hl.1 (Nat.le_of_ble_eq_true rfl) rfl (fun κ22 H locs cells slots hw hH => ?_)
            refine w_aloadq_n hF dX11_openNew_87 rfl (lv_at hl 4 rfl) ?_
            refine w_aloadq hF dX11_openNew_88 (lv_at hl 0 rfl) ?_
            refine cw_cVvq (q := a2) (As := [va_rf z15]) (rest := []) hF hH hA hE mv_X11_711 ci_X10 (by decide) hw (fun b hw sz => c_X10_nameTo l D t G _ b z15 _ hw sz) dX11_openNew_90 ⟨Nat.le_of_ble_eq_true rfl, Nat.le_of_ble_eq_true rfl⟩ rfl hl.1 (Nat.le_of_ble_eq_true rfl) rfl (fun κ24 H locs cells slots hw hH => ?_)
            refine lv_aload_n hx hb dX11_openNew_93 rfl (lv_at hl 2 rfl) ?_
            refine w_aloadq hF dX11_openNew_94 (lv_at hl 0 rfl) ?_
            refine cw_cVv (b := h) (As := [va_rf z15]) (rest := []) hF hH hA hE mv_X11_584 ci_X11 (by decide) (fun sz => c_X11_done l D t G _ h z15 _ hw.2 sz) dX11_openNew_96 hw.1 ⟨Nat.le_of_ble_eq_true rfl, Nat.le_of_ble_eq_true rfl⟩ rfl hl.1 (Nat.le_of_ble_eq_true rfl) rfl (fun κ26 H locs cells slots hw hH => ?_)
            refine lv_aload_n hx hb dX11_openNew_99 rfl (lv_at hl 2 rfl) ?_
            refine w_aloadq_n hF dX11_openNew_100 rfl (lv_at hl 3 rfl) ?_
            refine w_aloadq hF dX11_openNew_101 (lv_at hl 1 rfl) ?_
            refine lv_iconst (v := 2) hx hb dX11_openNew_103 (by decide) ?_
            refine w_aloadq_n hF dX11_openNew_104 rfl (lv_at hl 5 rfl) ?_
            refine cw_cVv (b := h) (As := [va_rf a1, va_rf z13, .int 2, va_rf a3]) (rest := []) hF hH hA hE mv_X11_714 ci_X11 (by decide) (fun sz => c_X11_addOpen l D t G _ h a1 z13 2 a3 _ hw.2 sz) dX11_openNew_105 hw.1 ⟨Nat.le_of_ble_eq_true rfl, Nat.le_of_ble_eq_true rfl⟩ rfl hl.1 (Nat.le_of_ble_eq_true rfl) rfl (fun κ28 H locs cells slots hw hH => ?_)
            refine lv_iconst (v := 0) hx hb dX11_openNew_108 (by decide) ?_
            exact cw_reti hF hH ⟨rfl, rfl⟩ hr rfl hlk dX11_openNew_109 hw
          · refine lv_ldcw (v := (-1073741697)) hx hb hF.1.2.2.2.1 (hF.1.2.2.2.2 _ (wc_18 6 rfl)) dX11_openNew_50 ?_
            exact cw_reti hF hH ⟨rfl, rfl⟩ hr rfl hlk dX11_openNew_53 hw
        · refine lv_ldcw (v := (-1073741670)) hx hb hF.1.2.2.2.1 (hF.1.2.2.2.2 _ (wc_16 28 rfl)) dX11_openNew_32 ?_
          exact cw_reti hF hH ⟨rfl, rfl⟩ hr rfl hlk dX11_openNew_35 hw
      · have hl : lv_has ls 6 [] := lv_sub hl [] rfl
        exact jn6 () κ ls _ _ _ _ hl hw hH
set_option maxRecDepth 100000 in
def F_X11_refusal (G : GE) (h : Nat) (a1 : Option Nat) (a2 : Option Nat) (post : Int32 → CS → Prop) (κ : CS) : Prop := ∃ b : Nat, a1 = some b ∧ (b ∈ sL κ.1 ∧ sK κ.1 b = 5) ∧ ∀ z1 : Int32, z1 = sI κ.1 b 3 → ((z1.toInt = 0) → ∃ b : Nat, a2 = some b ∧ (b ∈ sL κ.1 ∧ sK κ.1 b = 13) ∧ ∀ z2 : Int32, z2 = sI κ.1 b 4 → ((¬ z2.toInt = (2 : Int32).toInt) → ∃ b : Nat, a1 = some b ∧ (b ∈ sL κ.1 ∧ sK κ.1 b = 5) ∧ ∀ z3 : Int32, z3 = sI κ.1 b 2 → jc (fun (K6 : Unit → CS → Prop) => ((z3.toInt = 0) → K6 () κ) ∧ ((¬ z3.toInt = 0) → ∃ b : Nat, a2 = some b ∧ (b ∈ sL κ.1 ∧ sK κ.1 b = 13) ∧ ∀ z57 : Int32, z57 = sI κ.1 b 6 → jc (fun (K60 : Unit → CS → Prop) => ((¬ z57.toInt = 0) → K60 () κ) ∧ ((z57.toInt = 0) → ∃ b : Nat, a2 = some b ∧ (b ∈ sL κ.1 ∧ sK κ.1 b = 13) ∧ F_X10_empties G b  (fun (z64 : Int32) (κ63 : CS) => ((z64.toInt = 0) → K6 () κ63) ∧ ((¬ z64.toInt = 0) → K60 () κ63)) κ)) (fun (x58 : Unit) (κ59 : CS) => post (-1073741638) κ59))) (fun (x4 : Unit) (κ5 : CS) => ∃ b : Nat, a1 = some b ∧ (b ∈ sL κ5.1 ∧ sK κ5.1 b = 5) ∧ ∀ z9 : Int32, z9 = sI κ5.1 b 2 → jc (fun (K12 : Unit → CS → Prop) => ((¬ z9.toInt = 0) → K12 () κ5) ∧ ((z9.toInt = 0) → ∃ b : Nat, a2 = some b ∧ (b ∈ sL κ5.1 ∧ sK κ5.1 b = 13) ∧ ∀ z56 : Int32, z56 = sI κ5.1 b 5 → ((z56.toInt = 0) → K12 () κ5) ∧ ((¬ z56.toInt = 0) → post (-1073741565) κ5))) (fun (x10 : Unit) (κ11 : CS) => ∃ b : Nat, a1 = some b ∧ (b ∈ sL κ11.1 ∧ sK κ11.1 b = 5) ∧ ∀ z15 : Int32, z15 = sI κ11.1 b 7 → ∀ z16 : Int32, z16 = z15 &&& 1 → jc (fun (K19 : Int32 → CS → Prop) => ((z16.toInt = 0) → K19 0 κ11) ∧ ((¬ z16.toInt = 0) → K19 1 κ11)) (fun (x17 : Int32) (κ18 : CS) => jc (fun (K24 : Unit → CS → Prop) => ((x17.toInt = 0) → K24 () κ18) ∧ ((¬ x17.toInt = 0) → ∃ b : Nat, a2 = some b ∧ (b ∈ sL κ18.1 ∧ sK κ18.1 b = 13) ∧ ∀ z47 : Int32, z47 = sI κ18.1 b 1 → ∀ z48 : Int32, z48 = z47 &&& 6 → jc (fun (K51 : Unit → CS → Prop) => ((¬ z48.toInt = 0) → K51 () κ18) ∧ ((z48.toInt = 0) → ∃ b : Nat, a2 = some b ∧ (b ∈ sL κ18.1 ∧ sK κ18.1 b = 13) ∧ F_X10_empties G b  (fun (z55 : Int32) (κ54 : CS) => ((z55.toInt = 0) → K24 () κ54) ∧ ((¬ z55.toInt = 0) → K51 () κ54)) κ18)) (fun (x49 : Unit) (κ50 : CS) => post (-1073741790) κ50))) (fun (x22 : Unit) (κ23 : CS) => ∃ b : Nat, a2 = some b ∧ (b ∈ sL κ23.1 ∧ sK κ23.1 b = 13) ∧ ∀ z27 : Int32, z27 = sI κ23.1 b 7 → jc (fun (K30 : Unit → CS → Prop) => ((z27.toInt = 0) → K30 () κ23) ∧ ((¬ z27.toInt = 0) → jc (fun (K43 : Unit → CS → Prop) => ((¬ x17.toInt = 0) → K43 () κ23) ∧ ((x17.toInt = 0) → ∃ b : Nat, a1 = some b ∧ (b ∈ sL κ23.1 ∧ sK κ23.1 b = 5) ∧ ∀ z46 : Int32, z46 = sI κ23.1 b 4 → ((¬ z46.toInt = ((-1) : Int32).toInt) → K30 () κ23) ∧ ((z46.toInt = ((-1) : Int32).toInt) → K43 () κ23))) (fun (x41 : Unit) (κ42 : CS) => post (-1073741535) κ42))) (fun (x28 : Unit) (κ29 : CS) => (h ∈ sL κ29.1 ∧ sK κ29.1 h = 1) ∧ ∀ z33 : Option Nat, z33 = sP κ29.1 h 10 → ∃ b : Nat, z33 = some b ∧ (b ∈ sL κ29.1 ∧ sK κ29.1 b = 7) ∧ F_Jx4a65c_size_8abf5 G b  (fun (z35 : Int32) (κ34 : CS) => jc (fun (K38 : Int32 → CS → Prop) => ((z35.toInt < (40 : Int32).toInt) → K38 0 κ34) ∧ (((40 : Int32).toInt ≤ z35.toInt) → K38 (-1073741670) κ34)) (fun (x36 : Int32) (κ37 : CS) => post x36 κ37)) κ29)))))) ∧ ((z2.toInt = (2 : Int32).toInt) → post (-1073741771) κ)) ∧ ((¬ z1.toInt = 0) → post (-1073741738) κ)
theorem dX11_refusal_0 : decode cX11_refusal 0 = .ok (.aload_n 1, 1) := by decide +kernel
theorem dX11_refusal_1 : decode cX11_refusal 1 = .ok (.getfield 567, 3) := by decide +kernel
theorem dX11_refusal_4 : decode cX11_refusal 4 = .ok (.ifCond .eq 7, 3) := by decide +kernel
theorem dX11_refusal_7 : decode cX11_refusal 7 = .ok (.ldc_w 748, 3) := by decide +kernel
theorem dX11_refusal_10 : decode cX11_refusal 10 = .ok (.ireturn, 1) := by decide +kernel
theorem dX11_refusal_11 : decode cX11_refusal 11 = .ok (.aload_n 2, 1) := by decide +kernel
theorem dX11_refusal_12 : decode cX11_refusal 12 = .ok (.getfield 637, 3) := by decide +kernel
theorem dX11_refusal_15 : decode cX11_refusal 15 = .ok (.iconst 2, 1) := by decide +kernel
theorem dX11_refusal_16 : decode cX11_refusal 16 = .ok (.if_icmp .ne 7, 3) := by decide +kernel
theorem dX11_refusal_19 : decode cX11_refusal 19 = .ok (.ldc_w 749, 3) := by decide +kernel
theorem dX11_refusal_22 : decode cX11_refusal 22 = .ok (.ireturn, 1) := by decide +kernel
theorem dX11_refusal_23 : decode cX11_refusal 23 = .ok (.aload_n 1, 1) := by decide +kernel
theorem dX11_refusal_24 : decode cX11_refusal 24 = .ok (.getfield 577, 3) := by decide +kernel
theorem dX11_refusal_27 : decode cX11_refusal 27 = .ok (.ifCond .eq 21, 3) := by decide +kernel
theorem dX11_refusal_30 : decode cX11_refusal 30 = .ok (.aload_n 2, 1) := by decide +kernel
theorem dX11_refusal_31 : decode cX11_refusal 31 = .ok (.getfield 644, 3) := by decide +kernel
theorem dX11_refusal_34 : decode cX11_refusal 34 = .ok (.ifCond .ne 10, 3) := by decide +kernel
theorem dX11_refusal_37 : decode cX11_refusal 37 = .ok (.aload_n 2, 1) := by decide +kernel
theorem dX11_refusal_38 : decode cX11_refusal 38 = .ok (.invokevirtual 647, 3) := by decide +kernel
theorem dX11_refusal_41 : decode cX11_refusal 41 = .ok (.ifCond .eq 7, 3) := by decide +kernel
theorem dX11_refusal_44 : decode cX11_refusal 44 = .ok (.ldc_w 750, 3) := by decide +kernel
theorem dX11_refusal_47 : decode cX11_refusal 47 = .ok (.ireturn, 1) := by decide +kernel
theorem dX11_refusal_48 : decode cX11_refusal 48 = .ok (.aload_n 1, 1) := by decide +kernel
theorem dX11_refusal_49 : decode cX11_refusal 49 = .ok (.getfield 577, 3) := by decide +kernel
theorem dX11_refusal_52 : decode cX11_refusal 52 = .ok (.ifCond .ne 14, 3) := by decide +kernel
theorem dX11_refusal_55 : decode cX11_refusal 55 = .ok (.aload_n 2, 1) := by decide +kernel
theorem dX11_refusal_56 : decode cX11_refusal 56 = .ok (.getfield 643, 3) := by decide +kernel
theorem dX11_refusal_59 : decode cX11_refusal 59 = .ok (.ifCond .eq 7, 3) := by decide +kernel
theorem dX11_refusal_62 : decode cX11_refusal 62 = .ok (.ldc_w 751, 3) := by decide +kernel
theorem dX11_refusal_65 : decode cX11_refusal 65 = .ok (.ireturn, 1) := by decide +kernel
theorem dX11_refusal_66 : decode cX11_refusal 66 = .ok (.aload_n 1, 1) := by decide +kernel
theorem dX11_refusal_67 : decode cX11_refusal 67 = .ok (.getfield 742, 3) := by decide +kernel
theorem dX11_refusal_70 : decode cX11_refusal 70 = .ok (.iconst 1, 1) := by decide +kernel
theorem dX11_refusal_71 : decode cX11_refusal 71 = .ok (.iand, 1) := by decide +kernel
theorem dX11_refusal_72 : decode cX11_refusal 72 = .ok (.ifCond .eq 7, 3) := by decide +kernel
theorem dX11_refusal_75 : decode cX11_refusal 75 = .ok (.iconst 1, 1) := by decide +kernel
theorem dX11_refusal_76 : decode cX11_refusal 76 = .ok (.goto 4, 3) := by decide +kernel
theorem dX11_refusal_79 : decode cX11_refusal 79 = .ok (.iconst 0, 1) := by decide +kernel
theorem dX11_refusal_80 : decode cX11_refusal 80 = .ok (.istore_n 3, 1) := by decide +kernel
theorem dX11_refusal_81 : decode cX11_refusal 81 = .ok (.iload_n 3, 1) := by decide +kernel
theorem dX11_refusal_82 : decode cX11_refusal 82 = .ok (.ifCond .eq 24, 3) := by decide +kernel
theorem dX11_refusal_85 : decode cX11_refusal 85 = .ok (.aload_n 2, 1) := by decide +kernel
theorem dX11_refusal_86 : decode cX11_refusal 86 = .ok (.getfield 653, 3) := by decide +kernel
theorem dX11_refusal_89 : decode cX11_refusal 89 = .ok (.bipush 6, 2) := by decide +kernel
theorem dX11_refusal_91 : decode cX11_refusal 91 = .ok (.iand, 1) := by decide +kernel
theorem dX11_refusal_92 : decode cX11_refusal 92 = .ok (.ifCond .ne 10, 3) := by decide +kernel
theorem dX11_refusal_95 : decode cX11_refusal 95 = .ok (.aload_n 2, 1) := by decide +kernel
theorem dX11_refusal_96 : decode cX11_refusal 96 = .ok (.invokevirtual 647, 3) := by decide +kernel
theorem dX11_refusal_99 : decode cX11_refusal 99 = .ok (.ifCond .eq 7, 3) := by decide +kernel
theorem dX11_refusal_102 : decode cX11_refusal 102 = .ok (.ldc_w 658, 3) := by decide +kernel
theorem dX11_refusal_105 : decode cX11_refusal 105 = .ok (.ireturn, 1) := by decide +kernel
theorem dX11_refusal_106 : decode cX11_refusal 106 = .ok (.aload_n 2, 1) := by decide +kernel
theorem dX11_refusal_107 : decode cX11_refusal 107 = .ok (.getfield 656, 3) := by decide +kernel
theorem dX11_refusal_110 : decode cX11_refusal 110 = .ok (.ifCond .eq 19, 3) := by decide +kernel
theorem dX11_refusal_113 : decode cX11_refusal 113 = .ok (.iload_n 3, 1) := by decide +kernel
theorem dX11_refusal_114 : decode cX11_refusal 114 = .ok (.ifCond .ne 11, 3) := by decide +kernel
theorem dX11_refusal_117 : decode cX11_refusal 117 = .ok (.aload_n 1, 1) := by decide +kernel
theorem dX11_refusal_118 : decode cX11_refusal 118 = .ok (.getfield 752, 3) := by decide +kernel
theorem dX11_refusal_121 : decode cX11_refusal 121 = .ok (.iconst (-1), 1) := by decide +kernel
theorem dX11_refusal_122 : decode cX11_refusal 122 = .ok (.if_icmp .ne 7, 3) := by decide +kernel
theorem dX11_refusal_125 : decode cX11_refusal 125 = .ok (.ldc_w 755, 3) := by decide +kernel
theorem dX11_refusal_128 : decode cX11_refusal 128 = .ok (.ireturn, 1) := by decide +kernel
theorem dX11_refusal_129 : decode cX11_refusal 129 = .ok (.aload_n 0, 1) := by decide +kernel
theorem dX11_refusal_130 : decode cX11_refusal 130 = .ok (.getfield 52, 3) := by decide +kernel
theorem dX11_refusal_133 : decode cX11_refusal 133 = .ok (.invokevirtual 161, 3) := by decide +kernel
theorem dX11_refusal_136 : decode cX11_refusal 136 = .ok (.bipush 40, 2) := by decide +kernel
theorem dX11_refusal_138 : decode cX11_refusal 138 = .ok (.if_icmp .lt 9, 3) := by decide +kernel
theorem dX11_refusal_141 : decode cX11_refusal 141 = .ok (.ldc_w 483, 3) := by decide +kernel
theorem dX11_refusal_144 : decode cX11_refusal 144 = .ok (.goto 4, 3) := by decide +kernel
theorem dX11_refusal_147 : decode cX11_refusal 147 = .ok (.iconst 0, 1) := by decide +kernel
theorem dX11_refusal_148 : decode cX11_refusal 148 = .ok (.ireturn, 1) := by decide +kernel
set_option maxRecDepth 100000 in
set_option maxHeartbeats 4000000 in
theorem c_X11_refusal (l : Launch) (D : va_G) (t : Nat → ClassId) (G : GE) (κ : CS) (h : Nat) (a1 : Option Nat) (a2 : Option Nat) (post : Int32 → CS → Prop) (hw : F_X11_refusal G h a1 a2 post κ) (sz : Nat) : CMi l D t yX11_refusal cX11_refusal 4 (some .int) 1 34 G κ sz [.ref h, va_rf a1, va_rf a2] post := by
  refine c_go (by decide) (by cases a1 <;> cases a2 <;> exact Nat.le_of_ble_eq_true rfl) ?_
  intro p e s m below meth c ls A hF hr hlk hin hAe hH hA hE hl
  unfold cB
  rw [hAe]
  clear hAe
  have hF : FX p m c cX11_refusal 4 s _ RX11 D t := hF
  have hx := hF.1.1
  have hb := hF.1.2.1
  have hl : lv_has ls 4 [(0, .ref h), (1, va_rf a1), (2, va_rf a2)] := (by have h2 := hl; clear hw; revert h2; cases a1 <;> cases a2 <;> exact id)
  unfold F_X11_refusal at hw
  refine w_aloadq_n hF dX11_refusal_0 rfl (lv_at hl 1 rfl) ?_
  refine cw_getI (q := a1) hF hH fk_X11_567 dX11_refusal_1 hw (fun z1 hw => ?_)
  refine w_if_eq (tgt := 11) hF dX11_refusal_4 rfl hw (fun hw => ?_) (fun hw => ?_)
  · refine w_aloadq_n hF dX11_refusal_11 rfl (lv_at hl 2 rfl) ?_
    refine cw_getI (q := a2) hF hH fk_X11_637 dX11_refusal_12 hw (fun z2 hw => ?_)
    refine lv_iconst (v := 2) hx hb dX11_refusal_15 (by decide) ?_
    refine w_icmp_ne (tgt := 23) hF dX11_refusal_16 rfl hw (fun hw => ?_) (fun hw => ?_)
    · refine w_aloadq_n hF dX11_refusal_23 rfl (lv_at hl 1 rfl) ?_
      refine cw_getI (q := a1) hF hH fk_X11_577 dX11_refusal_24 hw (fun z3 hw => ?_)
      obtain ⟨K6, hK7, hw⟩ := jc_open hw
      refine cw_join (K := K6) 48 (fun (x4 : Unit) => [(2, va_rf a2), (1, va_rf a1), (0, .ref h)]) (fun (x4 : Unit) => []) hl hH (fun x4 κ5 ls H locs cells slots hl hw hH => ?_) (fun jn8 => ?_)
      · have hw := hK7 x4 κ5 hw
        have hl : lv_has ls 4 [(2, va_rf a2), (1, va_rf a1), (0, .ref h)] := hl
        refine w_aloadq_n hF dX11_refusal_48 rfl (lv_at hl 1 rfl) ?_
        refine cw_getI (q := a1) hF hH fk_X11_577 dX11_refusal_49 hw (fun z9 hw => ?_)
        obtain ⟨K12, hK13, hw⟩ := jc_open hw
        refine cw_join (K := K12) 66 (fun (x10 : Unit) => [(2, va_rf a2), (1, va_rf a1), (0, .ref h)]) (fun (x10 : Unit) => []) hl hH (fun x10 κ11 ls H locs cells slots hl hw hH => ?_) (fun jn14 => ?_)
        · have hw := hK13 x10 κ11 hw
          have hl : lv_has ls 4 [(2, va_rf a2), (1, va_rf a1), (0, .ref h)] := hl
          refine w_aloadq_n hF dX11_refusal_66 rfl (lv_at hl 1 rfl) ?_
          refine cw_getI (q := a1) hF hH fk_X11_742 dX11_refusal_67 hw (fun z15 hw => ?_)
          refine lv_iconst (v := 1) hx hb dX11_refusal_70 (by decide) ?_
          refine lv_iand hx hb dX11_refusal_71 ?_
          refine w_nmi hw (fun z16 hw => ?_)
          obtain ⟨K19, hK20, hw⟩ := jc_open hw
          refine cw_join (K := K19) 80 (fun (x17 : Int32) => [(2, va_rf a2), (1, va_rf a1), (0, .ref h)]) (fun (x17 : Int32) => [.int x17]) hl hH (fun x17 κ18 ls H locs cells slots hl hw hH => ?_) (fun jn21 => ?_)
          · have hw := hK20 x17 κ18 hw
            have hl : lv_has ls 4 [(2, va_rf a2), (1, va_rf a1), (0, .ref h)] := hl
            refine lv_istore_n (lv' := [(3, .int x17), (2, va_rf a2), (1, va_rf a1), (0, .ref h)]) hx hb dX11_refusal_80 rfl hl (by decide) (by generalize a2 = y; cases y <;> rfl) (fun ls hl => ?_)
            refine lv_iload_n hx hb dX11_refusal_81 rfl (lv_at hl 0 rfl) ?_
            obtain ⟨K24, hK25, hw⟩ := jc_open hw
            refine cw_join (K := K24) 106 (fun (x22 : Unit) => [(3, .int x17), (2, va_rf a2), (1, va_rf a1), (0, .ref h)]) (fun (x22 : Unit) => []) hl hH (fun x22 κ23 ls H locs cells slots hl hw hH => ?_) (fun jn26 => ?_)
            · have hw := hK25 x22 κ23 hw
              have hl : lv_has ls 4 [(3, .int x17), (2, va_rf a2), (1, va_rf a1), (0, .ref h)] := hl
              refine w_aloadq_n hF dX11_refusal_106 rfl (lv_at hl 1 rfl) ?_
              refine cw_getI (q := a2) hF hH fk_X11_656 dX11_refusal_107 hw (fun z27 hw => ?_)
              obtain ⟨K30, hK31, hw⟩ := jc_open hw
              refine cw_join (K := K30) 129 (fun (x28 : Unit) => [(0, .ref h)]) (fun (x28 : Unit) => []) hl hH (fun x28 κ29 ls H locs cells slots hl hw hH => ?_) (fun jn32 => ?_)
              · have hw := hK31 x28 κ29 hw
                have hl : lv_has ls 4 [(0, .ref h)] := hl
                refine lv_aload_n hx hb dX11_refusal_129 rfl (lv_at hl 0 rfl) ?_
                refine cw_getPr (a := h) hF hH fk_X11_52 dX11_refusal_130 hw (fun z33 hw => ?_)
                refine cw_cViq (q := z33) (As := []) (rest := []) hF hH hA hE mv_X11_161 ci_Jx4a65c (by decide) hw (fun b hw sz => c_Jx4a65c_size_8abf5 l D t G _ b  _ hw sz) dX11_refusal_133 ⟨Nat.le_of_ble_eq_true rfl, Nat.le_of_ble_eq_true rfl⟩ rfl hl.1 (Nat.le_of_ble_eq_true rfl) rfl (fun z35 κ34 H locs cells slots hw hH => ?_)
                refine lv_bipush (v := 40) hx hb dX11_refusal_136 (by decide) ?_
                obtain ⟨K38, hK39, hw⟩ := jc_open hw
                refine cw_join (K := K38) 148 (fun (x36 : Int32) => []) (fun (x36 : Int32) => [.int x36]) hl hH (fun x36 κ37 ls H locs cells slots hl hw hH => ?_) (fun jn40 => ?_)
                · have hw := hK39 x36 κ37 hw
                  have hl : lv_has ls 4 [] := hl
                  exact cw_reti hF hH ⟨rfl, rfl⟩ hr rfl hlk dX11_refusal_148 hw
                · skip
                  refine w_icmp_lt (tgt := 147) hF dX11_refusal_138 rfl hw (fun hw => ?_) (fun hw => ?_)
                  · refine lv_iconst (v := 0) hx hb dX11_refusal_147 (by decide) ?_
                    have hl : lv_has ls 4 [] := lv_sub hl [] rfl
                    exact jn40 0 κ34 ls _ _ _ _ hl hw hH
                  · refine lv_ldcw (v := (-1073741670)) hx hb hF.1.2.2.2.1 (hF.1.2.2.2.2 _ (wc_16 28 rfl)) dX11_refusal_141 ?_
                    refine lv_goto (tgt := 148) hx hb dX11_refusal_144 rfl ?_
                    have hl : lv_has ls 4 [] := lv_sub hl [] rfl
                    exact jn40 (-1073741670) κ34 ls _ _ _ _ hl hw hH
              · skip
                refine w_if_eq (tgt := 129) hF dX11_refusal_110 rfl hw (fun hw => ?_) (fun hw => ?_)
                · have hl : lv_has ls 4 [(0, .ref h)] := lv_sub hl [3] rfl
                  exact jn32 () κ23 ls _ _ _ _ hl hw hH
                · refine lv_iload_n hx hb dX11_refusal_113 rfl (lv_at hl 0 rfl) ?_
                  obtain ⟨K43, hK44, hw⟩ := jc_open hw
                  refine cw_join (K := K43) 125 (fun (x41 : Unit) => []) (fun (x41 : Unit) => []) hl hH (fun x41 κ42 ls H locs cells slots hl hw hH => ?_) (fun jn45 => ?_)
                  · have hw := hK44 x41 κ42 hw
                    have hl : lv_has ls 4 [] := hl
                    refine lv_ldcw (v := (-1073741535)) hx hb hF.1.2.2.2.1 (hF.1.2.2.2.2 _ (wc_23 15 rfl)) dX11_refusal_125 ?_
                    exact cw_reti hF hH ⟨rfl, rfl⟩ hr rfl hlk dX11_refusal_128 hw
                  · skip
                    refine w_if_ne (tgt := 125) hF dX11_refusal_114 rfl hw (fun hw => ?_) (fun hw => ?_)
                    · have hl : lv_has ls 4 [] := lv_sub hl [] rfl
                      exact jn45 () κ23 ls _ _ _ _ hl hw hH
                    · refine w_aloadq_n hF dX11_refusal_117 rfl (lv_at hl 2 rfl) ?_
                      refine cw_getI (q := a1) hF hH fk_X11_752 dX11_refusal_118 hw (fun z46 hw => ?_)
                      refine lv_iconst (v := (-1)) hx hb dX11_refusal_121 (by decide) ?_
                      refine w_icmp_ne (tgt := 129) hF dX11_refusal_122 rfl hw (fun hw => ?_) (fun hw => ?_)
                      · have hl : lv_has ls 4 [(0, .ref h)] := lv_sub hl [3] rfl
                        exact jn32 () κ23 ls _ _ _ _ hl hw hH
                      · have hl : lv_has ls 4 [] := lv_sub hl [] rfl
                        exact jn45 () κ23 ls _ _ _ _ hl hw hH
            · skip
              refine w_if_eq (tgt := 106) hF dX11_refusal_82 rfl hw (fun hw => ?_) (fun hw => ?_)
              · exact jn26 () κ18 ls _ _ _ _ hl hw hH
              · refine w_aloadq_n hF dX11_refusal_85 rfl (lv_at hl 1 rfl) ?_
                refine cw_getI (q := a2) hF hH fk_X11_653 dX11_refusal_86 hw (fun z47 hw => ?_)
                refine lv_bipush (v := 6) hx hb dX11_refusal_89 (by decide) ?_
                refine lv_iand hx hb dX11_refusal_91 ?_
                refine w_nmi hw (fun z48 hw => ?_)
                obtain ⟨K51, hK52, hw⟩ := jc_open hw
                refine cw_join (K := K51) 102 (fun (x49 : Unit) => []) (fun (x49 : Unit) => []) hl hH (fun x49 κ50 ls H locs cells slots hl hw hH => ?_) (fun jn53 => ?_)
                · have hw := hK52 x49 κ50 hw
                  have hl : lv_has ls 4 [] := hl
                  refine lv_ldcw (v := (-1073741790)) hx hb hF.1.2.2.2.1 (hF.1.2.2.2.2 _ (wc_22 30 rfl)) dX11_refusal_102 ?_
                  exact cw_reti hF hH ⟨rfl, rfl⟩ hr rfl hlk dX11_refusal_105 hw
                · skip
                  refine w_if_ne (tgt := 102) hF dX11_refusal_92 rfl hw (fun hw => ?_) (fun hw => ?_)
                  · have hl : lv_has ls 4 [] := lv_sub hl [] rfl
                    exact jn53 () κ18 ls _ _ _ _ hl hw hH
                  · refine w_aloadq_n hF dX11_refusal_95 rfl (lv_at hl 1 rfl) ?_
                    refine cw_cViq (q := a2) (As := []) (rest := []) hF hH hA hE mv_X11_647 ci_X10 (by decide) hw (fun b hw sz => c_X10_empties l D t G _ b  _ hw sz) dX11_refusal_96 ⟨Nat.le_of_ble_eq_true rfl, Nat.le_of_ble_eq_true rfl⟩ rfl hl.1 (Nat.le_of_ble_eq_true rfl) rfl (fun z55 κ54 H locs cells slots hw hH => ?_)
                    refine w_if_eq (tgt := 106) hF dX11_refusal_99 rfl hw (fun hw => ?_) (fun hw => ?_)
                    · exact jn26 () κ54 ls _ _ _ _ hl hw hH
                    · have hl : lv_has ls 4 [] := lv_sub hl [] rfl
                      exact jn53 () κ54 ls _ _ _ _ hl hw hH
          · skip
            refine w_if_eq (tgt := 79) hF dX11_refusal_72 rfl hw (fun hw => ?_) (fun hw => ?_)
            · refine lv_iconst (v := 0) hx hb dX11_refusal_79 (by decide) ?_
              exact jn21 0 κ11 ls _ _ _ _ hl hw hH
            · refine lv_iconst (v := 1) hx hb dX11_refusal_75 (by decide) ?_
              refine lv_goto (tgt := 80) hx hb dX11_refusal_76 rfl ?_
              exact jn21 1 κ11 ls _ _ _ _ hl hw hH
        · skip
          refine w_if_ne (tgt := 66) hF dX11_refusal_52 rfl hw (fun hw => ?_) (fun hw => ?_)
          · exact jn14 () κ5 ls _ _ _ _ hl hw hH
          · refine w_aloadq_n hF dX11_refusal_55 rfl (lv_at hl 0 rfl) ?_
            refine cw_getI (q := a2) hF hH fk_X11_643 dX11_refusal_56 hw (fun z56 hw => ?_)
            refine w_if_eq (tgt := 66) hF dX11_refusal_59 rfl hw (fun hw => ?_) (fun hw => ?_)
            · exact jn14 () κ5 ls _ _ _ _ hl hw hH
            · refine lv_ldcw (v := (-1073741565)) hx hb hF.1.2.2.2.1 (hF.1.2.2.2.2 _ (wc_23 14 rfl)) dX11_refusal_62 ?_
              exact cw_reti hF hH ⟨rfl, rfl⟩ hr rfl hlk dX11_refusal_65 hw
      · skip
        refine w_if_eq (tgt := 48) hF dX11_refusal_27 rfl hw (fun hw => ?_) (fun hw => ?_)
        · have hl : lv_has ls 4 [(2, va_rf a2), (1, va_rf a1), (0, .ref h)] := lv_sub hl [2, 1, 0] rfl
          exact jn8 () κ ls _ _ _ _ hl hw hH
        · refine w_aloadq_n hF dX11_refusal_30 rfl (lv_at hl 2 rfl) ?_
          refine cw_getI (q := a2) hF hH fk_X11_644 dX11_refusal_31 hw (fun z57 hw => ?_)
          obtain ⟨K60, hK61, hw⟩ := jc_open hw
          refine cw_join (K := K60) 44 (fun (x58 : Unit) => []) (fun (x58 : Unit) => []) hl hH (fun x58 κ59 ls H locs cells slots hl hw hH => ?_) (fun jn62 => ?_)
          · have hw := hK61 x58 κ59 hw
            have hl : lv_has ls 4 [] := hl
            refine lv_ldcw (v := (-1073741638)) hx hb hF.1.2.2.2.1 (hF.1.2.2.2.2 _ (wc_23 13 rfl)) dX11_refusal_44 ?_
            exact cw_reti hF hH ⟨rfl, rfl⟩ hr rfl hlk dX11_refusal_47 hw
          · skip
            refine w_if_ne (tgt := 44) hF dX11_refusal_34 rfl hw (fun hw => ?_) (fun hw => ?_)
            · have hl : lv_has ls 4 [] := lv_sub hl [] rfl
              exact jn62 () κ ls _ _ _ _ hl hw hH
            · refine w_aloadq_n hF dX11_refusal_37 rfl (lv_at hl 2 rfl) ?_
              refine cw_cViq (q := a2) (As := []) (rest := []) hF hH hA hE mv_X11_647 ci_X10 (by decide) hw (fun b hw sz => c_X10_empties l D t G _ b  _ hw sz) dX11_refusal_38 ⟨Nat.le_of_ble_eq_true rfl, Nat.le_of_ble_eq_true rfl⟩ rfl hl.1 (Nat.le_of_ble_eq_true rfl) rfl (fun z64 κ63 H locs cells slots hw hH => ?_)
              refine w_if_eq (tgt := 48) hF dX11_refusal_41 rfl hw (fun hw => ?_) (fun hw => ?_)
              · have hl : lv_has ls 4 [(2, va_rf a2), (1, va_rf a1), (0, .ref h)] := lv_sub hl [2, 1, 0] rfl
                exact jn8 () κ63 ls _ _ _ _ hl hw hH
              · have hl : lv_has ls 4 [] := lv_sub hl [] rfl
                exact jn62 () κ63 ls _ _ _ _ hl hw hH
    · refine lv_ldcw (v := (-1073741771)) hx hb hF.1.2.2.2.1 (hF.1.2.2.2.2 _ (wc_23 12 rfl)) dX11_refusal_19 ?_
      exact cw_reti hF hH ⟨rfl, rfl⟩ hr rfl hlk dX11_refusal_22 hw
  · refine lv_ldcw (v := (-1073741738)) hx hb hF.1.2.2.2.1 (hF.1.2.2.2.2 _ (wc_23 11 rfl)) dX11_refusal_7 ?_
    exact cw_reti hF hH ⟨rfl, rfl⟩ hr rfl hlk dX11_refusal_10 hw
set_option maxRecDepth 100000 in
def F_X11_sendBreak (G : GE) (h : Nat) (a1 : Option Nat) (a2 : Int32) (post : CS → Prop) (κ : CS) : Prop := (h ∈ sL κ.1 ∧ sK κ.1 h = 1) ∧ ∀ z1 : Option Nat, z1 = sP κ.1 h 17 → ∃ b : Nat, z1 = some b ∧ (b ∈ sL κ.1 ∧ sK κ.1 b = 2) ∧ F_X6_begin G b 88 (fun (κ2 : CS) => (h ∈ sL κ2.1 ∧ sK κ2.1 h = 1) ∧ ∀ z4 : Option Nat, z4 = sP κ2.1 h 17 → ∃ b : Nat, z4 = some b ∧ (b ∈ sL κ2.1 ∧ sK κ2.1 b = 2) ∧ F_X6_put G b 0 4 1112364030 (fun (κ5 : CS) => (h ∈ sL κ5.1 ∧ sK κ5.1 h = 1) ∧ ∀ z7 : Option Nat, z7 = sP κ5.1 h 17 → ∃ b : Nat, z7 = some b ∧ (b ∈ sL κ5.1 ∧ sK κ5.1 b = 2) ∧ F_X6_put G b 4 2 64 (fun (κ8 : CS) => (h ∈ sL κ8.1 ∧ sK κ8.1 h = 1) ∧ ∀ z10 : Option Nat, z10 = sP κ8.1 h 17 → ∃ b : Nat, z10 = some b ∧ (b ∈ sL κ8.1 ∧ sK κ8.1 b = 2) ∧ F_X6_put G b 12 2 18 (fun (κ11 : CS) => (h ∈ sL κ11.1 ∧ sK κ11.1 h = 1) ∧ ∀ z13 : Option Nat, z13 = sP κ11.1 h 17 → ∃ b : Nat, z13 = some b ∧ (b ∈ sL κ11.1 ∧ sK κ11.1 b = 2) ∧ F_X6_put G b 16 4 1 (fun (κ14 : CS) => (h ∈ sL κ14.1 ∧ sK κ14.1 h = 1) ∧ ∀ z16 : Option Nat, z16 = sP κ14.1 h 17 → ∃ b : Nat, z16 = some b ∧ (b ∈ sL κ14.1 ∧ sK κ14.1 b = 2) ∧ F_X6_put G b 24 8 (-1) (fun (κ17 : CS) => (h ∈ sL κ17.1 ∧ sK κ17.1 h = 1) ∧ ∀ z19 : Option Nat, z19 = sP κ17.1 h 17 → ∃ b : Nat, z19 = some b ∧ (b ∈ sL κ17.1 ∧ sK κ17.1 b = 2) ∧ F_X6_put G b 64 2 24 (fun (κ20 : CS) => (h ∈ sL κ20.1 ∧ sK κ20.1 h = 1) ∧ ∀ z22 : Option Nat, z22 = sP κ20.1 h 17 → ∀ z23 : Int64, z23 = (a2 : Int32).toInt64 → ∃ b : Nat, z22 = some b ∧ (b ∈ sL κ20.1 ∧ sK κ20.1 b = 2) ∧ F_X6_put G b 66 1 z23 (fun (κ24 : CS) => (h ∈ sL κ24.1 ∧ sK κ24.1 h = 1) ∧ ∀ z26 : Option Nat, z26 = sP κ24.1 h 17 → ∃ b : Nat, a1 = some b ∧ (b ∈ sL κ24.1 ∧ sK κ24.1 b = 10) ∧ ∀ z27 : Int64, z27 = sJ κ24.1 b 0 → ∃ b : Nat, z26 = some b ∧ (b ∈ sL κ24.1 ∧ sK κ24.1 b = 2) ∧ F_X6_put G b 72 8 z27 (fun (κ28 : CS) => (h ∈ sL κ28.1 ∧ sK κ28.1 h = 1) ∧ ∀ z30 : Option Nat, z30 = sP κ28.1 h 17 → ∃ b : Nat, a1 = some b ∧ (b ∈ sL κ28.1 ∧ sK κ28.1 b = 10) ∧ ∀ z31 : Int64, z31 = sJ κ28.1 b 0 → ∃ b : Nat, z30 = some b ∧ (b ∈ sL κ28.1 ∧ sK κ28.1 b = 2) ∧ F_X6_put G b 80 8 z31 (fun (κ32 : CS) => ∃ b : Nat, a1 = some b ∧ (b ∈ sL κ32.1 ∧ sK κ32.1 b = 10) ∧ ∀ z34 : Option Nat, z34 = sP κ32.1 b 1 → ∃ b : Nat, z34 = some b ∧ (b ∈ sL κ32.1 ∧ sK κ32.1 b = 12) ∧ ∀ z35 : Option Nat, z35 = sP κ32.1 b 1 → ∃ b : Nat, z35 = some b ∧ (b ∈ sL κ32.1 ∧ sK κ32.1 b = 11) ∧ ∀ z36 : Option Nat, z36 = sP κ32.1 b 1 → (h ∈ sL κ32.1 ∧ sK κ32.1 h = 1) ∧ ∀ z37 : Option Nat, z37 = sP κ32.1 h 17 → ∃ b : Nat, z36 = some b ∧ (b ∈ sL κ32.1 ∧ sK κ32.1 b = 3) ∧ F_X2_post G b z37 (fun (κ38 : CS) => post κ38) κ32) κ28) κ24) κ20) κ17) κ14) κ11) κ8) κ5) κ2) κ
theorem dX11_sendBreak_0 : decode cX11_sendBreak 0 = .ok (.aload_n 0, 1) := by decide +kernel
theorem dX11_sendBreak_1 : decode cX11_sendBreak 1 = .ok (.getfield 74, 3) := by decide +kernel
theorem dX11_sendBreak_4 : decode cX11_sendBreak 4 = .ok (.bipush 88, 2) := by decide +kernel
theorem dX11_sendBreak_6 : decode cX11_sendBreak 6 = .ok (.invokevirtual 262, 3) := by decide +kernel
theorem dX11_sendBreak_9 : decode cX11_sendBreak 9 = .ok (.aload_n 0, 1) := by decide +kernel
theorem dX11_sendBreak_10 : decode cX11_sendBreak 10 = .ok (.getfield 74, 3) := by decide +kernel
theorem dX11_sendBreak_13 : decode cX11_sendBreak 13 = .ok (.iconst 0, 1) := by decide +kernel
theorem dX11_sendBreak_14 : decode cX11_sendBreak 14 = .ok (.iconst 4, 1) := by decide +kernel
theorem dX11_sendBreak_15 : decode cX11_sendBreak 15 = .ok (.ldc2_w 359, 3) := by decide +kernel
theorem dX11_sendBreak_18 : decode cX11_sendBreak 18 = .ok (.invokevirtual 349, 3) := by decide +kernel
theorem dX11_sendBreak_21 : decode cX11_sendBreak 21 = .ok (.aload_n 0, 1) := by decide +kernel
theorem dX11_sendBreak_22 : decode cX11_sendBreak 22 = .ok (.getfield 74, 3) := by decide +kernel
theorem dX11_sendBreak_25 : decode cX11_sendBreak 25 = .ok (.iconst 4, 1) := by decide +kernel
theorem dX11_sendBreak_26 : decode cX11_sendBreak 26 = .ok (.iconst 2, 1) := by decide +kernel
theorem dX11_sendBreak_27 : decode cX11_sendBreak 27 = .ok (.ldc2_w 361, 3) := by decide +kernel
theorem dX11_sendBreak_30 : decode cX11_sendBreak 30 = .ok (.invokevirtual 349, 3) := by decide +kernel
theorem dX11_sendBreak_33 : decode cX11_sendBreak 33 = .ok (.aload_n 0, 1) := by decide +kernel
theorem dX11_sendBreak_34 : decode cX11_sendBreak 34 = .ok (.getfield 74, 3) := by decide +kernel
theorem dX11_sendBreak_37 : decode cX11_sendBreak 37 = .ok (.bipush 12, 2) := by decide +kernel
theorem dX11_sendBreak_39 : decode cX11_sendBreak 39 = .ok (.iconst 2, 1) := by decide +kernel
theorem dX11_sendBreak_40 : decode cX11_sendBreak 40 = .ok (.ldc2_w 820, 3) := by decide +kernel
theorem dX11_sendBreak_43 : decode cX11_sendBreak 43 = .ok (.invokevirtual 349, 3) := by decide +kernel
theorem dX11_sendBreak_46 : decode cX11_sendBreak 46 = .ok (.aload_n 0, 1) := by decide +kernel
theorem dX11_sendBreak_47 : decode cX11_sendBreak 47 = .ok (.getfield 74, 3) := by decide +kernel
theorem dX11_sendBreak_50 : decode cX11_sendBreak 50 = .ok (.bipush 16, 2) := by decide +kernel
theorem dX11_sendBreak_52 : decode cX11_sendBreak 52 = .ok (.iconst 4, 1) := by decide +kernel
theorem dX11_sendBreak_53 : decode cX11_sendBreak 53 = .ok (.lconst 1, 1) := by decide +kernel
theorem dX11_sendBreak_54 : decode cX11_sendBreak 54 = .ok (.invokevirtual 349, 3) := by decide +kernel
theorem dX11_sendBreak_57 : decode cX11_sendBreak 57 = .ok (.aload_n 0, 1) := by decide +kernel
theorem dX11_sendBreak_58 : decode cX11_sendBreak 58 = .ok (.getfield 74, 3) := by decide +kernel
theorem dX11_sendBreak_61 : decode cX11_sendBreak 61 = .ok (.bipush 24, 2) := by decide +kernel
theorem dX11_sendBreak_63 : decode cX11_sendBreak 63 = .ok (.bipush 8, 2) := by decide +kernel
theorem dX11_sendBreak_65 : decode cX11_sendBreak 65 = .ok (.ldc2_w 412, 3) := by decide +kernel
theorem dX11_sendBreak_68 : decode cX11_sendBreak 68 = .ok (.invokevirtual 349, 3) := by decide +kernel
theorem dX11_sendBreak_71 : decode cX11_sendBreak 71 = .ok (.aload_n 0, 1) := by decide +kernel
theorem dX11_sendBreak_72 : decode cX11_sendBreak 72 = .ok (.getfield 74, 3) := by decide +kernel
theorem dX11_sendBreak_75 : decode cX11_sendBreak 75 = .ok (.bipush 64, 2) := by decide +kernel
theorem dX11_sendBreak_77 : decode cX11_sendBreak 77 = .ok (.iconst 2, 1) := by decide +kernel
theorem dX11_sendBreak_78 : decode cX11_sendBreak 78 = .ok (.ldc2_w 822, 3) := by decide +kernel
theorem dX11_sendBreak_81 : decode cX11_sendBreak 81 = .ok (.invokevirtual 349, 3) := by decide +kernel
theorem dX11_sendBreak_84 : decode cX11_sendBreak 84 = .ok (.aload_n 0, 1) := by decide +kernel
theorem dX11_sendBreak_85 : decode cX11_sendBreak 85 = .ok (.getfield 74, 3) := by decide +kernel
theorem dX11_sendBreak_88 : decode cX11_sendBreak 88 = .ok (.bipush 66, 2) := by decide +kernel
theorem dX11_sendBreak_90 : decode cX11_sendBreak 90 = .ok (.iconst 1, 1) := by decide +kernel
theorem dX11_sendBreak_91 : decode cX11_sendBreak 91 = .ok (.iload_n 2, 1) := by decide +kernel
theorem dX11_sendBreak_92 : decode cX11_sendBreak 92 = .ok (.i2l, 1) := by decide +kernel
theorem dX11_sendBreak_93 : decode cX11_sendBreak 93 = .ok (.invokevirtual 349, 3) := by decide +kernel
theorem dX11_sendBreak_96 : decode cX11_sendBreak 96 = .ok (.aload_n 0, 1) := by decide +kernel
theorem dX11_sendBreak_97 : decode cX11_sendBreak 97 = .ok (.getfield 74, 3) := by decide +kernel
theorem dX11_sendBreak_100 : decode cX11_sendBreak 100 = .ok (.bipush 72, 2) := by decide +kernel
theorem dX11_sendBreak_102 : decode cX11_sendBreak 102 = .ok (.bipush 8, 2) := by decide +kernel
theorem dX11_sendBreak_104 : decode cX11_sendBreak 104 = .ok (.aload_n 1, 1) := by decide +kernel
theorem dX11_sendBreak_105 : decode cX11_sendBreak 105 = .ok (.getfield 328, 3) := by decide +kernel
theorem dX11_sendBreak_108 : decode cX11_sendBreak 108 = .ok (.invokevirtual 349, 3) := by decide +kernel
theorem dX11_sendBreak_111 : decode cX11_sendBreak 111 = .ok (.aload_n 0, 1) := by decide +kernel
theorem dX11_sendBreak_112 : decode cX11_sendBreak 112 = .ok (.getfield 74, 3) := by decide +kernel
theorem dX11_sendBreak_115 : decode cX11_sendBreak 115 = .ok (.bipush 80, 2) := by decide +kernel
theorem dX11_sendBreak_117 : decode cX11_sendBreak 117 = .ok (.bipush 8, 2) := by decide +kernel
theorem dX11_sendBreak_119 : decode cX11_sendBreak 119 = .ok (.aload_n 1, 1) := by decide +kernel
theorem dX11_sendBreak_120 : decode cX11_sendBreak 120 = .ok (.getfield 328, 3) := by decide +kernel
theorem dX11_sendBreak_123 : decode cX11_sendBreak 123 = .ok (.invokevirtual 349, 3) := by decide +kernel
theorem dX11_sendBreak_126 : decode cX11_sendBreak 126 = .ok (.aload_n 1, 1) := by decide +kernel
theorem dX11_sendBreak_127 : decode cX11_sendBreak 127 = .ok (.getfield 423, 3) := by decide +kernel
theorem dX11_sendBreak_130 : decode cX11_sendBreak 130 = .ok (.getfield 410, 3) := by decide +kernel
theorem dX11_sendBreak_133 : decode cX11_sendBreak 133 = .ok (.getfield 406, 3) := by decide +kernel
theorem dX11_sendBreak_136 : decode cX11_sendBreak 136 = .ok (.aload_n 0, 1) := by decide +kernel
theorem dX11_sendBreak_137 : decode cX11_sendBreak 137 = .ok (.getfield 74, 3) := by decide +kernel
theorem dX11_sendBreak_140 : decode cX11_sendBreak 140 = .ok (.invokevirtual 152, 3) := by decide +kernel
theorem dX11_sendBreak_143 : decode cX11_sendBreak 143 = .ok (.return_, 1) := by decide +kernel
set_option maxRecDepth 100000 in
set_option maxHeartbeats 4000000 in
theorem c_X11_sendBreak (l : Launch) (D : va_G) (t : Nat → ClassId) (G : GE) (κ : CS) (h : Nat) (a1 : Option Nat) (a2 : Int32) (post : CS → Prop) (hw : F_X11_sendBreak G h a1 a2 post κ) (sz : Nat) : CMv l D t yX11_sendBreak cX11_sendBreak 3 3 85 G κ sz [.ref h, va_rf a1, .int a2] post := by
  refine c_go (by decide) (by cases a1 <;> exact Nat.le_of_ble_eq_true rfl) ?_
  intro p e s m below meth c ls A hF hr hlk hin hAe hH hA hE hl
  unfold cB
  rw [hAe]
  clear hAe
  have hF : FX p m c cX11_sendBreak 3 s _ RX11 D t := hF
  have hx := hF.1.1
  have hb := hF.1.2.1
  have hl : lv_has ls 3 [(0, .ref h), (1, va_rf a1), (2, .int a2)] := (by have h2 := hl; clear hw; revert h2; cases a1 <;> exact id)
  unfold F_X11_sendBreak at hw
  refine lv_aload_n hx hb dX11_sendBreak_0 rfl (lv_at hl 0 rfl) ?_
  refine cw_getPr (a := h) hF hH fk_X11_74 dX11_sendBreak_1 hw (fun z1 hw => ?_)
  refine lv_bipush (v := 88) hx hb dX11_sendBreak_4 (by decide) ?_
  refine cw_cVvq (q := z1) (As := [.int 88]) (rest := []) hF hH hA hE mv_X11_262 ci_X6 (by decide) hw (fun b hw sz => c_X6_begin l D t G _ b 88 _ hw sz) dX11_sendBreak_6 ⟨Nat.le_of_ble_eq_true rfl, Nat.le_of_ble_eq_true rfl⟩ rfl hl.1 (Nat.le_of_ble_eq_true rfl) rfl (fun κ2 H locs cells slots hw hH => ?_)
  refine lv_aload_n hx hb dX11_sendBreak_9 rfl (lv_at hl 0 rfl) ?_
  refine cw_getPr (a := h) hF hH fk_X11_74 dX11_sendBreak_10 hw (fun z4 hw => ?_)
  refine lv_iconst (v := 0) hx hb dX11_sendBreak_13 (by decide) ?_
  refine lv_iconst (v := 4) hx hb dX11_sendBreak_14 (by decide) ?_
  refine lv_ldc2 (v := 1112364030) hx hb hF.1.2.2.2.1 (hF.1.2.2.2.2 _ (wc_16 22 rfl)) dX11_sendBreak_15 ?_
  refine cw_cVvq (q := z4) (As := [.int 0, .int 4, .long 1112364030]) (rest := []) hF hH hA hE mv_X11_349 ci_X6 (by decide) hw (fun b hw sz => c_X6_put l D t G _ b 0 4 1112364030 _ hw sz) dX11_sendBreak_18 ⟨Nat.le_of_ble_eq_true rfl, Nat.le_of_ble_eq_true rfl⟩ rfl hl.1 (Nat.le_of_ble_eq_true rfl) rfl (fun κ5 H locs cells slots hw hH => ?_)
  refine lv_aload_n hx hb dX11_sendBreak_21 rfl (lv_at hl 0 rfl) ?_
  refine cw_getPr (a := h) hF hH fk_X11_74 dX11_sendBreak_22 hw (fun z7 hw => ?_)
  refine lv_iconst (v := 4) hx hb dX11_sendBreak_25 (by decide) ?_
  refine lv_iconst (v := 2) hx hb dX11_sendBreak_26 (by decide) ?_
  refine lv_ldc2 (v := 64) hx hb hF.1.2.2.2.1 (hF.1.2.2.2.2 _ (wc_16 23 rfl)) dX11_sendBreak_27 ?_
  refine cw_cVvq (q := z7) (As := [.int 4, .int 2, .long 64]) (rest := []) hF hH hA hE mv_X11_349 ci_X6 (by decide) hw (fun b hw sz => c_X6_put l D t G _ b 4 2 64 _ hw sz) dX11_sendBreak_30 ⟨Nat.le_of_ble_eq_true rfl, Nat.le_of_ble_eq_true rfl⟩ rfl hl.1 (Nat.le_of_ble_eq_true rfl) rfl (fun κ8 H locs cells slots hw hH => ?_)
  refine lv_aload_n hx hb dX11_sendBreak_33 rfl (lv_at hl 0 rfl) ?_
  refine cw_getPr (a := h) hF hH fk_X11_74 dX11_sendBreak_34 hw (fun z10 hw => ?_)
  refine lv_bipush (v := 12) hx hb dX11_sendBreak_37 (by decide) ?_
  refine lv_iconst (v := 2) hx hb dX11_sendBreak_39 (by decide) ?_
  refine lv_ldc2 (v := 18) hx hb hF.1.2.2.2.1 (hF.1.2.2.2.2 _ (wc_23 37 rfl)) dX11_sendBreak_40 ?_
  refine cw_cVvq (q := z10) (As := [.int 12, .int 2, .long 18]) (rest := []) hF hH hA hE mv_X11_349 ci_X6 (by decide) hw (fun b hw sz => c_X6_put l D t G _ b 12 2 18 _ hw sz) dX11_sendBreak_43 ⟨Nat.le_of_ble_eq_true rfl, Nat.le_of_ble_eq_true rfl⟩ rfl hl.1 (Nat.le_of_ble_eq_true rfl) rfl (fun κ11 H locs cells slots hw hH => ?_)
  refine lv_aload_n hx hb dX11_sendBreak_46 rfl (lv_at hl 0 rfl) ?_
  refine cw_getPr (a := h) hF hH fk_X11_74 dX11_sendBreak_47 hw (fun z13 hw => ?_)
  refine lv_bipush (v := 16) hx hb dX11_sendBreak_50 (by decide) ?_
  refine lv_iconst (v := 4) hx hb dX11_sendBreak_52 (by decide) ?_
  refine lv_lconst (v := 1) hx hb dX11_sendBreak_53 (by decide) ?_
  refine cw_cVvq (q := z13) (As := [.int 16, .int 4, .long 1]) (rest := []) hF hH hA hE mv_X11_349 ci_X6 (by decide) hw (fun b hw sz => c_X6_put l D t G _ b 16 4 1 _ hw sz) dX11_sendBreak_54 ⟨Nat.le_of_ble_eq_true rfl, Nat.le_of_ble_eq_true rfl⟩ rfl hl.1 (Nat.le_of_ble_eq_true rfl) rfl (fun κ14 H locs cells slots hw hH => ?_)
  refine lv_aload_n hx hb dX11_sendBreak_57 rfl (lv_at hl 0 rfl) ?_
  refine cw_getPr (a := h) hF hH fk_X11_74 dX11_sendBreak_58 hw (fun z16 hw => ?_)
  refine lv_bipush (v := 24) hx hb dX11_sendBreak_61 (by decide) ?_
  refine lv_bipush (v := 8) hx hb dX11_sendBreak_63 (by decide) ?_
  refine lv_ldc2 (v := (-1)) hx hb hF.1.2.2.2.1 (hF.1.2.2.2.2 _ (wc_21 32 rfl)) dX11_sendBreak_65 ?_
  refine cw_cVvq (q := z16) (As := [.int 24, .int 8, .long (-1)]) (rest := []) hF hH hA hE mv_X11_349 ci_X6 (by decide) hw (fun b hw sz => c_X6_put l D t G _ b 24 8 (-1) _ hw sz) dX11_sendBreak_68 ⟨Nat.le_of_ble_eq_true rfl, Nat.le_of_ble_eq_true rfl⟩ rfl hl.1 (Nat.le_of_ble_eq_true rfl) rfl (fun κ17 H locs cells slots hw hH => ?_)
  refine lv_aload_n hx hb dX11_sendBreak_71 rfl (lv_at hl 0 rfl) ?_
  refine cw_getPr (a := h) hF hH fk_X11_74 dX11_sendBreak_72 hw (fun z19 hw => ?_)
  refine lv_bipush (v := 64) hx hb dX11_sendBreak_75 (by decide) ?_
  refine lv_iconst (v := 2) hx hb dX11_sendBreak_77 (by decide) ?_
  refine lv_ldc2 (v := 24) hx hb hF.1.2.2.2.1 (hF.1.2.2.2.2 _ (wc_23 38 rfl)) dX11_sendBreak_78 ?_
  refine cw_cVvq (q := z19) (As := [.int 64, .int 2, .long 24]) (rest := []) hF hH hA hE mv_X11_349 ci_X6 (by decide) hw (fun b hw sz => c_X6_put l D t G _ b 64 2 24 _ hw sz) dX11_sendBreak_81 ⟨Nat.le_of_ble_eq_true rfl, Nat.le_of_ble_eq_true rfl⟩ rfl hl.1 (Nat.le_of_ble_eq_true rfl) rfl (fun κ20 H locs cells slots hw hH => ?_)
  refine lv_aload_n hx hb dX11_sendBreak_84 rfl (lv_at hl 0 rfl) ?_
  refine cw_getPr (a := h) hF hH fk_X11_74 dX11_sendBreak_85 hw (fun z22 hw => ?_)
  refine lv_bipush (v := 66) hx hb dX11_sendBreak_88 (by decide) ?_
  refine lv_iconst (v := 1) hx hb dX11_sendBreak_90 (by decide) ?_
  refine lv_iload_n hx hb dX11_sendBreak_91 rfl (lv_at hl 2 rfl) ?_
  refine lv_i2l hx hb dX11_sendBreak_92 rfl ?_
  refine w_nml hw (fun z23 hw => ?_)
  refine cw_cVvq (q := z22) (As := [.int 66, .int 1, .long z23]) (rest := []) hF hH hA hE mv_X11_349 ci_X6 (by decide) hw (fun b hw sz => c_X6_put l D t G _ b 66 1 z23 _ hw sz) dX11_sendBreak_93 ⟨Nat.le_of_ble_eq_true rfl, Nat.le_of_ble_eq_true rfl⟩ rfl hl.1 (Nat.le_of_ble_eq_true rfl) rfl (fun κ24 H locs cells slots hw hH => ?_)
  refine lv_aload_n hx hb dX11_sendBreak_96 rfl (lv_at hl 0 rfl) ?_
  refine cw_getPr (a := h) hF hH fk_X11_74 dX11_sendBreak_97 hw (fun z26 hw => ?_)
  refine lv_bipush (v := 72) hx hb dX11_sendBreak_100 (by decide) ?_
  refine lv_bipush (v := 8) hx hb dX11_sendBreak_102 (by decide) ?_
  refine w_aloadq_n hF dX11_sendBreak_104 rfl (lv_at hl 1 rfl) ?_
  refine cw_getJ (q := a1) hF hH fk_X11_328 dX11_sendBreak_105 hw (fun z27 hw => ?_)
  refine cw_cVvq (q := z26) (As := [.int 72, .int 8, .long z27]) (rest := []) hF hH hA hE mv_X11_349 ci_X6 (by decide) hw (fun b hw sz => c_X6_put l D t G _ b 72 8 z27 _ hw sz) dX11_sendBreak_108 ⟨Nat.le_of_ble_eq_true rfl, Nat.le_of_ble_eq_true rfl⟩ rfl hl.1 (Nat.le_of_ble_eq_true rfl) rfl (fun κ28 H locs cells slots hw hH => ?_)
  refine lv_aload_n hx hb dX11_sendBreak_111 rfl (lv_at hl 0 rfl) ?_
  refine cw_getPr (a := h) hF hH fk_X11_74 dX11_sendBreak_112 hw (fun z30 hw => ?_)
  refine lv_bipush (v := 80) hx hb dX11_sendBreak_115 (by decide) ?_
  refine lv_bipush (v := 8) hx hb dX11_sendBreak_117 (by decide) ?_
  refine w_aloadq_n hF dX11_sendBreak_119 rfl (lv_at hl 1 rfl) ?_
  refine cw_getJ (q := a1) hF hH fk_X11_328 dX11_sendBreak_120 hw (fun z31 hw => ?_)
  refine cw_cVvq (q := z30) (As := [.int 80, .int 8, .long z31]) (rest := []) hF hH hA hE mv_X11_349 ci_X6 (by decide) hw (fun b hw sz => c_X6_put l D t G _ b 80 8 z31 _ hw sz) dX11_sendBreak_123 ⟨Nat.le_of_ble_eq_true rfl, Nat.le_of_ble_eq_true rfl⟩ rfl hl.1 (Nat.le_of_ble_eq_true rfl) rfl (fun κ32 H locs cells slots hw hH => ?_)
  refine w_aloadq_n hF dX11_sendBreak_126 rfl (lv_at hl 1 rfl) ?_
  refine cw_getP (q := a1) hF hH fk_X11_423 dX11_sendBreak_127 hw (fun z34 hw => ?_)
  refine cw_getP (q := z34) hF hH fk_X11_410 dX11_sendBreak_130 hw (fun z35 hw => ?_)
  refine cw_getP (q := z35) hF hH fk_X11_406 dX11_sendBreak_133 hw (fun z36 hw => ?_)
  refine lv_aload_n hx hb dX11_sendBreak_136 rfl (lv_at hl 0 rfl) ?_
  refine cw_getPr (a := h) hF hH fk_X11_74 dX11_sendBreak_137 hw (fun z37 hw => ?_)
  refine cw_cVvq (q := z36) (As := [va_rf z37]) (rest := []) hF hH hA hE mv_X11_152 ci_X2 (by decide) hw (fun b hw sz => c_X2_post l D t G _ b z37 _ hw sz) dX11_sendBreak_140 ⟨Nat.le_of_ble_eq_true rfl, Nat.le_of_ble_eq_true rfl⟩ rfl hl.1 (Nat.le_of_ble_eq_true rfl) rfl (fun κ38 H locs cells slots hw hH => ?_)
  exact cw_retv hF hH ⟨rfl, rfl⟩ hr hlk dX11_sendBreak_143 hw
set_option maxRecDepth 100000 in
def F_X11_waitFor (G : GE) (h : Nat) (a1 : Option Nat) (a2 : Option Nat) (post : Int32 → CS → Prop) (κ : CS) : Prop := ∃ b : Nat, a2 = some b ∧ (b ∈ sL κ.1 ∧ sK κ.1 b = 10) ∧ ∀ z1 : Option Nat, z1 = sP κ.1 b 2 → ∃ b : Nat, a1 = some b ∧ (b ∈ sL κ.1 ∧ sK κ.1 b = 8) ∧ ∀ κ2 : CS, κ2 = (h_uP κ.1 b 18 z1, κ.2) → ∃ b : Nat, a2 = some b ∧ (b ∈ sL κ2.1 ∧ sK κ2.1 b = 10) ∧ ∀ z3 : Int32, z3 = sI κ2.1 b 8 → jc (fun (K6 : Unit → CS → Prop) => ((¬ z3.toInt = 0) → K6 () κ2) ∧ ((z3.toInt = 0) → (0 ≤ (1 : Int32).toInt ∧ (1 : Int32).toInt ≤ 1) ∧ ∃ b : Nat, a2 = some b ∧ (b ∈ sL κ2.1 ∧ sK κ2.1 b = 10) ∧ ∀ κ9 : CS, κ9 = (h_uI κ2.1 b 8 1, κ2.2) → ∃ b : Nat, a1 = some b ∧ (b ∈ sL κ9.1 ∧ sK κ9.1 b = 8) ∧ ∀ z10 : Option Nat, z10 = sP κ9.1 b 17 → jc (fun (K13 : Int32 → CS → Prop) => jc (fun (K24 : Unit → CS → Prop) => ((z10 = none) → K24 () κ9) ∧ ((¬ z10 = none) → ∃ b : Nat, a1 = some b ∧ (b ∈ sL κ9.1 ∧ sK κ9.1 b = 8) ∧ ∀ z27 : Option Nat, z27 = sP κ9.1 b 17 → ∃ b : Nat, z27 = some b ∧ (b ∈ sL κ9.1 ∧ sK κ9.1 b = 13) ∧ F_X10_empties G b  (fun (z29 : Int32) (κ28 : CS) => ((z29.toInt = 0) → K24 () κ28) ∧ ((¬ z29.toInt = 0) → K13 0 κ28)) κ9)) (fun (x22 : Unit) (κ23 : CS) => K13 1 κ23)) (fun (x11 : Int32) (κ12 : CS) => ∃ b : Nat, a2 = some b ∧ (b ∈ sL κ12.1 ∧ sK κ12.1 b = 10) ∧ ∀ κ16 : CS, κ16 = (h_uI κ12.1 b 9 x11, κ12.2) → (h ∈ sL κ16.1 ∧ sK κ16.1 h = 1) ∧ ∀ z17 : Int64, z17 = sJ κ16.1 h 7 → ∃ b : Nat, a2 = some b ∧ (b ∈ sL κ16.1 ∧ sK κ16.1 b = 10) ∧ ∀ κ18 : CS, κ18 = (h_uJ κ16.1 b 10 z17, κ16.2) → ∃ b : Nat, a2 = some b ∧ (b ∈ sL κ18.1 ∧ sK κ18.1 b = 10) ∧ ∀ z19 : Int32, z19 = sI κ18.1 b 9 → (h ∈ sL κ18.1 ∧ sK κ18.1 h = 1) ∧ F_X11_sendBreak G h a2 z19 (fun (κ20 : CS) => K6 () κ20) κ18))) (fun (x4 : Unit) (κ5 : CS) => post 259 κ5)
theorem dX11_waitFor_0 : decode cX11_waitFor 0 = .ok (.aload_n 1, 1) := by decide +kernel
theorem dX11_waitFor_1 : decode cX11_waitFor 1 = .ok (.aload_n 2, 1) := by decide +kernel
theorem dX11_waitFor_2 : decode cX11_waitFor 2 = .ok (.getfield 564, 3) := by decide +kernel
theorem dX11_waitFor_5 : decode cX11_waitFor 5 = .ok (.putfield 595, 3) := by decide +kernel
theorem dX11_waitFor_8 : decode cX11_waitFor 8 = .ok (.aload_n 2, 1) := by decide +kernel
theorem dX11_waitFor_9 : decode cX11_waitFor 9 = .ok (.getfield 170, 3) := by decide +kernel
theorem dX11_waitFor_12 : decode cX11_waitFor 12 = .ok (.ifCond .ne 51, 3) := by decide +kernel
theorem dX11_waitFor_15 : decode cX11_waitFor 15 = .ok (.aload_n 2, 1) := by decide +kernel
theorem dX11_waitFor_16 : decode cX11_waitFor 16 = .ok (.iconst 1, 1) := by decide +kernel
theorem dX11_waitFor_17 : decode cX11_waitFor 17 = .ok (.putfield 170, 3) := by decide +kernel
theorem dX11_waitFor_20 : decode cX11_waitFor 20 = .ok (.aload_n 2, 1) := by decide +kernel
theorem dX11_waitFor_21 : decode cX11_waitFor 21 = .ok (.aload_n 1, 1) := by decide +kernel
theorem dX11_waitFor_22 : decode cX11_waitFor 22 = .ok (.getfield 591, 3) := by decide +kernel
theorem dX11_waitFor_25 : decode cX11_waitFor 25 = .ok (.ifnull 17, 3) := by decide +kernel
theorem dX11_waitFor_28 : decode cX11_waitFor 28 = .ok (.aload_n 1, 1) := by decide +kernel
theorem dX11_waitFor_29 : decode cX11_waitFor 29 = .ok (.getfield 591, 3) := by decide +kernel
theorem dX11_waitFor_32 : decode cX11_waitFor 32 = .ok (.invokevirtual 647, 3) := by decide +kernel
theorem dX11_waitFor_35 : decode cX11_waitFor 35 = .ok (.ifCond .eq 7, 3) := by decide +kernel
theorem dX11_waitFor_38 : decode cX11_waitFor 38 = .ok (.iconst 0, 1) := by decide +kernel
theorem dX11_waitFor_39 : decode cX11_waitFor 39 = .ok (.goto 4, 3) := by decide +kernel
theorem dX11_waitFor_42 : decode cX11_waitFor 42 = .ok (.iconst 1, 1) := by decide +kernel
theorem dX11_waitFor_43 : decode cX11_waitFor 43 = .ok (.putfield 756, 3) := by decide +kernel
theorem dX11_waitFor_46 : decode cX11_waitFor 46 = .ok (.aload_n 2, 1) := by decide +kernel
theorem dX11_waitFor_47 : decode cX11_waitFor 47 = .ok (.aload_n 0, 1) := by decide +kernel
theorem dX11_waitFor_48 : decode cX11_waitFor 48 = .ok (.getfield 157, 3) := by decide +kernel
theorem dX11_waitFor_51 : decode cX11_waitFor 51 = .ok (.putfield 173, 3) := by decide +kernel
theorem dX11_waitFor_54 : decode cX11_waitFor 54 = .ok (.aload_n 0, 1) := by decide +kernel
theorem dX11_waitFor_55 : decode cX11_waitFor 55 = .ok (.aload_n 2, 1) := by decide +kernel
theorem dX11_waitFor_56 : decode cX11_waitFor 56 = .ok (.aload_n 2, 1) := by decide +kernel
theorem dX11_waitFor_57 : decode cX11_waitFor 57 = .ok (.getfield 756, 3) := by decide +kernel
theorem dX11_waitFor_60 : decode cX11_waitFor 60 = .ok (.invokevirtual 759, 3) := by decide +kernel
theorem dX11_waitFor_63 : decode cX11_waitFor 63 = .ok (.sipush 259, 3) := by decide +kernel
theorem dX11_waitFor_66 : decode cX11_waitFor 66 = .ok (.ireturn, 1) := by decide +kernel
set_option maxRecDepth 100000 in
set_option maxHeartbeats 4000000 in
theorem c_X11_waitFor (l : Launch) (D : va_G) (t : Nat → ClassId) (G : GE) (κ : CS) (h : Nat) (a1 : Option Nat) (a2 : Option Nat) (post : Int32 → CS → Prop) (hw : F_X11_waitFor G h a1 a2 post κ) (sz : Nat) : CMi l D t yX11_waitFor cX11_waitFor 3 (some .int) 4 107 G κ sz [.ref h, va_rf a1, va_rf a2] post := by
  refine c_go (by decide) (by cases a1 <;> cases a2 <;> exact Nat.le_of_ble_eq_true rfl) ?_
  intro p e s m below meth c ls A hF hr hlk hin hAe hH hA hE hl
  unfold cB
  rw [hAe]
  clear hAe
  have hF : FX p m c cX11_waitFor 3 s _ RX11 D t := hF
  have hx := hF.1.1
  have hb := hF.1.2.1
  have hl : lv_has ls 3 [(0, .ref h), (1, va_rf a1), (2, va_rf a2)] := (by have h2 := hl; clear hw; revert h2; cases a1 <;> cases a2 <;> exact id)
  unfold F_X11_waitFor at hw
  refine w_aloadq_n hF dX11_waitFor_0 rfl (lv_at hl 1 rfl) ?_
  refine w_aloadq_n hF dX11_waitFor_1 rfl (lv_at hl 2 rfl) ?_
  refine cw_getP (q := a2) hF hH fk_X11_564 dX11_waitFor_2 hw (fun z1 hw => ?_)
  refine cw_putP (q := a1) (v := z1) hF hH fk_X11_595 dX11_waitFor_5 rfl rfl hw (fun κ2 H locs cells slots hw hH => ?_)
  refine w_aloadq_n hF dX11_waitFor_8 rfl (lv_at hl 2 rfl) ?_
  refine cw_getI (q := a2) hF hH fk_X11_170 dX11_waitFor_9 hw (fun z3 hw => ?_)
  obtain ⟨K6, hK7, hw⟩ := jc_open hw
  refine cw_join (K := K6) 63 (fun (x4 : Unit) => []) (fun (x4 : Unit) => []) hl hH (fun x4 κ5 ls H locs cells slots hl hw hH => ?_) (fun jn8 => ?_)
  · have hw := hK7 x4 κ5 hw
    have hl : lv_has ls 3 [] := hl
    refine lv_sipush (v := 259) hx hb dX11_waitFor_63 (by decide) ?_
    exact cw_reti hF hH ⟨rfl, rfl⟩ hr rfl hlk dX11_waitFor_66 hw
  · skip
    refine w_if_ne (tgt := 63) hF dX11_waitFor_12 rfl hw (fun hw => ?_) (fun hw => ?_)
    · have hl : lv_has ls 3 [] := lv_sub hl [] rfl
      exact jn8 () κ2 ls _ _ _ _ hl hw hH
    · refine w_aloadq_n hF dX11_waitFor_15 rfl (lv_at hl 2 rfl) ?_
      refine lv_iconst (v := 1) hx hb dX11_waitFor_16 (by decide) ?_
      refine cw_putZ (q := a2) (v := 1) hF hH fk_X11_170 dX11_waitFor_17 rfl rfl hw (fun κ9 H locs cells slots hw hH => ?_)
      refine w_aloadq_n hF dX11_waitFor_20 rfl (lv_at hl 2 rfl) ?_
      refine w_aloadq_n hF dX11_waitFor_21 rfl (lv_at hl 1 rfl) ?_
      refine cw_getP (q := a1) hF hH fk_X11_591 dX11_waitFor_22 hw (fun z10 hw => ?_)
      obtain ⟨K13, hK14, hw⟩ := jc_open hw
      refine cw_join (K := K13) 43 (fun (x11 : Int32) => [(2, va_rf a2), (0, .ref h)]) (fun (x11 : Int32) => [.int x11, va_rf a2]) hl hH (fun x11 κ12 ls H locs cells slots hl hw hH => ?_) (fun jn15 => ?_)
      · have hw := hK14 x11 κ12 hw
        have hl : lv_has ls 3 [(2, va_rf a2), (0, .ref h)] := hl
        refine cw_putI (q := a2) (v := x11) hF hH fk_X11_756 dX11_waitFor_43 rfl rfl rfl hw (fun κ16 H locs cells slots hw hH => ?_)
        refine w_aloadq_n hF dX11_waitFor_46 rfl (lv_at hl 0 rfl) ?_
        refine lv_aload_n hx hb dX11_waitFor_47 rfl (lv_at hl 1 rfl) ?_
        refine cw_getJr (a := h) hF hH fk_X11_157 dX11_waitFor_48 hw (fun z17 hw => ?_)
        refine cw_putJ (q := a2) (v := z17) hF hH fk_X11_173 dX11_waitFor_51 rfl rfl rfl hw (fun κ18 H locs cells slots hw hH => ?_)
        refine lv_aload_n hx hb dX11_waitFor_54 rfl (lv_at hl 1 rfl) ?_
        refine w_aloadq_n hF dX11_waitFor_55 rfl (lv_at hl 0 rfl) ?_
        refine w_aloadq_n hF dX11_waitFor_56 rfl (lv_at hl 0 rfl) ?_
        refine cw_getI (q := a2) hF hH fk_X11_756 dX11_waitFor_57 hw (fun z19 hw => ?_)
        refine cw_cVv (b := h) (As := [va_rf a2, .int z19]) (rest := []) hF hH hA hE mv_X11_759 ci_X11 (by decide) (fun sz => c_X11_sendBreak l D t G _ h a2 z19 _ hw.2 sz) dX11_waitFor_60 hw.1 ⟨Nat.le_of_ble_eq_true rfl, Nat.le_of_ble_eq_true rfl⟩ rfl hl.1 (Nat.le_of_ble_eq_true rfl) rfl (fun κ20 H locs cells slots hw hH => ?_)
        have hl : lv_has ls 3 [] := lv_sub hl [] rfl
        exact jn8 () κ20 ls _ _ _ _ hl hw hH
      · skip
        obtain ⟨K24, hK25, hw⟩ := jc_open hw
        refine cw_join (K := K24) 42 (fun (x22 : Unit) => [(2, va_rf a2), (0, .ref h)]) (fun (x22 : Unit) => [va_rf a2]) hl hH (fun x22 κ23 ls H locs cells slots hl hw hH => ?_) (fun jn26 => ?_)
        · have hw := hK25 x22 κ23 hw
          have hl : lv_has ls 3 [(2, va_rf a2), (0, .ref h)] := hl
          refine lv_iconst (v := 1) hx hb dX11_waitFor_42 (by decide) ?_
          exact jn15 1 κ23 ls _ _ _ _ hl hw hH
        · skip
          refine cw_ifnull (q := z10) (tgt := 42) hF dX11_waitFor_25 rfl hw (fun hw => ?_) (fun hw => ?_)
          · have hl : lv_has ls 3 [(2, va_rf a2), (0, .ref h)] := lv_sub hl [2, 0] rfl
            exact jn26 () κ9 ls _ _ _ _ hl hw hH
          · refine w_aloadq_n hF dX11_waitFor_28 rfl (lv_at hl 1 rfl) ?_
            refine cw_getP (q := a1) hF hH fk_X11_591 dX11_waitFor_29 hw (fun z27 hw => ?_)
            refine cw_cViq (q := z27) (As := []) (rest := [va_rf a2]) hF hH hA hE mv_X11_647 ci_X10 (by decide) hw (fun b hw sz => c_X10_empties l D t G _ b  _ hw sz) dX11_waitFor_32 ⟨Nat.le_of_ble_eq_true rfl, Nat.le_of_ble_eq_true rfl⟩ rfl hl.1 (by simp only [List.map_cons, List.map_nil, cat_rf]; exact Nat.le_of_ble_eq_true rfl) rfl (fun z29 κ28 H locs cells slots hw hH => ?_)
            refine w_if_eq (tgt := 42) hF dX11_waitFor_35 rfl hw (fun hw => ?_) (fun hw => ?_)
            · have hl : lv_has ls 3 [(2, va_rf a2), (0, .ref h)] := lv_sub hl [2, 0] rfl
              exact jn26 () κ28 ls _ _ _ _ hl hw hH
            · refine lv_iconst (v := 0) hx hb dX11_waitFor_38 (by decide) ?_
              refine lv_goto (tgt := 43) hx hb dX11_waitFor_39 rfl ?_
              have hl : lv_has ls 3 [(2, va_rf a2), (0, .ref h)] := lv_sub hl [2, 0] rfl
              exact jn15 0 κ28 ls _ _ _ _ hl hw hH

/-! the reference, lifted: 11 -/
def F_X12_standard (h0 : Nat) (L : Nat → Nat) (a1 : Int32) (a2 : Int32) (post : HS → Prop) (σ : HS) : Prop := F_X12_room h0 L a2 (fun (z2 : Int32) (σ1 : HS) => ∀ z3 : Int64, z3 = (z2 : Int32).toInt64 → F_X12_set h0 L a1 8 z3 (fun (σ4 : HS) => ∀ z6 : Int32, z6 = a1 + 8 → (0 ≤ a2.toInt ∧ a2.toInt < 160) ∧ ∀ z7 : Int32, z7 = sI σ4 (L 8) a2.toInt.toNat → ∀ z8 : Int64, z8 = (z7 : Int32).toInt64 → F_X12_set h0 L z6 8 z8 (fun (σ9 : HS) => ∀ z11 : Int32, z11 = a1 + 16 → (0 ≤ a2.toInt ∧ a2.toInt < 80) ∧ ∀ z12 : Int32, z12 = sI σ9 (L 10) a2.toInt.toNat → jn (fun (K15 : Int64 → HS → Prop) => ((z12.toInt = 0) → K15 1 σ9) ∧ ((¬ z12.toInt = 0) → K15 0 σ9)) (fun (x13 : Int64) (σ14 : HS) => F_X12_set h0 L z11 4 x13 (fun (σ18 : HS) => ∀ z20 : Int32, z20 = a1 + 20 → (0 ≤ a2.toInt ∧ a2.toInt < 80) ∧ ∀ z21 : Int32, z21 = sI σ18 (L 10) a2.toInt.toNat → jn (fun (K24 : Int64 → HS → Prop) => ((z21.toInt = 0) → K24 0 σ18) ∧ ((¬ z21.toInt = 0) → K24 1 σ18)) (fun (x22 : Int64) (σ23 : HS) => F_X12_set h0 L z20 1 x22 (fun (σ27 : HS) => ∀ z29 : Int32, z29 = a1 + 21 → (0 ≤ a2.toInt ∧ a2.toInt < 160) ∧ ∀ z30 : Int32, z30 = sI σ27 (L 3) a2.toInt.toNat → jn (fun (K33 : Int64 → HS → Prop) => ((z30.toInt = 0) → K33 0 σ27) ∧ ((¬ z30.toInt = 0) → K33 1 σ27)) (fun (x31 : Int64) (σ32 : HS) => F_X12_set h0 L z29 1 x31 (fun (σ36 : HS) => post σ36) σ32)) σ23)) σ14)) σ4) σ1) σ
theorem dX12_standard_0 : decode cX12_standard 0 = .ok (.aload_n 0, 1) := by decide +kernel
theorem dX12_standard_1 : decode cX12_standard 1 = .ok (.iload_n 1, 1) := by decide +kernel
theorem dX12_standard_2 : decode cX12_standard 2 = .ok (.bipush 8, 2) := by decide +kernel
theorem dX12_standard_4 : decode cX12_standard 4 = .ok (.aload_n 0, 1) := by decide +kernel
theorem dX12_standard_5 : decode cX12_standard 5 = .ok (.iload_n 2, 1) := by decide +kernel
theorem dX12_standard_6 : decode cX12_standard 6 = .ok (.invokevirtual 705, 3) := by decide +kernel
theorem dX12_standard_9 : decode cX12_standard 9 = .ok (.i2l, 1) := by decide +kernel
theorem dX12_standard_10 : decode cX12_standard 10 = .ok (.invokevirtual 376, 3) := by decide +kernel
theorem dX12_standard_13 : decode cX12_standard 13 = .ok (.aload_n 0, 1) := by decide +kernel
theorem dX12_standard_14 : decode cX12_standard 14 = .ok (.iload_n 1, 1) := by decide +kernel
theorem dX12_standard_15 : decode cX12_standard 15 = .ok (.bipush 8, 2) := by decide +kernel
theorem dX12_standard_17 : decode cX12_standard 17 = .ok (.iadd, 1) := by decide +kernel
theorem dX12_standard_18 : decode cX12_standard 18 = .ok (.bipush 8, 2) := by decide +kernel
theorem dX12_standard_20 : decode cX12_standard 20 = .ok (.aload_n 0, 1) := by decide +kernel
theorem dX12_standard_21 : decode cX12_standard 21 = .ok (.getfield 37, 3) := by decide +kernel
theorem dX12_standard_24 : decode cX12_standard 24 = .ok (.iload_n 2, 1) := by decide +kernel
theorem dX12_standard_25 : decode cX12_standard 25 = .ok (.iaload, 1) := by decide +kernel
theorem dX12_standard_26 : decode cX12_standard 26 = .ok (.i2l, 1) := by decide +kernel
theorem dX12_standard_27 : decode cX12_standard 27 = .ok (.invokevirtual 376, 3) := by decide +kernel
theorem dX12_standard_30 : decode cX12_standard 30 = .ok (.aload_n 0, 1) := by decide +kernel
theorem dX12_standard_31 : decode cX12_standard 31 = .ok (.iload_n 1, 1) := by decide +kernel
theorem dX12_standard_32 : decode cX12_standard 32 = .ok (.bipush 16, 2) := by decide +kernel
theorem dX12_standard_34 : decode cX12_standard 34 = .ok (.iadd, 1) := by decide +kernel
theorem dX12_standard_35 : decode cX12_standard 35 = .ok (.iconst 4, 1) := by decide +kernel
theorem dX12_standard_36 : decode cX12_standard 36 = .ok (.aload_n 0, 1) := by decide +kernel
theorem dX12_standard_37 : decode cX12_standard 37 = .ok (.getfield 44, 3) := by decide +kernel
theorem dX12_standard_40 : decode cX12_standard 40 = .ok (.iload_n 2, 1) := by decide +kernel
theorem dX12_standard_41 : decode cX12_standard 41 = .ok (.baload, 1) := by decide +kernel
theorem dX12_standard_42 : decode cX12_standard 42 = .ok (.ifCond .eq 7, 3) := by decide +kernel
theorem dX12_standard_45 : decode cX12_standard 45 = .ok (.lconst 0, 1) := by decide +kernel
theorem dX12_standard_46 : decode cX12_standard 46 = .ok (.goto 4, 3) := by decide +kernel
theorem dX12_standard_49 : decode cX12_standard 49 = .ok (.lconst 1, 1) := by decide +kernel
theorem dX12_standard_50 : decode cX12_standard 50 = .ok (.invokevirtual 376, 3) := by decide +kernel
theorem dX12_standard_53 : decode cX12_standard 53 = .ok (.aload_n 0, 1) := by decide +kernel
theorem dX12_standard_54 : decode cX12_standard 54 = .ok (.iload_n 1, 1) := by decide +kernel
theorem dX12_standard_55 : decode cX12_standard 55 = .ok (.bipush 20, 2) := by decide +kernel
theorem dX12_standard_57 : decode cX12_standard 57 = .ok (.iadd, 1) := by decide +kernel
theorem dX12_standard_58 : decode cX12_standard 58 = .ok (.iconst 1, 1) := by decide +kernel
theorem dX12_standard_59 : decode cX12_standard 59 = .ok (.aload_n 0, 1) := by decide +kernel
theorem dX12_standard_60 : decode cX12_standard 60 = .ok (.getfield 44, 3) := by decide +kernel
theorem dX12_standard_63 : decode cX12_standard 63 = .ok (.iload_n 2, 1) := by decide +kernel
theorem dX12_standard_64 : decode cX12_standard 64 = .ok (.baload, 1) := by decide +kernel
theorem dX12_standard_65 : decode cX12_standard 65 = .ok (.ifCond .eq 7, 3) := by decide +kernel
theorem dX12_standard_68 : decode cX12_standard 68 = .ok (.lconst 1, 1) := by decide +kernel
theorem dX12_standard_69 : decode cX12_standard 69 = .ok (.goto 4, 3) := by decide +kernel
theorem dX12_standard_72 : decode cX12_standard 72 = .ok (.lconst 0, 1) := by decide +kernel
theorem dX12_standard_73 : decode cX12_standard 73 = .ok (.invokevirtual 376, 3) := by decide +kernel
theorem dX12_standard_76 : decode cX12_standard 76 = .ok (.aload_n 0, 1) := by decide +kernel
theorem dX12_standard_77 : decode cX12_standard 77 = .ok (.iload_n 1, 1) := by decide +kernel
theorem dX12_standard_78 : decode cX12_standard 78 = .ok (.bipush 21, 2) := by decide +kernel
theorem dX12_standard_80 : decode cX12_standard 80 = .ok (.iadd, 1) := by decide +kernel
theorem dX12_standard_81 : decode cX12_standard 81 = .ok (.iconst 1, 1) := by decide +kernel
theorem dX12_standard_82 : decode cX12_standard 82 = .ok (.aload_n 0, 1) := by decide +kernel
theorem dX12_standard_83 : decode cX12_standard 83 = .ok (.getfield 21, 3) := by decide +kernel
theorem dX12_standard_86 : decode cX12_standard 86 = .ok (.iload_n 2, 1) := by decide +kernel
theorem dX12_standard_87 : decode cX12_standard 87 = .ok (.baload, 1) := by decide +kernel
theorem dX12_standard_88 : decode cX12_standard 88 = .ok (.ifCond .eq 7, 3) := by decide +kernel
theorem dX12_standard_91 : decode cX12_standard 91 = .ok (.lconst 1, 1) := by decide +kernel
theorem dX12_standard_92 : decode cX12_standard 92 = .ok (.goto 4, 3) := by decide +kernel
theorem dX12_standard_95 : decode cX12_standard 95 = .ok (.lconst 0, 1) := by decide +kernel
theorem dX12_standard_96 : decode cX12_standard 96 = .ok (.invokevirtual 376, 3) := by decide +kernel
theorem dX12_standard_99 : decode cX12_standard 99 = .ok (.return_, 1) := by decide +kernel
set_option maxRecDepth 100000 in
set_option maxHeartbeats 4000000 in
theorem c_X12_standard (l : Launch) (D : va_G) (t : Nat → ClassId) (h0 : Nat) (L : Nat → Nat) (σ : HS) (hM : MdI h0 L σ) (a1 : Int32) (a2 : Int32) (post : HS → Prop) (hw : F_X12_standard h0 L a1 a2 post σ) (sz : Nat) : RMv l D t yX12_standard cX12_standard 3 ({ frames := 1, cells := 0, slots := 0, locals := 25 }) h0 L σ sz [.ref h0, .int a1, .int a2] post := by
  refine h_go (τ := τT) okT (by decide) (Nat.le_of_ble_eq_true rfl) ?_
  intro p e s m below meth c ls A hF hr hlk hAe hH0 hA hl
  unfold hB
  rw [hAe]
  clear hAe
  have hF : FX p m c cX12_standard 3 s _ RX12 D t := hF
  have hx := hF.1.1
  have hb := hF.1.2.1
  have hH : RT D t A s.heap h0 L σ s.heap [] := ⟨hH0, hM⟩
  have hl : lv_has ls 3 [(0, .ref h0), (1, .int a1), (2, .int a2)] := hl
  unfold F_X12_standard at hw
  refine lv_aload_n hx hb dX12_standard_0 rfl (lv_at hl 0 rfl) ?_
  refine lv_iload_n hx hb dX12_standard_1 rfl (lv_at hl 1 rfl) ?_
  refine lv_bipush (v := 8) hx hb dX12_standard_2 (by decide) ?_
  refine lv_aload_n hx hb dX12_standard_4 rfl (lv_at hl 0 rfl) ?_
  refine lv_iload_n hx hb dX12_standard_5 rfl (lv_at hl 2 rfl) ?_
  refine w_cVi (As := [.int a2]) (rest := [.int 8, .int a1, .ref h0]) hF hH hA mv_X12_705 (fun sz => c_X12_room l D t h0 L _ hH.2 a2 _ hw sz) dX12_standard_6 rfl rfl (by decide) rfl hl.1 (Nat.le_of_ble_eq_true rfl) (by decide) rfl (fun z2 σ1 H locs hw hH => ?_)
  refine lv_i2l hx hb dX12_standard_9 rfl ?_
  refine w_nml hw (fun z3 hw => ?_)
  refine w_cVv (As := [.int a1, .int 8, .long z3]) (rest := []) hF hH hA mv_X12_376 (fun sz => c_X12_set l D t h0 L _ hH.2 a1 8 z3 _ hw sz) dX12_standard_10 rfl rfl (by decide) rfl hl.1 (Nat.le_of_ble_eq_true rfl) (by decide) rfl (fun σ4 H locs hw hH => ?_)
  refine lv_aload_n hx hb dX12_standard_13 rfl (lv_at hl 0 rfl) ?_
  refine lv_iload_n hx hb dX12_standard_14 rfl (lv_at hl 1 rfl) ?_
  refine lv_bipush (v := 8) hx hb dX12_standard_15 (by decide) ?_
  refine lv_iadd hx hb dX12_standard_17 ?_
  refine w_nmi hw (fun z6 hw => ?_)
  refine lv_bipush (v := 8) hx hb dX12_standard_18 (by decide) ?_
  refine lv_aload_n hx hb dX12_standard_20 rfl (lv_at hl 0 rfl) ?_
  refine w_getA 8 hF hH fk_X12_37 dX12_standard_21 (by decide) rfl ?_
  refine lv_iload_n hx hb dX12_standard_24 rfl (lv_at hl 2 rfl) ?_
  refine w_iald 8 160 hF hH dX12_standard_25 (by decide) rfl rfl hw (fun z7 hw => ?_)
  refine lv_i2l hx hb dX12_standard_26 rfl ?_
  refine w_nml hw (fun z8 hw => ?_)
  refine w_cVv (As := [.int z6, .int 8, .long z8]) (rest := []) hF hH hA mv_X12_376 (fun sz => c_X12_set l D t h0 L _ hH.2 z6 8 z8 _ hw sz) dX12_standard_27 rfl rfl (by decide) rfl hl.1 (Nat.le_of_ble_eq_true rfl) (by decide) rfl (fun σ9 H locs hw hH => ?_)
  refine lv_aload_n hx hb dX12_standard_30 rfl (lv_at hl 0 rfl) ?_
  refine lv_iload_n hx hb dX12_standard_31 rfl (lv_at hl 1 rfl) ?_
  refine lv_bipush (v := 16) hx hb dX12_standard_32 (by decide) ?_
  refine lv_iadd hx hb dX12_standard_34 ?_
  refine w_nmi hw (fun z11 hw => ?_)
  refine lv_iconst (v := 4) hx hb dX12_standard_35 (by decide) ?_
  refine lv_aload_n hx hb dX12_standard_36 rfl (lv_at hl 0 rfl) ?_
  refine w_getA 10 hF hH fk_X12_44 dX12_standard_37 (by decide) rfl ?_
  refine lv_iload_n hx hb dX12_standard_40 rfl (lv_at hl 2 rfl) ?_
  refine w_zald 10 80 hF hH dX12_standard_41 (by decide) rfl rfl hw (fun z12 hw => ?_)
  obtain ⟨K15, hK16, hw⟩ := jn_open hw
  refine w_join (K := K15) 50 (fun (x13 : Int64) => [(2, .int a2), (1, .int a1), (0, .ref h0)]) (fun (x13 : Int64) => [.long x13, .int 4, .int z11, .ref h0]) hl hH (fun x13 σ14 ls H locs hl hw hH => ?_) (fun jn17 => ?_)
  · have hw := hK16 x13 σ14 hw
    have hl : lv_has ls 3 [(2, .int a2), (1, .int a1), (0, .ref h0)] := hl
    refine w_cVv (As := [.int z11, .int 4, .long x13]) (rest := []) hF hH hA mv_X12_376 (fun sz => c_X12_set l D t h0 L _ hH.2 z11 4 x13 _ hw sz) dX12_standard_50 rfl rfl (by decide) rfl hl.1 (Nat.le_of_ble_eq_true rfl) (by decide) rfl (fun σ18 H locs hw hH => ?_)
    refine lv_aload_n hx hb dX12_standard_53 rfl (lv_at hl 2 rfl) ?_
    refine lv_iload_n hx hb dX12_standard_54 rfl (lv_at hl 1 rfl) ?_
    refine lv_bipush (v := 20) hx hb dX12_standard_55 (by decide) ?_
    refine lv_iadd hx hb dX12_standard_57 ?_
    refine w_nmi hw (fun z20 hw => ?_)
    refine lv_iconst (v := 1) hx hb dX12_standard_58 (by decide) ?_
    refine lv_aload_n hx hb dX12_standard_59 rfl (lv_at hl 2 rfl) ?_
    refine w_getA 10 hF hH fk_X12_44 dX12_standard_60 (by decide) rfl ?_
    refine lv_iload_n hx hb dX12_standard_63 rfl (lv_at hl 0 rfl) ?_
    refine w_zald 10 80 hF hH dX12_standard_64 (by decide) rfl rfl hw (fun z21 hw => ?_)
    obtain ⟨K24, hK25, hw⟩ := jn_open hw
    refine w_join (K := K24) 73 (fun (x22 : Int64) => [(2, .int a2), (1, .int a1), (0, .ref h0)]) (fun (x22 : Int64) => [.long x22, .int 1, .int z20, .ref h0]) hl hH (fun x22 σ23 ls H locs hl hw hH => ?_) (fun jn26 => ?_)
    · have hw := hK25 x22 σ23 hw
      have hl : lv_has ls 3 [(2, .int a2), (1, .int a1), (0, .ref h0)] := hl
      refine w_cVv (As := [.int z20, .int 1, .long x22]) (rest := []) hF hH hA mv_X12_376 (fun sz => c_X12_set l D t h0 L _ hH.2 z20 1 x22 _ hw sz) dX12_standard_73 rfl rfl (by decide) rfl hl.1 (Nat.le_of_ble_eq_true rfl) (by decide) rfl (fun σ27 H locs hw hH => ?_)
      refine lv_aload_n hx hb dX12_standard_76 rfl (lv_at hl 2 rfl) ?_
      refine lv_iload_n hx hb dX12_standard_77 rfl (lv_at hl 1 rfl) ?_
      refine lv_bipush (v := 21) hx hb dX12_standard_78 (by decide) ?_
      refine lv_iadd hx hb dX12_standard_80 ?_
      refine w_nmi hw (fun z29 hw => ?_)
      refine lv_iconst (v := 1) hx hb dX12_standard_81 (by decide) ?_
      refine lv_aload_n hx hb dX12_standard_82 rfl (lv_at hl 2 rfl) ?_
      refine w_getA 3 hF hH fk_X12_21 dX12_standard_83 (by decide) rfl ?_
      refine lv_iload_n hx hb dX12_standard_86 rfl (lv_at hl 0 rfl) ?_
      refine w_zald 3 160 hF hH dX12_standard_87 (by decide) rfl rfl hw (fun z30 hw => ?_)
      obtain ⟨K33, hK34, hw⟩ := jn_open hw
      refine w_join (K := K33) 96 (fun (x31 : Int64) => []) (fun (x31 : Int64) => [.long x31, .int 1, .int z29, .ref h0]) hl hH (fun x31 σ32 ls H locs hl hw hH => ?_) (fun jn35 => ?_)
      · have hw := hK34 x31 σ32 hw
        have hl : lv_has ls 3 [] := hl
        refine w_cVv (As := [.int z29, .int 1, .long x31]) (rest := []) hF hH hA mv_X12_376 (fun sz => c_X12_set l D t h0 L _ hH.2 z29 1 x31 _ hw sz) dX12_standard_96 rfl rfl (by decide) rfl hl.1 (Nat.le_of_ble_eq_true rfl) (by decide) rfl (fun σ36 H locs hw hH => ?_)
        exact w_retv hF hH hr hlk dX12_standard_99 hw
      · skip
        refine w_if_eq (tgt := 95) hF dX12_standard_88 rfl hw (fun hw => ?_) (fun hw => ?_)
        · refine lv_lconst (v := 0) hx hb dX12_standard_95 (by decide) ?_
          have hl : lv_has ls 3 [] := lv_sub hl [] rfl
          exact jn35 0 σ27 ls _ _ hl hw hH
        · refine lv_lconst (v := 1) hx hb dX12_standard_91 (by decide) ?_
          refine lv_goto (tgt := 96) hx hb dX12_standard_92 rfl ?_
          have hl : lv_has ls 3 [] := lv_sub hl [] rfl
          exact jn35 1 σ27 ls _ _ hl hw hH
    · skip
      refine w_if_eq (tgt := 72) hF dX12_standard_65 rfl hw (fun hw => ?_) (fun hw => ?_)
      · refine lv_lconst (v := 0) hx hb dX12_standard_72 (by decide) ?_
        exact jn26 0 σ18 ls _ _ hl hw hH
      · refine lv_lconst (v := 1) hx hb dX12_standard_68 (by decide) ?_
        refine lv_goto (tgt := 73) hx hb dX12_standard_69 rfl ?_
        exact jn26 1 σ18 ls _ _ hl hw hH
  · skip
    refine w_if_eq (tgt := 49) hF dX12_standard_42 rfl hw (fun hw => ?_) (fun hw => ?_)
    · refine lv_lconst (v := 1) hx hb dX12_standard_49 (by decide) ?_
      have hl : lv_has ls 3 [(2, .int a2), (1, .int a1), (0, .ref h0)] := lv_sub hl [2, 1, 0] rfl
      exact jn17 1 σ9 ls _ _ hl hw hH
    · refine lv_lconst (v := 0) hx hb dX12_standard_45 (by decide) ?_
      refine lv_goto (tgt := 50) hx hb dX12_standard_46 rfl ?_
      have hl : lv_has ls 3 [(2, .int a2), (1, .int a1), (0, .ref h0)] := lv_sub hl [2, 1, 0] rfl
      exact jn17 0 σ9 ls _ _ hl hw hH
def F_X12_basic (h0 : Nat) (L : Nat → Nat) (a1 : Int32) (a2 : Int32) (post : HS → Prop) (σ : HS) : Prop := F_X12_setTimes h0 L a1 a2 (fun (σ1 : HS) => ∀ z3 : Int32, z3 = a1 + 32 → F_X12_shown h0 L a2 (fun (z5 : Int32) (σ4 : HS) => ∀ z6 : Int64, z6 = (z5 : Int32).toInt64 → F_X12_set h0 L z3 4 z6 (fun (σ7 : HS) => post σ7) σ4) σ1) σ
theorem dX12_basic_0 : decode cX12_basic 0 = .ok (.aload_n 0, 1) := by decide +kernel
theorem dX12_basic_1 : decode cX12_basic 1 = .ok (.iload_n 1, 1) := by decide +kernel
theorem dX12_basic_2 : decode cX12_basic 2 = .ok (.iload_n 2, 1) := by decide +kernel
theorem dX12_basic_3 : decode cX12_basic 3 = .ok (.invokevirtual 702, 3) := by decide +kernel
theorem dX12_basic_6 : decode cX12_basic 6 = .ok (.aload_n 0, 1) := by decide +kernel
theorem dX12_basic_7 : decode cX12_basic 7 = .ok (.iload_n 1, 1) := by decide +kernel
theorem dX12_basic_8 : decode cX12_basic 8 = .ok (.bipush 32, 2) := by decide +kernel
theorem dX12_basic_10 : decode cX12_basic 10 = .ok (.iadd, 1) := by decide +kernel
theorem dX12_basic_11 : decode cX12_basic 11 = .ok (.iconst 4, 1) := by decide +kernel
theorem dX12_basic_12 : decode cX12_basic 12 = .ok (.aload_n 0, 1) := by decide +kernel
theorem dX12_basic_13 : decode cX12_basic 13 = .ok (.iload_n 2, 1) := by decide +kernel
theorem dX12_basic_14 : decode cX12_basic 14 = .ok (.invokevirtual 708, 3) := by decide +kernel
theorem dX12_basic_17 : decode cX12_basic 17 = .ok (.i2l, 1) := by decide +kernel
theorem dX12_basic_18 : decode cX12_basic 18 = .ok (.invokevirtual 376, 3) := by decide +kernel
theorem dX12_basic_21 : decode cX12_basic 21 = .ok (.return_, 1) := by decide +kernel
set_option maxRecDepth 100000 in
set_option maxHeartbeats 4000000 in
theorem c_X12_basic (l : Launch) (D : va_G) (t : Nat → ClassId) (h0 : Nat) (L : Nat → Nat) (σ : HS) (hM : MdI h0 L σ) (a1 : Int32) (a2 : Int32) (post : HS → Prop) (hw : F_X12_basic h0 L a1 a2 post σ) (sz : Nat) : RMv l D t yX12_basic cX12_basic 3 ({ frames := 2, cells := 0, slots := 0, locals := 48 }) h0 L σ sz [.ref h0, .int a1, .int a2] post := by
  refine h_go (τ := τT) okT (by decide) (Nat.le_of_ble_eq_true rfl) ?_
  intro p e s m below meth c ls A hF hr hlk hAe hH0 hA hl
  unfold hB
  rw [hAe]
  clear hAe
  have hF : FX p m c cX12_basic 3 s _ RX12 D t := hF
  have hx := hF.1.1
  have hb := hF.1.2.1
  have hH : RT D t A s.heap h0 L σ s.heap [] := ⟨hH0, hM⟩
  have hl : lv_has ls 3 [(0, .ref h0), (1, .int a1), (2, .int a2)] := hl
  unfold F_X12_basic at hw
  refine lv_aload_n hx hb dX12_basic_0 rfl (lv_at hl 0 rfl) ?_
  refine lv_iload_n hx hb dX12_basic_1 rfl (lv_at hl 1 rfl) ?_
  refine lv_iload_n hx hb dX12_basic_2 rfl (lv_at hl 2 rfl) ?_
  refine w_cVv (As := [.int a1, .int a2]) (rest := []) hF hH hA mv_X12_702 (fun sz => c_X12_setTimes l D t h0 L _ hH.2 a1 a2 _ hw sz) dX12_basic_3 rfl rfl (by decide) rfl hl.1 (Nat.le_of_ble_eq_true rfl) (by decide) rfl (fun σ1 H locs hw hH => ?_)
  refine lv_aload_n hx hb dX12_basic_6 rfl (lv_at hl 0 rfl) ?_
  refine lv_iload_n hx hb dX12_basic_7 rfl (lv_at hl 1 rfl) ?_
  refine lv_bipush (v := 32) hx hb dX12_basic_8 (by decide) ?_
  refine lv_iadd hx hb dX12_basic_10 ?_
  refine w_nmi hw (fun z3 hw => ?_)
  refine lv_iconst (v := 4) hx hb dX12_basic_11 (by decide) ?_
  refine lv_aload_n hx hb dX12_basic_12 rfl (lv_at hl 0 rfl) ?_
  refine lv_iload_n hx hb dX12_basic_13 rfl (lv_at hl 2 rfl) ?_
  refine w_cVi (As := [.int a2]) (rest := [.int 4, .int z3, .ref h0]) hF hH hA mv_X12_708 (fun sz => c_X12_shown l D t h0 L _ hH.2 a2 _ hw sz) dX12_basic_14 rfl rfl (by decide) rfl hl.1 (Nat.le_of_ble_eq_true rfl) (by decide) rfl (fun z5 σ4 H locs hw hH => ?_)
  refine lv_i2l hx hb dX12_basic_17 rfl ?_
  refine w_nml hw (fun z6 hw => ?_)
  refine w_cVv (As := [.int z3, .int 4, .long z6]) (rest := []) hF hH hA mv_X12_376 (fun sz => c_X12_set l D t h0 L _ hH.2 z3 4 z6 _ hw sz) dX12_basic_18 rfl rfl (by decide) rfl hl.1 (Nat.le_of_ble_eq_true rfl) (by decide) rfl (fun σ7 H locs hw hH => ?_)
  exact w_retv hF hH hr hlk dX12_basic_21 hw
def F_X12_ask (h0 : Nat) (L : Nat → Nat)  (post : Int64 → HS → Prop) (σ : HS) : Prop := F_X12_number1 h0 L 66 (fun (z2 : Int32) (σ1 : HS) => F_X12_number1 h0 L 67 (fun (z4 : Int32) (σ3 : HS) => F_X12_number h0 L 68 4 (fun (z6 : Int64) (σ5 : HS) => ∀ z7 : Int32, z7 = sI σ5 h0 100 → (0 ≤ z7.toInt ∧ z7.toInt < 40) ∧ ∀ z8 : Int32, z8 = sI σ5 (L 43) z7.toInt.toNat → jn (fun (K11 : Int32 → HS → Prop) => jn (fun (K81 : Unit → HS → Prop) => ((¬ z2.toInt = (1 : Int32).toInt) → K81 () σ5) ∧ ((z2.toInt = (1 : Int32).toInt) → jn (fun (K86 : Unit → HS → Prop) => ((z4.toInt = (4 : Int32).toInt) → K86 () σ5) ∧ ((¬ z4.toInt = (4 : Int32).toInt) → ((z4.toInt = (5 : Int32).toInt) → K86 () σ5) ∧ ((¬ z4.toInt = (5 : Int32).toInt) → ((¬ z4.toInt = (18 : Int32).toInt) → K81 () σ5) ∧ ((z4.toInt = (18 : Int32).toInt) → K86 () σ5)))) (fun (x84 : Unit) (σ85 : HS) => K11 1 σ85))) (fun (x79 : Unit) (σ80 : HS) => K11 0 σ80)) (fun (x9 : Int32) (σ10 : HS) => jn (fun (K16 : Unit → HS → Prop) => ((¬ x9.toInt = 0) → K16 () σ10) ∧ ((x9.toInt = 0) → jn (fun (K76 : Unit → HS → Prop) => ((¬ z2.toInt = (2 : Int32).toInt) → K76 () σ10) ∧ ((z2.toInt = (2 : Int32).toInt) → ((z4.toInt = (3 : Int32).toInt) → K16 () σ10) ∧ ((¬ z4.toInt = (3 : Int32).toInt) → K76 () σ10))) (fun (x74 : Unit) (σ75 : HS) => post 3221225475 σ75))) (fun (x14 : Unit) (σ15 : HS) => jn (fun (K21 : Unit → HS → Prop) => ((x9.toInt = 0) → K21 () σ15) ∧ ((¬ x9.toInt = 0) → ∀ z71 : Int32, z71 = sI σ15 h0 100 → (0 ≤ z71.toInt ∧ z71.toInt < 40) ∧ ∀ z72 : Int32, z72 = sI σ15 (L 44) z71.toInt.toNat → ∀ z73 : Int32, z73 = z72 &&& 128 → ((¬ z73.toInt = 0) → K21 () σ15) ∧ ((z73.toInt = 0) → post 3221225506 σ15))) (fun (x19 : Unit) (σ20 : HS) => jn (fun (K26 : Int32 → HS → Prop) => ((¬ x9.toInt = 0) → ((¬ z4.toInt = (4 : Int32).toInt) → ((¬ z4.toInt = (5 : Int32).toInt) → K26 80 σ20) ∧ ((z4.toInt = (5 : Int32).toInt) → K26 24 σ20)) ∧ ((z4.toInt = (4 : Int32).toInt) → K26 40 σ20)) ∧ ((x9.toInt = 0) → K26 24 σ20)) (fun (x24 : Int32) (σ25 : HS) => ∀ z29 : Int64, z29 = (x24 : Int32).toInt64 → ((z29.toInt ≤ z6.toInt) → ∀ z30 : Int32, z30 = 8 + x24 → F_X12_body h0 L z30 (fun (σ31 : HS) => F_X12_set h0 L 64 2 9 (fun (σ33 : HS) => F_X12_set h0 L 66 2 72 (fun (σ35 : HS) => ∀ z37 : Int64, z37 = (x24 : Int32).toInt64 → F_X12_set h0 L 68 4 z37 (fun (σ38 : HS) => jn (fun (K42 : Unit → HS → Prop) => ((¬ x9.toInt = 0) → ((¬ z4.toInt = (5 : Int32).toInt) → F_X12_basic h0 L 72 z8 (fun (σ45 : HS) => ((¬ z4.toInt = (18 : Int32).toInt) → K42 () σ45) ∧ ((z4.toInt = (18 : Int32).toInt) → F_X12_standard h0 L 112 z8 (fun (σ47 : HS) => ∀ z49 : Int64, z49 = (z8 : Int32).toInt64 → F_X12_set h0 L 136 8 z49 (fun (σ50 : HS) => ∀ z52 : Int32, z52 = sI σ50 h0 100 → (0 ≤ z52.toInt ∧ z52.toInt < 40) ∧ ∀ z53 : Int32, z53 = sI σ50 (L 44) z52.toInt.toNat → ∀ z54 : Int64, z54 = (z53 : Int32).toInt64 → F_X12_set h0 L 148 4 z54 (fun (σ55 : HS) => K42 () σ55) σ50) σ47) σ45)) σ38) ∧ ((z4.toInt = (5 : Int32).toInt) → F_X12_standard h0 L 72 z8 (fun (σ57 : HS) => K42 () σ57) σ38)) ∧ ((x9.toInt = 0) → F_X12_set h0 L 72 8 80 (fun (σ59 : HS) => F_X12_nodes h0 L 0 (fun (z62 : Int32) (σ61 : HS) => ∀ z63 : Int32, z63 = 80 - z62 → ∀ z64 : Int64, z64 = (z63 : Int32).toInt64 → F_X12_set h0 L 80 8 z64 (fun (σ65 : HS) => F_X12_set h0 L 88 4 1 (fun (σ67 : HS) => F_X12_set h0 L 92 4 512 (fun (σ69 : HS) => K42 () σ69) σ67) σ65) σ61) σ59) σ38)) (fun (x40 : Unit) (σ41 : HS) => post 0 σ41)) σ35) σ33) σ31) σ25) ∧ ((z6.toInt < z29.toInt) → post 3221225476 σ25)))))) σ3) σ1) σ
theorem dX12_ask_0 : decode cX12_ask 0 = .ok (.aload_n 0, 1) := by decide +kernel
theorem dX12_ask_1 : decode cX12_ask 1 = .ok (.bipush 66, 2) := by decide +kernel
theorem dX12_ask_3 : decode cX12_ask 3 = .ok (.invokevirtual 600, 3) := by decide +kernel
theorem dX12_ask_6 : decode cX12_ask 6 = .ok (.istore_n 1, 1) := by decide +kernel
theorem dX12_ask_7 : decode cX12_ask 7 = .ok (.aload_n 0, 1) := by decide +kernel
theorem dX12_ask_8 : decode cX12_ask 8 = .ok (.bipush 67, 2) := by decide +kernel
theorem dX12_ask_10 : decode cX12_ask 10 = .ok (.invokevirtual 600, 3) := by decide +kernel
theorem dX12_ask_13 : decode cX12_ask 13 = .ok (.istore_n 2, 1) := by decide +kernel
theorem dX12_ask_14 : decode cX12_ask 14 = .ok (.aload_n 0, 1) := by decide +kernel
theorem dX12_ask_15 : decode cX12_ask 15 = .ok (.bipush 68, 2) := by decide +kernel
theorem dX12_ask_17 : decode cX12_ask 17 = .ok (.iconst 4, 1) := by decide +kernel
theorem dX12_ask_18 : decode cX12_ask 18 = .ok (.invokevirtual 364, 3) := by decide +kernel
theorem dX12_ask_21 : decode cX12_ask 21 = .ok (.lstore_n 3, 1) := by decide +kernel
theorem dX12_ask_22 : decode cX12_ask 22 = .ok (.aload_n 0, 1) := by decide +kernel
theorem dX12_ask_23 : decode cX12_ask 23 = .ok (.getfield 145, 3) := by decide +kernel
theorem dX12_ask_26 : decode cX12_ask 26 = .ok (.aload_n 0, 1) := by decide +kernel
theorem dX12_ask_27 : decode cX12_ask 27 = .ok (.getfield 525, 3) := by decide +kernel
theorem dX12_ask_30 : decode cX12_ask 30 = .ok (.iaload, 1) := by decide +kernel
theorem dX12_ask_31 : decode cX12_ask 31 = .ok (.istore 5, 2) := by decide +kernel
theorem dX12_ask_33 : decode cX12_ask 33 = .ok (.iload_n 1, 1) := by decide +kernel
theorem dX12_ask_34 : decode cX12_ask 34 = .ok (.iconst 1, 1) := by decide +kernel
theorem dX12_ask_35 : decode cX12_ask 35 = .ok (.if_icmp .ne 23, 3) := by decide +kernel
theorem dX12_ask_38 : decode cX12_ask 38 = .ok (.iload_n 2, 1) := by decide +kernel
theorem dX12_ask_39 : decode cX12_ask 39 = .ok (.iconst 4, 1) := by decide +kernel
theorem dX12_ask_40 : decode cX12_ask 40 = .ok (.if_icmp .eq 14, 3) := by decide +kernel
theorem dX12_ask_43 : decode cX12_ask 43 = .ok (.iload_n 2, 1) := by decide +kernel
theorem dX12_ask_44 : decode cX12_ask 44 = .ok (.iconst 5, 1) := by decide +kernel
theorem dX12_ask_45 : decode cX12_ask 45 = .ok (.if_icmp .eq 9, 3) := by decide +kernel
theorem dX12_ask_48 : decode cX12_ask 48 = .ok (.iload_n 2, 1) := by decide +kernel
theorem dX12_ask_49 : decode cX12_ask 49 = .ok (.bipush 18, 2) := by decide +kernel
theorem dX12_ask_51 : decode cX12_ask 51 = .ok (.if_icmp .ne 7, 3) := by decide +kernel
theorem dX12_ask_54 : decode cX12_ask 54 = .ok (.iconst 1, 1) := by decide +kernel
theorem dX12_ask_55 : decode cX12_ask 55 = .ok (.goto 4, 3) := by decide +kernel
theorem dX12_ask_58 : decode cX12_ask 58 = .ok (.iconst 0, 1) := by decide +kernel
theorem dX12_ask_59 : decode cX12_ask 59 = .ok (.istore 6, 2) := by decide +kernel
theorem dX12_ask_61 : decode cX12_ask 61 = .ok (.iload 6, 2) := by decide +kernel
theorem dX12_ask_63 : decode cX12_ask 63 = .ok (.ifCond .ne 17, 3) := by decide +kernel
theorem dX12_ask_66 : decode cX12_ask 66 = .ok (.iload_n 1, 1) := by decide +kernel
theorem dX12_ask_67 : decode cX12_ask 67 = .ok (.iconst 2, 1) := by decide +kernel
theorem dX12_ask_68 : decode cX12_ask 68 = .ok (.if_icmp .ne 8, 3) := by decide +kernel
theorem dX12_ask_71 : decode cX12_ask 71 = .ok (.iload_n 2, 1) := by decide +kernel
theorem dX12_ask_72 : decode cX12_ask 72 = .ok (.iconst 3, 1) := by decide +kernel
theorem dX12_ask_73 : decode cX12_ask 73 = .ok (.if_icmp .eq 7, 3) := by decide +kernel
theorem dX12_ask_76 : decode cX12_ask 76 = .ok (.ldc2_w 815, 3) := by decide +kernel
theorem dX12_ask_79 : decode cX12_ask 79 = .ok (.lreturn, 1) := by decide +kernel
theorem dX12_ask_80 : decode cX12_ask 80 = .ok (.iload 6, 2) := by decide +kernel
theorem dX12_ask_82 : decode cX12_ask 82 = .ok (.ifCond .eq 23, 3) := by decide +kernel
theorem dX12_ask_85 : decode cX12_ask 85 = .ok (.aload_n 0, 1) := by decide +kernel
theorem dX12_ask_86 : decode cX12_ask 86 = .ok (.getfield 148, 3) := by decide +kernel
theorem dX12_ask_89 : decode cX12_ask 89 = .ok (.aload_n 0, 1) := by decide +kernel
theorem dX12_ask_90 : decode cX12_ask 90 = .ok (.getfield 525, 3) := by decide +kernel
theorem dX12_ask_93 : decode cX12_ask 93 = .ok (.iaload, 1) := by decide +kernel
theorem dX12_ask_94 : decode cX12_ask 94 = .ok (.sipush 128, 3) := by decide +kernel
theorem dX12_ask_97 : decode cX12_ask 97 = .ok (.iand, 1) := by decide +kernel
theorem dX12_ask_98 : decode cX12_ask 98 = .ok (.ifCond .ne 7, 3) := by decide +kernel
theorem dX12_ask_101 : decode cX12_ask 101 = .ok (.ldc2_w 667, 3) := by decide +kernel
theorem dX12_ask_104 : decode cX12_ask 104 = .ok (.lreturn, 1) := by decide +kernel
theorem dX12_ask_105 : decode cX12_ask 105 = .ok (.iload 6, 2) := by decide +kernel
theorem dX12_ask_107 : decode cX12_ask 107 = .ok (.ifCond .ne 8, 3) := by decide +kernel
theorem dX12_ask_110 : decode cX12_ask 110 = .ok (.bipush 24, 2) := by decide +kernel
theorem dX12_ask_112 : decode cX12_ask 112 = .ok (.goto 25, 3) := by decide +kernel
theorem dX12_ask_115 : decode cX12_ask 115 = .ok (.iload_n 2, 1) := by decide +kernel
theorem dX12_ask_116 : decode cX12_ask 116 = .ok (.iconst 4, 1) := by decide +kernel
theorem dX12_ask_117 : decode cX12_ask 117 = .ok (.if_icmp .ne 8, 3) := by decide +kernel
theorem dX12_ask_120 : decode cX12_ask 120 = .ok (.bipush 40, 2) := by decide +kernel
theorem dX12_ask_122 : decode cX12_ask 122 = .ok (.goto 15, 3) := by decide +kernel
theorem dX12_ask_125 : decode cX12_ask 125 = .ok (.iload_n 2, 1) := by decide +kernel
theorem dX12_ask_126 : decode cX12_ask 126 = .ok (.iconst 5, 1) := by decide +kernel
theorem dX12_ask_127 : decode cX12_ask 127 = .ok (.if_icmp .ne 8, 3) := by decide +kernel
theorem dX12_ask_130 : decode cX12_ask 130 = .ok (.bipush 24, 2) := by decide +kernel
theorem dX12_ask_132 : decode cX12_ask 132 = .ok (.goto 5, 3) := by decide +kernel
theorem dX12_ask_135 : decode cX12_ask 135 = .ok (.bipush 80, 2) := by decide +kernel
theorem dX12_ask_137 : decode cX12_ask 137 = .ok (.istore 7, 2) := by decide +kernel
theorem dX12_ask_139 : decode cX12_ask 139 = .ok (.lload_n 3, 1) := by decide +kernel
theorem dX12_ask_140 : decode cX12_ask 140 = .ok (.iload 7, 2) := by decide +kernel
theorem dX12_ask_142 : decode cX12_ask 142 = .ok (.i2l, 1) := by decide +kernel
theorem dX12_ask_143 : decode cX12_ask 143 = .ok (.lcmp, 1) := by decide +kernel
theorem dX12_ask_144 : decode cX12_ask 144 = .ok (.ifCond .ge 7, 3) := by decide +kernel
theorem dX12_ask_147 : decode cX12_ask 147 = .ok (.ldc2_w 826, 3) := by decide +kernel
theorem dX12_ask_150 : decode cX12_ask 150 = .ok (.lreturn, 1) := by decide +kernel
theorem dX12_ask_151 : decode cX12_ask 151 = .ok (.aload_n 0, 1) := by decide +kernel
theorem dX12_ask_152 : decode cX12_ask 152 = .ok (.bipush 8, 2) := by decide +kernel
theorem dX12_ask_154 : decode cX12_ask 154 = .ok (.iload 7, 2) := by decide +kernel
theorem dX12_ask_156 : decode cX12_ask 156 = .ok (.iadd, 1) := by decide +kernel
theorem dX12_ask_157 : decode cX12_ask 157 = .ok (.invokevirtual 456, 3) := by decide +kernel
theorem dX12_ask_160 : decode cX12_ask 160 = .ok (.aload_n 0, 1) := by decide +kernel
theorem dX12_ask_161 : decode cX12_ask 161 = .ok (.bipush 64, 2) := by decide +kernel
theorem dX12_ask_163 : decode cX12_ask 163 = .ok (.iconst 2, 1) := by decide +kernel
theorem dX12_ask_164 : decode cX12_ask 164 = .ok (.ldc2_w 459, 3) := by decide +kernel
theorem dX12_ask_167 : decode cX12_ask 167 = .ok (.invokevirtual 376, 3) := by decide +kernel
theorem dX12_ask_170 : decode cX12_ask 170 = .ok (.aload_n 0, 1) := by decide +kernel
theorem dX12_ask_171 : decode cX12_ask 171 = .ok (.bipush 66, 2) := by decide +kernel
theorem dX12_ask_173 : decode cX12_ask 173 = .ok (.iconst 2, 1) := by decide +kernel
theorem dX12_ask_174 : decode cX12_ask 174 = .ok (.ldc2_w 609, 3) := by decide +kernel
theorem dX12_ask_177 : decode cX12_ask 177 = .ok (.invokevirtual 376, 3) := by decide +kernel
theorem dX12_ask_180 : decode cX12_ask 180 = .ok (.aload_n 0, 1) := by decide +kernel
theorem dX12_ask_181 : decode cX12_ask 181 = .ok (.bipush 68, 2) := by decide +kernel
theorem dX12_ask_183 : decode cX12_ask 183 = .ok (.iconst 4, 1) := by decide +kernel
theorem dX12_ask_184 : decode cX12_ask 184 = .ok (.iload 7, 2) := by decide +kernel
theorem dX12_ask_186 : decode cX12_ask 186 = .ok (.i2l, 1) := by decide +kernel
theorem dX12_ask_187 : decode cX12_ask 187 = .ok (.invokevirtual 376, 3) := by decide +kernel
theorem dX12_ask_190 : decode cX12_ask 190 = .ok (.iload 6, 2) := by decide +kernel
theorem dX12_ask_192 : decode cX12_ask 192 = .ok (.ifCond .ne 52, 3) := by decide +kernel
theorem dX12_ask_195 : decode cX12_ask 195 = .ok (.aload_n 0, 1) := by decide +kernel
theorem dX12_ask_196 : decode cX12_ask 196 = .ok (.bipush 72, 2) := by decide +kernel
theorem dX12_ask_198 : decode cX12_ask 198 = .ok (.bipush 8, 2) := by decide +kernel
theorem dX12_ask_200 : decode cX12_ask 200 = .ok (.ldc2_w 776, 3) := by decide +kernel
theorem dX12_ask_203 : decode cX12_ask 203 = .ok (.invokevirtual 376, 3) := by decide +kernel
theorem dX12_ask_206 : decode cX12_ask 206 = .ok (.aload_n 0, 1) := by decide +kernel
theorem dX12_ask_207 : decode cX12_ask 207 = .ok (.bipush 80, 2) := by decide +kernel
theorem dX12_ask_209 : decode cX12_ask 209 = .ok (.bipush 8, 2) := by decide +kernel
theorem dX12_ask_211 : decode cX12_ask 211 = .ok (.bipush 80, 2) := by decide +kernel
theorem dX12_ask_213 : decode cX12_ask 213 = .ok (.aload_n 0, 1) := by decide +kernel
theorem dX12_ask_214 : decode cX12_ask 214 = .ok (.iconst 0, 1) := by decide +kernel
theorem dX12_ask_215 : decode cX12_ask 215 = .ok (.invokevirtual 315, 3) := by decide +kernel
theorem dX12_ask_218 : decode cX12_ask 218 = .ok (.isub, 1) := by decide +kernel
theorem dX12_ask_219 : decode cX12_ask 219 = .ok (.i2l, 1) := by decide +kernel
theorem dX12_ask_220 : decode cX12_ask 220 = .ok (.invokevirtual 376, 3) := by decide +kernel
theorem dX12_ask_223 : decode cX12_ask 223 = .ok (.aload_n 0, 1) := by decide +kernel
theorem dX12_ask_224 : decode cX12_ask 224 = .ok (.bipush 88, 2) := by decide +kernel
theorem dX12_ask_226 : decode cX12_ask 226 = .ok (.iconst 4, 1) := by decide +kernel
theorem dX12_ask_227 : decode cX12_ask 227 = .ok (.lconst 1, 1) := by decide +kernel
theorem dX12_ask_228 : decode cX12_ask 228 = .ok (.invokevirtual 376, 3) := by decide +kernel
theorem dX12_ask_231 : decode cX12_ask 231 = .ok (.aload_n 0, 1) := by decide +kernel
theorem dX12_ask_232 : decode cX12_ask 232 = .ok (.bipush 92, 2) := by decide +kernel
theorem dX12_ask_234 : decode cX12_ask 234 = .ok (.iconst 4, 1) := by decide +kernel
theorem dX12_ask_235 : decode cX12_ask 235 = .ok (.ldc2_w 834, 3) := by decide +kernel
theorem dX12_ask_238 : decode cX12_ask 238 = .ok (.invokevirtual 376, 3) := by decide +kernel
theorem dX12_ask_241 : decode cX12_ask 241 = .ok (.goto 71, 3) := by decide +kernel
theorem dX12_ask_244 : decode cX12_ask 244 = .ok (.iload_n 2, 1) := by decide +kernel
theorem dX12_ask_245 : decode cX12_ask 245 = .ok (.iconst 5, 1) := by decide +kernel
theorem dX12_ask_246 : decode cX12_ask 246 = .ok (.if_icmp .ne 14, 3) := by decide +kernel
theorem dX12_ask_249 : decode cX12_ask 249 = .ok (.aload_n 0, 1) := by decide +kernel
theorem dX12_ask_250 : decode cX12_ask 250 = .ok (.bipush 72, 2) := by decide +kernel
theorem dX12_ask_252 : decode cX12_ask 252 = .ok (.iload 5, 2) := by decide +kernel
theorem dX12_ask_254 : decode cX12_ask 254 = .ok (.invokevirtual 836, 3) := by decide +kernel
theorem dX12_ask_257 : decode cX12_ask 257 = .ok (.goto 55, 3) := by decide +kernel
theorem dX12_ask_260 : decode cX12_ask 260 = .ok (.aload_n 0, 1) := by decide +kernel
theorem dX12_ask_261 : decode cX12_ask 261 = .ok (.bipush 72, 2) := by decide +kernel
theorem dX12_ask_263 : decode cX12_ask 263 = .ok (.iload 5, 2) := by decide +kernel
theorem dX12_ask_265 : decode cX12_ask 265 = .ok (.invokevirtual 839, 3) := by decide +kernel
theorem dX12_ask_268 : decode cX12_ask 268 = .ok (.iload_n 2, 1) := by decide +kernel
theorem dX12_ask_269 : decode cX12_ask 269 = .ok (.bipush 18, 2) := by decide +kernel
theorem dX12_ask_271 : decode cX12_ask 271 = .ok (.if_icmp .ne 41, 3) := by decide +kernel
theorem dX12_ask_274 : decode cX12_ask 274 = .ok (.aload_n 0, 1) := by decide +kernel
theorem dX12_ask_275 : decode cX12_ask 275 = .ok (.bipush 112, 2) := by decide +kernel
theorem dX12_ask_277 : decode cX12_ask 277 = .ok (.iload 5, 2) := by decide +kernel
theorem dX12_ask_279 : decode cX12_ask 279 = .ok (.invokevirtual 836, 3) := by decide +kernel
theorem dX12_ask_282 : decode cX12_ask 282 = .ok (.aload_n 0, 1) := by decide +kernel
theorem dX12_ask_283 : decode cX12_ask 283 = .ok (.sipush 136, 3) := by decide +kernel
theorem dX12_ask_286 : decode cX12_ask 286 = .ok (.bipush 8, 2) := by decide +kernel
theorem dX12_ask_288 : decode cX12_ask 288 = .ok (.iload 5, 2) := by decide +kernel
theorem dX12_ask_290 : decode cX12_ask 290 = .ok (.i2l, 1) := by decide +kernel
theorem dX12_ask_291 : decode cX12_ask 291 = .ok (.invokevirtual 376, 3) := by decide +kernel
theorem dX12_ask_294 : decode cX12_ask 294 = .ok (.aload_n 0, 1) := by decide +kernel
theorem dX12_ask_295 : decode cX12_ask 295 = .ok (.sipush 148, 3) := by decide +kernel
theorem dX12_ask_298 : decode cX12_ask 298 = .ok (.iconst 4, 1) := by decide +kernel
theorem dX12_ask_299 : decode cX12_ask 299 = .ok (.aload_n 0, 1) := by decide +kernel
theorem dX12_ask_300 : decode cX12_ask 300 = .ok (.getfield 148, 3) := by decide +kernel
theorem dX12_ask_303 : decode cX12_ask 303 = .ok (.aload_n 0, 1) := by decide +kernel
theorem dX12_ask_304 : decode cX12_ask 304 = .ok (.getfield 525, 3) := by decide +kernel
theorem dX12_ask_307 : decode cX12_ask 307 = .ok (.iaload, 1) := by decide +kernel
theorem dX12_ask_308 : decode cX12_ask 308 = .ok (.i2l, 1) := by decide +kernel
theorem dX12_ask_309 : decode cX12_ask 309 = .ok (.invokevirtual 376, 3) := by decide +kernel
theorem dX12_ask_312 : decode cX12_ask 312 = .ok (.lconst 0, 1) := by decide +kernel
theorem dX12_ask_313 : decode cX12_ask 313 = .ok (.lreturn, 1) := by decide +kernel
set_option maxRecDepth 100000 in
set_option maxHeartbeats 4000000 in
theorem c_X12_ask (l : Launch) (D : va_G) (t : Nat → ClassId) (h0 : Nat) (L : Nat → Nat) (σ : HS) (hM : MdI h0 L σ)  (post : Int64 → HS → Prop) (hw : F_X12_ask h0 L  post σ) (sz : Nat) : RMl l D t yX12_ask cX12_ask 8 (some .long) ({ frames := 3, cells := 0, slots := 0, locals := 70 }) h0 L σ sz [.ref h0] post := by
  refine h_go (τ := τT) okT (by decide) (Nat.le_of_ble_eq_true rfl) ?_
  intro p e s m below meth c ls A hF hr hlk hAe hH0 hA hl
  unfold hB
  rw [hAe]
  clear hAe
  have hF : FX p m c cX12_ask 8 s _ RX12 D t := hF
  have hx := hF.1.1
  have hb := hF.1.2.1
  have hH : RT D t A s.heap h0 L σ s.heap [] := ⟨hH0, hM⟩
  have hl : lv_has ls 8 [(0, .ref h0)] := hl
  unfold F_X12_ask at hw
  refine lv_aload_n hx hb dX12_ask_0 rfl (lv_at hl 0 rfl) ?_
  refine lv_bipush (v := 66) hx hb dX12_ask_1 (by decide) ?_
  refine w_cVi (As := [.int 66]) (rest := []) hF hH hA mv_X12_600 (fun sz => c_X12_number1 l D t h0 L _ hH.2 66 _ hw sz) dX12_ask_3 rfl rfl (by decide) rfl hl.1 (Nat.le_of_ble_eq_true rfl) (by decide) rfl (fun z2 σ1 H locs hw hH => ?_)
  refine lv_istore_n (lv' := [(1, .int z2), (0, .ref h0)]) hx hb dX12_ask_6 rfl hl (by decide) rfl (fun ls hl => ?_)
  refine lv_aload_n hx hb dX12_ask_7 rfl (lv_at hl 1 rfl) ?_
  refine lv_bipush (v := 67) hx hb dX12_ask_8 (by decide) ?_
  refine w_cVi (As := [.int 67]) (rest := []) hF hH hA mv_X12_600 (fun sz => c_X12_number1 l D t h0 L _ hH.2 67 _ hw sz) dX12_ask_10 rfl rfl (by decide) rfl hl.1 (Nat.le_of_ble_eq_true rfl) (by decide) rfl (fun z4 σ3 H locs hw hH => ?_)
  refine lv_istore_n (lv' := [(2, .int z4), (1, .int z2), (0, .ref h0)]) hx hb dX12_ask_13 rfl hl (by decide) rfl (fun ls hl => ?_)
  refine lv_aload_n hx hb dX12_ask_14 rfl (lv_at hl 2 rfl) ?_
  refine lv_bipush (v := 68) hx hb dX12_ask_15 (by decide) ?_
  refine lv_iconst (v := 4) hx hb dX12_ask_17 (by decide) ?_
  refine w_cVl (As := [.int 68, .int 4]) (rest := []) hF hH hA mv_X12_364 (fun sz => c_X12_number l D t h0 L _ hH.2 68 4 _ hw sz) dX12_ask_18 rfl rfl (by decide) rfl hl.1 (Nat.le_of_ble_eq_true rfl) (by decide) rfl (fun z6 σ5 H locs hw hH => ?_)
  refine lv_lstore_n (lv' := [(3, .long z6), (2, .int z4), (1, .int z2), (0, .ref h0)]) hx hb dX12_ask_21 rfl hl (by decide) rfl (fun ls hl => ?_)
  refine lv_aload_n hx hb dX12_ask_22 rfl (lv_at hl 3 rfl) ?_
  refine w_getA 43 hF hH fk_X12_145 dX12_ask_23 (by decide) rfl ?_
  refine lv_aload_n hx hb dX12_ask_26 rfl (lv_at hl 3 rfl) ?_
  refine w_getI hF hH fk_X12_525 dX12_ask_27 hw (fun z7 hw => ?_)
  refine w_iald 43 40 hF hH dX12_ask_30 (by decide) rfl rfl hw (fun z8 hw => ?_)
  refine lv_istore (lv' := [(5, .int z8), (3, .long z6), (2, .int z4), (1, .int z2), (0, .ref h0)]) hx hb dX12_ask_31 hl (by decide) rfl (fun ls hl => ?_)
  refine lv_iload_n hx hb dX12_ask_33 rfl (lv_at hl 3 rfl) ?_
  refine lv_iconst (v := 1) hx hb dX12_ask_34 (by decide) ?_
  obtain ⟨K11, hK12, hw⟩ := jn_open hw
  refine w_join (K := K11) 59 (fun (x9 : Int32) => [(5, .int z8), (3, .long z6), (2, .int z4), (1, .int z2), (0, .ref h0)]) (fun (x9 : Int32) => [.int x9]) hl hH (fun x9 σ10 ls H locs hl hw hH => ?_) (fun jn13 => ?_)
  · have hw := hK12 x9 σ10 hw
    have hl : lv_has ls 8 [(5, .int z8), (3, .long z6), (2, .int z4), (1, .int z2), (0, .ref h0)] := hl
    refine lv_istore (lv' := [(6, .int x9), (5, .int z8), (3, .long z6), (2, .int z4), (1, .int z2), (0, .ref h0)]) hx hb dX12_ask_59 hl (by decide) rfl (fun ls hl => ?_)
    refine lv_iload hx hb dX12_ask_61 (lv_at hl 0 rfl) ?_
    obtain ⟨K16, hK17, hw⟩ := jn_open hw
    refine w_join (K := K16) 80 (fun (x14 : Unit) => [(6, .int x9), (5, .int z8), (3, .long z6), (2, .int z4), (0, .ref h0)]) (fun (x14 : Unit) => []) hl hH (fun x14 σ15 ls H locs hl hw hH => ?_) (fun jn18 => ?_)
    · have hw := hK17 x14 σ15 hw
      have hl : lv_has ls 8 [(6, .int x9), (5, .int z8), (3, .long z6), (2, .int z4), (0, .ref h0)] := hl
      refine lv_iload hx hb dX12_ask_80 (lv_at hl 0 rfl) ?_
      obtain ⟨K21, hK22, hw⟩ := jn_open hw
      refine w_join (K := K21) 105 (fun (x19 : Unit) => [(6, .int x9), (5, .int z8), (3, .long z6), (2, .int z4), (0, .ref h0)]) (fun (x19 : Unit) => []) hl hH (fun x19 σ20 ls H locs hl hw hH => ?_) (fun jn23 => ?_)
      · have hw := hK22 x19 σ20 hw
        have hl : lv_has ls 8 [(6, .int x9), (5, .int z8), (3, .long z6), (2, .int z4), (0, .ref h0)] := hl
        refine lv_iload hx hb dX12_ask_105 (lv_at hl 0 rfl) ?_
        obtain ⟨K26, hK27, hw⟩ := jn_open hw
        refine w_join (K := K26) 137 (fun (x24 : Int32) => [(6, .int x9), (5, .int z8), (3, .long z6), (2, .int z4), (0, .ref h0)]) (fun (x24 : Int32) => [.int x24]) hl hH (fun x24 σ25 ls H locs hl hw hH => ?_) (fun jn28 => ?_)
        · have hw := hK27 x24 σ25 hw
          have hl : lv_has ls 8 [(6, .int x9), (5, .int z8), (3, .long z6), (2, .int z4), (0, .ref h0)] := hl
          refine lv_istore (lv' := [(7, .int x24), (6, .int x9), (5, .int z8), (3, .long z6), (2, .int z4), (0, .ref h0)]) hx hb dX12_ask_137 hl (by decide) rfl (fun ls hl => ?_)
          refine lv_lload_n hx hb dX12_ask_139 rfl (lv_at hl 3 rfl) ?_
          refine lv_iload hx hb dX12_ask_140 (lv_at hl 0 rfl) ?_
          refine lv_i2l hx hb dX12_ask_142 rfl ?_
          refine w_nml hw (fun z29 hw => ?_)
          refine w_lif_ge (tgt := 151) hF dX12_ask_143 dX12_ask_144 rfl hw (fun hw => ?_) (fun hw => ?_)
          · refine lv_aload_n hx hb dX12_ask_151 rfl (lv_at hl 5 rfl) ?_
            refine lv_bipush (v := 8) hx hb dX12_ask_152 (by decide) ?_
            refine lv_iload hx hb dX12_ask_154 (lv_at hl 0 rfl) ?_
            refine lv_iadd hx hb dX12_ask_156 ?_
            refine w_nmi hw (fun z30 hw => ?_)
            refine w_cVv (As := [.int z30]) (rest := []) hF hH hA mv_X12_456 (fun sz => c_X12_body l D t h0 L _ hH.2 z30 _ hw sz) dX12_ask_157 rfl rfl (by decide) rfl hl.1 (Nat.le_of_ble_eq_true rfl) (by decide) rfl (fun σ31 H locs hw hH => ?_)
            refine lv_aload_n hx hb dX12_ask_160 rfl (lv_at hl 5 rfl) ?_
            refine lv_bipush (v := 64) hx hb dX12_ask_161 (by decide) ?_
            refine lv_iconst (v := 2) hx hb dX12_ask_163 (by decide) ?_
            refine lv_ldc2 (v := 9) hx hb hF.1.2.2.2.1 (hF.1.2.2.2.2 _ (wc_47 29 rfl)) dX12_ask_164 ?_
            refine w_cVv (As := [.int 64, .int 2, .long 9]) (rest := []) hF hH hA mv_X12_376 (fun sz => c_X12_set l D t h0 L _ hH.2 64 2 9 _ hw sz) dX12_ask_167 rfl rfl (by decide) rfl hl.1 (Nat.le_of_ble_eq_true rfl) (by decide) rfl (fun σ33 H locs hw hH => ?_)
            refine lv_aload_n hx hb dX12_ask_170 rfl (lv_at hl 5 rfl) ?_
            refine lv_bipush (v := 66) hx hb dX12_ask_171 (by decide) ?_
            refine lv_iconst (v := 2) hx hb dX12_ask_173 (by decide) ?_
            refine lv_ldc2 (v := 72) hx hb hF.1.2.2.2.1 (hF.1.2.2.2.2 _ (wc_53 9 rfl)) dX12_ask_174 ?_
            refine w_cVv (As := [.int 66, .int 2, .long 72]) (rest := []) hF hH hA mv_X12_376 (fun sz => c_X12_set l D t h0 L _ hH.2 66 2 72 _ hw sz) dX12_ask_177 rfl rfl (by decide) rfl hl.1 (Nat.le_of_ble_eq_true rfl) (by decide) rfl (fun σ35 H locs hw hH => ?_)
            refine lv_aload_n hx hb dX12_ask_180 rfl (lv_at hl 5 rfl) ?_
            refine lv_bipush (v := 68) hx hb dX12_ask_181 (by decide) ?_
            refine lv_iconst (v := 4) hx hb dX12_ask_183 (by decide) ?_
            refine lv_iload hx hb dX12_ask_184 (lv_at hl 0 rfl) ?_
            refine lv_i2l hx hb dX12_ask_186 rfl ?_
            refine w_nml hw (fun z37 hw => ?_)
            refine w_cVv (As := [.int 68, .int 4, .long z37]) (rest := []) hF hH hA mv_X12_376 (fun sz => c_X12_set l D t h0 L _ hH.2 68 4 z37 _ hw sz) dX12_ask_187 rfl rfl (by decide) rfl hl.1 (Nat.le_of_ble_eq_true rfl) (by decide) rfl (fun σ38 H locs hw hH => ?_)
            refine lv_iload hx hb dX12_ask_190 (lv_at hl 1 rfl) ?_
            obtain ⟨K42, hK43, hw⟩ := jn_open hw
            refine w_join (K := K42) 312 (fun (x40 : Unit) => []) (fun (x40 : Unit) => []) hl hH (fun x40 σ41 ls H locs hl hw hH => ?_) (fun jn44 => ?_)
            · have hw := hK43 x40 σ41 hw
              have hl : lv_has ls 8 [] := hl
              refine lv_lconst (v := 0) hx hb dX12_ask_312 (by decide) ?_
              exact w_retl hF hH hr hlk dX12_ask_313 hw
            · skip
              refine w_if_ne (tgt := 244) hF dX12_ask_192 rfl hw (fun hw => ?_) (fun hw => ?_)
              · refine lv_iload_n hx hb dX12_ask_244 rfl (lv_at hl 4 rfl) ?_
                refine lv_iconst (v := 5) hx hb dX12_ask_245 (by decide) ?_
                refine w_icmp_ne (tgt := 260) hF dX12_ask_246 rfl hw (fun hw => ?_) (fun hw => ?_)
                · refine lv_aload_n hx hb dX12_ask_260 rfl (lv_at hl 5 rfl) ?_
                  refine lv_bipush (v := 72) hx hb dX12_ask_261 (by decide) ?_
                  refine lv_iload hx hb dX12_ask_263 (lv_at hl 2 rfl) ?_
                  refine w_cVv (As := [.int 72, .int z8]) (rest := []) hF hH hA mv_X12_839 (fun sz => c_X12_basic l D t h0 L _ hH.2 72 z8 _ hw sz) dX12_ask_265 rfl rfl (by decide) rfl hl.1 (Nat.le_of_ble_eq_true rfl) (by decide) rfl (fun σ45 H locs hw hH => ?_)
                  refine lv_iload_n hx hb dX12_ask_268 rfl (lv_at hl 4 rfl) ?_
                  refine lv_bipush (v := 18) hx hb dX12_ask_269 (by decide) ?_
                  refine w_icmp_ne (tgt := 312) hF dX12_ask_271 rfl hw (fun hw => ?_) (fun hw => ?_)
                  · have hl : lv_has ls 8 [] := lv_sub hl [] rfl
                    exact jn44 () σ45 ls _ _ hl hw hH
                  · refine lv_aload_n hx hb dX12_ask_274 rfl (lv_at hl 5 rfl) ?_
                    refine lv_bipush (v := 112) hx hb dX12_ask_275 (by decide) ?_
                    refine lv_iload hx hb dX12_ask_277 (lv_at hl 2 rfl) ?_
                    refine w_cVv (As := [.int 112, .int z8]) (rest := []) hF hH hA mv_X12_836 (fun sz => c_X12_standard l D t h0 L _ hH.2 112 z8 _ hw sz) dX12_ask_279 rfl rfl (by decide) rfl hl.1 (Nat.le_of_ble_eq_true rfl) (by decide) rfl (fun σ47 H locs hw hH => ?_)
                    refine lv_aload_n hx hb dX12_ask_282 rfl (lv_at hl 5 rfl) ?_
                    refine lv_sipush (v := 136) hx hb dX12_ask_283 (by decide) ?_
                    refine lv_bipush (v := 8) hx hb dX12_ask_286 (by decide) ?_
                    refine lv_iload hx hb dX12_ask_288 (lv_at hl 2 rfl) ?_
                    refine lv_i2l hx hb dX12_ask_290 rfl ?_
                    refine w_nml hw (fun z49 hw => ?_)
                    refine w_cVv (As := [.int 136, .int 8, .long z49]) (rest := []) hF hH hA mv_X12_376 (fun sz => c_X12_set l D t h0 L _ hH.2 136 8 z49 _ hw sz) dX12_ask_291 rfl rfl (by decide) rfl hl.1 (Nat.le_of_ble_eq_true rfl) (by decide) rfl (fun σ50 H locs hw hH => ?_)
                    refine lv_aload_n hx hb dX12_ask_294 rfl (lv_at hl 5 rfl) ?_
                    refine lv_sipush (v := 148) hx hb dX12_ask_295 (by decide) ?_
                    refine lv_iconst (v := 4) hx hb dX12_ask_298 (by decide) ?_
                    refine lv_aload_n hx hb dX12_ask_299 rfl (lv_at hl 5 rfl) ?_
                    refine w_getA 44 hF hH fk_X12_148 dX12_ask_300 (by decide) rfl ?_
                    refine lv_aload_n hx hb dX12_ask_303 rfl (lv_at hl 5 rfl) ?_
                    refine w_getI hF hH fk_X12_525 dX12_ask_304 hw (fun z52 hw => ?_)
                    refine w_iald 44 40 hF hH dX12_ask_307 (by decide) rfl rfl hw (fun z53 hw => ?_)
                    refine lv_i2l hx hb dX12_ask_308 rfl ?_
                    refine w_nml hw (fun z54 hw => ?_)
                    refine w_cVv (As := [.int 148, .int 4, .long z54]) (rest := []) hF hH hA mv_X12_376 (fun sz => c_X12_set l D t h0 L _ hH.2 148 4 z54 _ hw sz) dX12_ask_309 rfl rfl (by decide) rfl hl.1 (Nat.le_of_ble_eq_true rfl) (by decide) rfl (fun σ55 H locs hw hH => ?_)
                    have hl : lv_has ls 8 [] := lv_sub hl [] rfl
                    exact jn44 () σ55 ls _ _ hl hw hH
                · refine lv_aload_n hx hb dX12_ask_249 rfl (lv_at hl 5 rfl) ?_
                  refine lv_bipush (v := 72) hx hb dX12_ask_250 (by decide) ?_
                  refine lv_iload hx hb dX12_ask_252 (lv_at hl 2 rfl) ?_
                  refine w_cVv (As := [.int 72, .int z8]) (rest := []) hF hH hA mv_X12_836 (fun sz => c_X12_standard l D t h0 L _ hH.2 72 z8 _ hw sz) dX12_ask_254 rfl rfl (by decide) rfl hl.1 (Nat.le_of_ble_eq_true rfl) (by decide) rfl (fun σ57 H locs hw hH => ?_)
                  refine lv_goto (tgt := 312) hx hb dX12_ask_257 rfl ?_
                  have hl : lv_has ls 8 [] := lv_sub hl [] rfl
                  exact jn44 () σ57 ls _ _ hl hw hH
              · refine lv_aload_n hx hb dX12_ask_195 rfl (lv_at hl 5 rfl) ?_
                refine lv_bipush (v := 72) hx hb dX12_ask_196 (by decide) ?_
                refine lv_bipush (v := 8) hx hb dX12_ask_198 (by decide) ?_
                refine lv_ldc2 (v := 80) hx hb hF.1.2.2.2.1 (hF.1.2.2.2.2 _ (wc_55 18 rfl)) dX12_ask_200 ?_
                refine w_cVv (As := [.int 72, .int 8, .long 80]) (rest := []) hF hH hA mv_X12_376 (fun sz => c_X12_set l D t h0 L _ hH.2 72 8 80 _ hw sz) dX12_ask_203 rfl rfl (by decide) rfl hl.1 (Nat.le_of_ble_eq_true rfl) (by decide) rfl (fun σ59 H locs hw hH => ?_)
                refine lv_aload_n hx hb dX12_ask_206 rfl (lv_at hl 5 rfl) ?_
                refine lv_bipush (v := 80) hx hb dX12_ask_207 (by decide) ?_
                refine lv_bipush (v := 8) hx hb dX12_ask_209 (by decide) ?_
                refine lv_bipush (v := 80) hx hb dX12_ask_211 (by decide) ?_
                refine lv_aload_n hx hb dX12_ask_213 rfl (lv_at hl 5 rfl) ?_
                refine lv_iconst (v := 0) hx hb dX12_ask_214 (by decide) ?_
                refine w_cVi (As := [.int 0]) (rest := [.int 80, .int 8, .int 80, .ref h0]) hF hH hA mv_X12_315 (fun sz => c_X12_nodes l D t h0 L _ hH.2 0 _ hw sz) dX12_ask_215 rfl rfl (by decide) rfl hl.1 (Nat.le_of_ble_eq_true rfl) (by decide) rfl (fun z62 σ61 H locs hw hH => ?_)
                refine lv_isub hx hb dX12_ask_218 ?_
                refine w_nmi hw (fun z63 hw => ?_)
                refine lv_i2l hx hb dX12_ask_219 rfl ?_
                refine w_nml hw (fun z64 hw => ?_)
                refine w_cVv (As := [.int 80, .int 8, .long z64]) (rest := []) hF hH hA mv_X12_376 (fun sz => c_X12_set l D t h0 L _ hH.2 80 8 z64 _ hw sz) dX12_ask_220 rfl rfl (by decide) rfl hl.1 (Nat.le_of_ble_eq_true rfl) (by decide) rfl (fun σ65 H locs hw hH => ?_)
                refine lv_aload_n hx hb dX12_ask_223 rfl (lv_at hl 5 rfl) ?_
                refine lv_bipush (v := 88) hx hb dX12_ask_224 (by decide) ?_
                refine lv_iconst (v := 4) hx hb dX12_ask_226 (by decide) ?_
                refine lv_lconst (v := 1) hx hb dX12_ask_227 (by decide) ?_
                refine w_cVv (As := [.int 88, .int 4, .long 1]) (rest := []) hF hH hA mv_X12_376 (fun sz => c_X12_set l D t h0 L _ hH.2 88 4 1 _ hw sz) dX12_ask_228 rfl rfl (by decide) rfl hl.1 (Nat.le_of_ble_eq_true rfl) (by decide) rfl (fun σ67 H locs hw hH => ?_)
                refine lv_aload_n hx hb dX12_ask_231 rfl (lv_at hl 5 rfl) ?_
                refine lv_bipush (v := 92) hx hb dX12_ask_232 (by decide) ?_
                refine lv_iconst (v := 4) hx hb dX12_ask_234 (by decide) ?_
                refine lv_ldc2 (v := 512) hx hb hF.1.2.2.2.1 (hF.1.2.2.2.2 _ (wc_56 38 rfl)) dX12_ask_235 ?_
                refine w_cVv (As := [.int 92, .int 4, .long 512]) (rest := []) hF hH hA mv_X12_376 (fun sz => c_X12_set l D t h0 L _ hH.2 92 4 512 _ hw sz) dX12_ask_238 rfl rfl (by decide) rfl hl.1 (Nat.le_of_ble_eq_true rfl) (by decide) rfl (fun σ69 H locs hw hH => ?_)
                refine lv_goto (tgt := 312) hx hb dX12_ask_241 rfl ?_
                have hl : lv_has ls 8 [] := lv_sub hl [] rfl
                exact jn44 () σ69 ls _ _ hl hw hH
          · refine lv_ldc2 (v := 3221225476) hx hb hF.1.2.2.2.1 (hF.1.2.2.2.2 _ (wc_56 34 rfl)) dX12_ask_147 ?_
            exact w_retl hF hH hr hlk dX12_ask_150 hw
        · skip
          refine w_if_ne (tgt := 115) hF dX12_ask_107 rfl hw (fun hw => ?_) (fun hw => ?_)
          · refine lv_iload_n hx hb dX12_ask_115 rfl (lv_at hl 3 rfl) ?_
            refine lv_iconst (v := 4) hx hb dX12_ask_116 (by decide) ?_
            refine w_icmp_ne (tgt := 125) hF dX12_ask_117 rfl hw (fun hw => ?_) (fun hw => ?_)
            · refine lv_iload_n hx hb dX12_ask_125 rfl (lv_at hl 3 rfl) ?_
              refine lv_iconst (v := 5) hx hb dX12_ask_126 (by decide) ?_
              refine w_icmp_ne (tgt := 135) hF dX12_ask_127 rfl hw (fun hw => ?_) (fun hw => ?_)
              · refine lv_bipush (v := 80) hx hb dX12_ask_135 (by decide) ?_
                exact jn28 80 σ20 ls _ _ hl hw hH
              · refine lv_bipush (v := 24) hx hb dX12_ask_130 (by decide) ?_
                refine lv_goto (tgt := 137) hx hb dX12_ask_132 rfl ?_
                exact jn28 24 σ20 ls _ _ hl hw hH
            · refine lv_bipush (v := 40) hx hb dX12_ask_120 (by decide) ?_
              refine lv_goto (tgt := 137) hx hb dX12_ask_122 rfl ?_
              exact jn28 40 σ20 ls _ _ hl hw hH
          · refine lv_bipush (v := 24) hx hb dX12_ask_110 (by decide) ?_
            refine lv_goto (tgt := 137) hx hb dX12_ask_112 rfl ?_
            exact jn28 24 σ20 ls _ _ hl hw hH
      · skip
        refine w_if_eq (tgt := 105) hF dX12_ask_82 rfl hw (fun hw => ?_) (fun hw => ?_)
        · exact jn23 () σ15 ls _ _ hl hw hH
        · refine lv_aload_n hx hb dX12_ask_85 rfl (lv_at hl 4 rfl) ?_
          refine w_getA 44 hF hH fk_X12_148 dX12_ask_86 (by decide) rfl ?_
          refine lv_aload_n hx hb dX12_ask_89 rfl (lv_at hl 4 rfl) ?_
          refine w_getI hF hH fk_X12_525 dX12_ask_90 hw (fun z71 hw => ?_)
          refine w_iald 44 40 hF hH dX12_ask_93 (by decide) rfl rfl hw (fun z72 hw => ?_)
          refine lv_sipush (v := 128) hx hb dX12_ask_94 (by decide) ?_
          refine lv_iand hx hb dX12_ask_97 ?_
          refine w_nmi hw (fun z73 hw => ?_)
          refine w_if_ne (tgt := 105) hF dX12_ask_98 rfl hw (fun hw => ?_) (fun hw => ?_)
          · exact jn23 () σ15 ls _ _ hl hw hH
          · refine lv_ldc2 (v := 3221225506) hx hb hF.1.2.2.2.1 (hF.1.2.2.2.2 _ (wc_53 35 rfl)) dX12_ask_101 ?_
            exact w_retl hF hH hr hlk dX12_ask_104 hw
    · skip
      refine w_if_ne (tgt := 80) hF dX12_ask_63 rfl hw (fun hw => ?_) (fun hw => ?_)
      · have hl : lv_has ls 8 [(6, .int x9), (5, .int z8), (3, .long z6), (2, .int z4), (0, .ref h0)] := lv_sub hl [0, 1, 2, 3, 5] rfl
        exact jn18 () σ10 ls _ _ hl hw hH
      · refine lv_iload_n hx hb dX12_ask_66 rfl (lv_at hl 4 rfl) ?_
        refine lv_iconst (v := 2) hx hb dX12_ask_67 (by decide) ?_
        obtain ⟨K76, hK77, hw⟩ := jn_open hw
        refine w_join (K := K76) 76 (fun (x74 : Unit) => []) (fun (x74 : Unit) => []) hl hH (fun x74 σ75 ls H locs hl hw hH => ?_) (fun jn78 => ?_)
        · have hw := hK77 x74 σ75 hw
          have hl : lv_has ls 8 [] := hl
          refine lv_ldc2 (v := 3221225475) hx hb hF.1.2.2.2.1 (hF.1.2.2.2.2 _ (wc_56 24 rfl)) dX12_ask_76 ?_
          exact w_retl hF hH hr hlk dX12_ask_79 hw
        · skip
          refine w_icmp_ne (tgt := 76) hF dX12_ask_68 rfl hw (fun hw => ?_) (fun hw => ?_)
          · have hl : lv_has ls 8 [] := lv_sub hl [] rfl
            exact jn78 () σ10 ls _ _ hl hw hH
          · refine lv_iload_n hx hb dX12_ask_71 rfl (lv_at hl 3 rfl) ?_
            refine lv_iconst (v := 3) hx hb dX12_ask_72 (by decide) ?_
            refine w_icmp_eq (tgt := 80) hF dX12_ask_73 rfl hw (fun hw => ?_) (fun hw => ?_)
            · have hl : lv_has ls 8 [(6, .int x9), (5, .int z8), (3, .long z6), (2, .int z4), (0, .ref h0)] := lv_sub hl [0, 1, 2, 3, 5] rfl
              exact jn18 () σ10 ls _ _ hl hw hH
            · have hl : lv_has ls 8 [] := lv_sub hl [] rfl
              exact jn78 () σ10 ls _ _ hl hw hH
  · skip
    obtain ⟨K81, hK82, hw⟩ := jn_open hw
    refine w_join (K := K81) 58 (fun (x79 : Unit) => [(5, .int z8), (3, .long z6), (2, .int z4), (1, .int z2), (0, .ref h0)]) (fun (x79 : Unit) => []) hl hH (fun x79 σ80 ls H locs hl hw hH => ?_) (fun jn83 => ?_)
    · have hw := hK82 x79 σ80 hw
      have hl : lv_has ls 8 [(5, .int z8), (3, .long z6), (2, .int z4), (1, .int z2), (0, .ref h0)] := hl
      refine lv_iconst (v := 0) hx hb dX12_ask_58 (by decide) ?_
      exact jn13 0 σ80 ls _ _ hl hw hH
    · skip
      refine w_icmp_ne (tgt := 58) hF dX12_ask_35 rfl hw (fun hw => ?_) (fun hw => ?_)
      · exact jn83 () σ5 ls _ _ hl hw hH
      · refine lv_iload_n hx hb dX12_ask_38 rfl (lv_at hl 2 rfl) ?_
        refine lv_iconst (v := 4) hx hb dX12_ask_39 (by decide) ?_
        obtain ⟨K86, hK87, hw⟩ := jn_open hw
        refine w_join (K := K86) 54 (fun (x84 : Unit) => [(5, .int z8), (3, .long z6), (2, .int z4), (1, .int z2), (0, .ref h0)]) (fun (x84 : Unit) => []) hl hH (fun x84 σ85 ls H locs hl hw hH => ?_) (fun jn88 => ?_)
        · have hw := hK87 x84 σ85 hw
          have hl : lv_has ls 8 [(5, .int z8), (3, .long z6), (2, .int z4), (1, .int z2), (0, .ref h0)] := hl
          refine lv_iconst (v := 1) hx hb dX12_ask_54 (by decide) ?_
          refine lv_goto (tgt := 59) hx hb dX12_ask_55 rfl ?_
          exact jn13 1 σ85 ls _ _ hl hw hH
        · skip
          refine w_icmp_eq (tgt := 54) hF dX12_ask_40 rfl hw (fun hw => ?_) (fun hw => ?_)
          · exact jn88 () σ5 ls _ _ hl hw hH
          · refine lv_iload_n hx hb dX12_ask_43 rfl (lv_at hl 2 rfl) ?_
            refine lv_iconst (v := 5) hx hb dX12_ask_44 (by decide) ?_
            refine w_icmp_eq (tgt := 54) hF dX12_ask_45 rfl hw (fun hw => ?_) (fun hw => ?_)
            · exact jn88 () σ5 ls _ _ hl hw hH
            · refine lv_iload_n hx hb dX12_ask_48 rfl (lv_at hl 2 rfl) ?_
              refine lv_bipush (v := 18) hx hb dX12_ask_49 (by decide) ?_
              refine w_icmp_ne (tgt := 58) hF dX12_ask_51 rfl hw (fun hw => ?_) (fun hw => ?_)
              · exact jn83 () σ5 ls _ _ hl hw hH
              · exact jn88 () σ5 ls _ _ hl hw hH
def F_X12_setBasic (h0 : Nat) (L : Nat → Nat) (a1 : Int32) (a2 : Int32) (post : Int64 → HS → Prop) (σ : HS) : Prop := F_X12_record h0 L 3 a1 (fun (z2 : Int32) (σ1 : HS) => lw (fun (K5 : Int32 → HS → Prop) (x3 : Int32) (σ4 : HS) => (((4 : Int32).toInt ≤ x3.toInt) → ∀ z7 : Int32, z7 = a2 + 32 → F_X12_number h0 L z7 4 (fun (z9 : Int64) (σ8 : HS) => jn (fun (K12 : Int32 → HS → Prop) => ((¬ z9.toInt = (0 : Int64).toInt) → ∀ z18 : Int32, z18 = (z9 : Int64).toInt32 → ∀ z19 : Int32, z19 = z18 &&& 39 → K12 z19 σ8) ∧ ((z9.toInt = (0 : Int64).toInt) → (0 ≤ a1.toInt ∧ a1.toInt < 160) ∧ ∀ z20 : Int32, z20 = sI σ8 (L 6) a1.toInt.toNat → K12 z20 σ8)) (fun (x10 : Int32) (σ11 : HS) => (0 ≤ z2.toInt ∧ z2.toInt < 9) ∧ ∀ σ15 : HS, σ15 = h_uI σ11 (L 20) z2.toInt.toNat x10 → F_X12_done h0 L  (fun (σ16 : HS) => post 0 σ16) σ15)) σ4) ∧ ((x3.toInt < (4 : Int32).toInt) → ∀ z21 : Int32, z21 = 8 * x3 → ∀ z22 : Int32, z22 = a2 + z21 → F_X12_number h0 L z22 8 (fun (z24 : Int64) (σ23 : HS) => ∀ z25 : Int32, z25 = 4 * z2 → ∀ z26 : Int32, z26 = z25 + x3 → jn (fun (K29 : Int64 → HS → Prop) => ((z24.toInt = (0 : Int64).toInt) → ((¬ x3.toInt = (3 : Int32).toInt) → ∀ z34 : Int32, z34 = 4 * a1 → ∀ z35 : Int32, z35 = z34 + x3 → (0 ≤ z35.toInt ∧ z35.toInt < 640) ∧ ∀ z36 : Int64, z36 = sJ σ23 (L 7) z35.toInt.toNat → K29 z36 σ23) ∧ ((x3.toInt = (3 : Int32).toInt) → ∀ z37 : Int64, z37 = sJ σ23 h0 2 → K29 z37 σ23)) ∧ ((¬ z24.toInt = (0 : Int64).toInt) → K29 z24 σ23)) (fun (x27 : Int64) (σ28 : HS) => (0 ≤ z26.toInt ∧ z26.toInt < 36) ∧ ∀ σ32 : HS, σ32 = h_uJ σ28 (L 21) z26.toInt.toNat x27 → ∀ z33 : Int32, z33 = x3 + 1 → K5 z33 σ32)) σ4)) 0 σ1) σ
theorem dX12_setBasic_0 : decode cX12_setBasic 0 = .ok (.aload_n 0, 1) := by decide +kernel
theorem dX12_setBasic_1 : decode cX12_setBasic 1 = .ok (.iconst 3, 1) := by decide +kernel
theorem dX12_setBasic_2 : decode cX12_setBasic 2 = .ok (.iload_n 1, 1) := by decide +kernel
theorem dX12_setBasic_3 : decode cX12_setBasic 3 = .ok (.invokevirtual 734, 3) := by decide +kernel
theorem dX12_setBasic_6 : decode cX12_setBasic 6 = .ok (.istore_n 3, 1) := by decide +kernel
theorem dX12_setBasic_7 : decode cX12_setBasic 7 = .ok (.iconst 0, 1) := by decide +kernel
theorem dX12_setBasic_8 : decode cX12_setBasic 8 = .ok (.istore 4, 2) := by decide +kernel
theorem dX12_setBasic_10 : decode cX12_setBasic 10 = .ok (.iload 4, 2) := by decide +kernel
theorem dX12_setBasic_12 : decode cX12_setBasic 12 = .ok (.iconst 4, 1) := by decide +kernel
theorem dX12_setBasic_13 : decode cX12_setBasic 13 = .ok (.if_icmp .ge 71, 3) := by decide +kernel
theorem dX12_setBasic_16 : decode cX12_setBasic 16 = .ok (.aload_n 0, 1) := by decide +kernel
theorem dX12_setBasic_17 : decode cX12_setBasic 17 = .ok (.iload_n 2, 1) := by decide +kernel
theorem dX12_setBasic_18 : decode cX12_setBasic 18 = .ok (.bipush 8, 2) := by decide +kernel
theorem dX12_setBasic_20 : decode cX12_setBasic 20 = .ok (.iload 4, 2) := by decide +kernel
theorem dX12_setBasic_22 : decode cX12_setBasic 22 = .ok (.imul, 1) := by decide +kernel
theorem dX12_setBasic_23 : decode cX12_setBasic 23 = .ok (.iadd, 1) := by decide +kernel
theorem dX12_setBasic_24 : decode cX12_setBasic 24 = .ok (.bipush 8, 2) := by decide +kernel
theorem dX12_setBasic_26 : decode cX12_setBasic 26 = .ok (.invokevirtual 364, 3) := by decide +kernel
theorem dX12_setBasic_29 : decode cX12_setBasic 29 = .ok (.lstore 5, 2) := by decide +kernel
theorem dX12_setBasic_31 : decode cX12_setBasic 31 = .ok (.aload_n 0, 1) := by decide +kernel
theorem dX12_setBasic_32 : decode cX12_setBasic 32 = .ok (.getfield 77, 3) := by decide +kernel
theorem dX12_setBasic_35 : decode cX12_setBasic 35 = .ok (.iconst 4, 1) := by decide +kernel
theorem dX12_setBasic_36 : decode cX12_setBasic 36 = .ok (.iload_n 3, 1) := by decide +kernel
theorem dX12_setBasic_37 : decode cX12_setBasic 37 = .ok (.imul, 1) := by decide +kernel
theorem dX12_setBasic_38 : decode cX12_setBasic 38 = .ok (.iload 4, 2) := by decide +kernel
theorem dX12_setBasic_40 : decode cX12_setBasic 40 = .ok (.iadd, 1) := by decide +kernel
theorem dX12_setBasic_41 : decode cX12_setBasic 41 = .ok (.lload 5, 2) := by decide +kernel
theorem dX12_setBasic_43 : decode cX12_setBasic 43 = .ok (.lconst 0, 1) := by decide +kernel
theorem dX12_setBasic_44 : decode cX12_setBasic 44 = .ok (.lcmp, 1) := by decide +kernel
theorem dX12_setBasic_45 : decode cX12_setBasic 45 = .ok (.ifCond .eq 8, 3) := by decide +kernel
theorem dX12_setBasic_48 : decode cX12_setBasic 48 = .ok (.lload 5, 2) := by decide +kernel
theorem dX12_setBasic_50 : decode cX12_setBasic 50 = .ok (.goto 27, 3) := by decide +kernel
theorem dX12_setBasic_53 : decode cX12_setBasic 53 = .ok (.iload 4, 2) := by decide +kernel
theorem dX12_setBasic_55 : decode cX12_setBasic 55 = .ok (.iconst 3, 1) := by decide +kernel
theorem dX12_setBasic_56 : decode cX12_setBasic 56 = .ok (.if_icmp .ne 10, 3) := by decide +kernel
theorem dX12_setBasic_59 : decode cX12_setBasic 59 = .ok (.aload_n 0, 1) := by decide +kernel
theorem dX12_setBasic_60 : decode cX12_setBasic 60 = .ok (.getfield 322, 3) := by decide +kernel
theorem dX12_setBasic_63 : decode cX12_setBasic 63 = .ok (.goto 14, 3) := by decide +kernel
theorem dX12_setBasic_66 : decode cX12_setBasic 66 = .ok (.aload_n 0, 1) := by decide +kernel
theorem dX12_setBasic_67 : decode cX12_setBasic 67 = .ok (.getfield 33, 3) := by decide +kernel
theorem dX12_setBasic_70 : decode cX12_setBasic 70 = .ok (.iconst 4, 1) := by decide +kernel
theorem dX12_setBasic_71 : decode cX12_setBasic 71 = .ok (.iload_n 1, 1) := by decide +kernel
theorem dX12_setBasic_72 : decode cX12_setBasic 72 = .ok (.imul, 1) := by decide +kernel
theorem dX12_setBasic_73 : decode cX12_setBasic 73 = .ok (.iload 4, 2) := by decide +kernel
theorem dX12_setBasic_75 : decode cX12_setBasic 75 = .ok (.iadd, 1) := by decide +kernel
theorem dX12_setBasic_76 : decode cX12_setBasic 76 = .ok (.laload, 1) := by decide +kernel
theorem dX12_setBasic_77 : decode cX12_setBasic 77 = .ok (.lastore, 1) := by decide +kernel
theorem dX12_setBasic_78 : decode cX12_setBasic 78 = .ok (.iinc 4 1, 3) := by decide +kernel
theorem dX12_setBasic_81 : decode cX12_setBasic 81 = .ok (.goto (-71), 3) := by decide +kernel
theorem dX12_setBasic_84 : decode cX12_setBasic 84 = .ok (.aload_n 0, 1) := by decide +kernel
theorem dX12_setBasic_85 : decode cX12_setBasic 85 = .ok (.iload_n 2, 1) := by decide +kernel
theorem dX12_setBasic_86 : decode cX12_setBasic 86 = .ok (.bipush 32, 2) := by decide +kernel
theorem dX12_setBasic_88 : decode cX12_setBasic 88 = .ok (.iadd, 1) := by decide +kernel
theorem dX12_setBasic_89 : decode cX12_setBasic 89 = .ok (.iconst 4, 1) := by decide +kernel
theorem dX12_setBasic_90 : decode cX12_setBasic 90 = .ok (.invokevirtual 364, 3) := by decide +kernel
theorem dX12_setBasic_93 : decode cX12_setBasic 93 = .ok (.lstore 4, 2) := by decide +kernel
theorem dX12_setBasic_95 : decode cX12_setBasic 95 = .ok (.aload_n 0, 1) := by decide +kernel
theorem dX12_setBasic_96 : decode cX12_setBasic 96 = .ok (.getfield 74, 3) := by decide +kernel
theorem dX12_setBasic_99 : decode cX12_setBasic 99 = .ok (.iload_n 3, 1) := by decide +kernel
theorem dX12_setBasic_100 : decode cX12_setBasic 100 = .ok (.lload 4, 2) := by decide +kernel
theorem dX12_setBasic_102 : decode cX12_setBasic 102 = .ok (.lconst 0, 1) := by decide +kernel
theorem dX12_setBasic_103 : decode cX12_setBasic 103 = .ok (.lcmp, 1) := by decide +kernel
theorem dX12_setBasic_104 : decode cX12_setBasic 104 = .ok (.ifCond .ne 12, 3) := by decide +kernel
theorem dX12_setBasic_107 : decode cX12_setBasic 107 = .ok (.aload_n 0, 1) := by decide +kernel
theorem dX12_setBasic_108 : decode cX12_setBasic 108 = .ok (.getfield 30, 3) := by decide +kernel
theorem dX12_setBasic_111 : decode cX12_setBasic 111 = .ok (.iload_n 1, 1) := by decide +kernel
theorem dX12_setBasic_112 : decode cX12_setBasic 112 = .ok (.iaload, 1) := by decide +kernel
theorem dX12_setBasic_113 : decode cX12_setBasic 113 = .ok (.goto 9, 3) := by decide +kernel
theorem dX12_setBasic_116 : decode cX12_setBasic 116 = .ok (.lload 4, 2) := by decide +kernel
theorem dX12_setBasic_118 : decode cX12_setBasic 118 = .ok (.l2i, 1) := by decide +kernel
theorem dX12_setBasic_119 : decode cX12_setBasic 119 = .ok (.bipush 39, 2) := by decide +kernel
theorem dX12_setBasic_121 : decode cX12_setBasic 121 = .ok (.iand, 1) := by decide +kernel
theorem dX12_setBasic_122 : decode cX12_setBasic 122 = .ok (.iastore, 1) := by decide +kernel
theorem dX12_setBasic_123 : decode cX12_setBasic 123 = .ok (.aload_n 0, 1) := by decide +kernel
theorem dX12_setBasic_124 : decode cX12_setBasic 124 = .ok (.invokevirtual 737, 3) := by decide +kernel
theorem dX12_setBasic_127 : decode cX12_setBasic 127 = .ok (.lconst 0, 1) := by decide +kernel
theorem dX12_setBasic_128 : decode cX12_setBasic 128 = .ok (.lreturn, 1) := by decide +kernel
set_option maxRecDepth 100000 in
set_option maxHeartbeats 4000000 in
theorem c_X12_setBasic (l : Launch) (D : va_G) (t : Nat → ClassId) (h0 : Nat) (L : Nat → Nat) (σ : HS) (hM : MdI h0 L σ) (a1 : Int32) (a2 : Int32) (post : Int64 → HS → Prop) (hw : F_X12_setBasic h0 L a1 a2 post σ) (sz : Nat) : RMl l D t yX12_setBasic cX12_setBasic 7 (some .long) ({ frames := 5, cells := 0, slots := 0, locals := 111 }) h0 L σ sz [.ref h0, .int a1, .int a2] post := by
  refine h_go (τ := τT) okT (by decide) (Nat.le_of_ble_eq_true rfl) ?_
  intro p e s m below meth c ls A hF hr hlk hAe hH0 hA hl
  unfold hB
  rw [hAe]
  clear hAe
  have hF : FX p m c cX12_setBasic 7 s _ RX12 D t := hF
  have hx := hF.1.1
  have hb := hF.1.2.1
  have hH : RT D t A s.heap h0 L σ s.heap [] := ⟨hH0, hM⟩
  have hl : lv_has ls 7 [(0, .ref h0), (1, .int a1), (2, .int a2)] := hl
  unfold F_X12_setBasic at hw
  refine lv_aload_n hx hb dX12_setBasic_0 rfl (lv_at hl 0 rfl) ?_
  refine lv_iconst (v := 3) hx hb dX12_setBasic_1 (by decide) ?_
  refine lv_iload_n hx hb dX12_setBasic_2 rfl (lv_at hl 1 rfl) ?_
  refine w_cVi (As := [.int 3, .int a1]) (rest := []) hF hH hA mv_X12_734 (fun sz => c_X12_record l D t h0 L _ hH.2 3 a1 _ hw sz) dX12_setBasic_3 rfl rfl (by decide) rfl hl.1 (Nat.le_of_ble_eq_true rfl) (by decide) rfl (fun z2 σ1 H locs hw hH => ?_)
  refine lv_istore_n (lv' := [(3, .int z2), (0, .ref h0), (1, .int a1), (2, .int a2)]) hx hb dX12_setBasic_6 rfl hl (by decide) rfl (fun ls hl => ?_)
  refine lv_iconst (v := 0) hx hb dX12_setBasic_7 (by decide) ?_
  refine lv_istore (lv' := [(4, .int 0), (3, .int z2), (0, .ref h0), (1, .int a1), (2, .int a2)]) hx hb dX12_setBasic_8 hl (by decide) rfl (fun ls hl => ?_)
  have hl : lv_has ls 7 [(4, .int 0), (3, .int z2), (2, .int a2), (1, .int a1), (0, .ref h0)] := lv_sub hl [0, 1, 4, 3, 2] rfl
  refine w_loop (β := Int32) (fun x3 => [(4, .int x3), (3, .int z2), (2, .int a2), (1, .int a1), (0, .ref h0)]) 0 hl hw hH (fun K5 x3 σ4 ls H locs hl hw hH ih6 => ?_)
  have hl : lv_has ls 7 [(4, .int x3), (3, .int z2), (2, .int a2), (1, .int a1), (0, .ref h0)] := hl
  refine lv_iload hx hb dX12_setBasic_10 (lv_at hl 0 rfl) ?_
  refine lv_iconst (v := 4) hx hb dX12_setBasic_12 (by decide) ?_
  refine w_icmp_ge (tgt := 84) hF dX12_setBasic_13 rfl hw (fun hw => ?_) (fun hw => ?_)
  · refine lv_aload_n hx hb dX12_setBasic_84 rfl (lv_at hl 4 rfl) ?_
    refine lv_iload_n hx hb dX12_setBasic_85 rfl (lv_at hl 2 rfl) ?_
    refine lv_bipush (v := 32) hx hb dX12_setBasic_86 (by decide) ?_
    refine lv_iadd hx hb dX12_setBasic_88 ?_
    refine w_nmi hw (fun z7 hw => ?_)
    refine lv_iconst (v := 4) hx hb dX12_setBasic_89 (by decide) ?_
    refine w_cVl (As := [.int z7, .int 4]) (rest := []) hF hH hA mv_X12_364 (fun sz => c_X12_number l D t h0 L _ hH.2 z7 4 _ hw sz) dX12_setBasic_90 rfl rfl (by decide) rfl hl.1 (Nat.le_of_ble_eq_true rfl) (by decide) rfl (fun z9 σ8 H locs hw hH => ?_)
    refine lv_lstore (lv' := [(4, .long z9), (3, .int z2), (2, .int a2), (1, .int a1), (0, .ref h0)]) hx hb dX12_setBasic_93 hl (by decide) rfl (fun ls hl => ?_)
    refine lv_aload_n hx hb dX12_setBasic_95 rfl (lv_at hl 4 rfl) ?_
    refine w_getA 20 hF hH fk_X12_74 dX12_setBasic_96 (by decide) rfl ?_
    refine lv_iload_n hx hb dX12_setBasic_99 rfl (lv_at hl 1 rfl) ?_
    refine lv_lload hx hb dX12_setBasic_100 (lv_at hl 0 rfl) ?_
    refine lv_lconst (v := 0) hx hb dX12_setBasic_102 (by decide) ?_
    obtain ⟨K12, hK13, hw⟩ := jn_open hw
    refine w_join (K := K12) 122 (fun (x10 : Int32) => [(0, .ref h0)]) (fun (x10 : Int32) => [.int x10, .int z2, .ref (L 20)]) hl hH (fun x10 σ11 ls H locs hl hw hH => ?_) (fun jn14 => ?_)
    · have hw := hK13 x10 σ11 hw
      have hl : lv_has ls 7 [(0, .ref h0)] := hl
      refine w_iast 20 9 hF hH dX12_setBasic_122 (by decide) rfl rfl hw (fun σ15 H locs hw hH => ?_)
      refine lv_aload_n hx hb dX12_setBasic_123 rfl (lv_at hl 0 rfl) ?_
      refine w_cVv (As := []) (rest := []) hF hH hA mv_X12_737 (fun sz => c_X12_done l D t h0 L _ hH.2  _ hw sz) dX12_setBasic_124 rfl rfl (by decide) rfl hl.1 (Nat.le_of_ble_eq_true rfl) (by decide) rfl (fun σ16 H locs hw hH => ?_)
      refine lv_lconst (v := 0) hx hb dX12_setBasic_127 (by decide) ?_
      exact w_retl hF hH hr hlk dX12_setBasic_128 hw
    · skip
      refine w_lif_ne (tgt := 116) hF dX12_setBasic_103 dX12_setBasic_104 rfl hw (fun hw => ?_) (fun hw => ?_)
      · refine lv_lload hx hb dX12_setBasic_116 (lv_at hl 0 rfl) ?_
        refine lv_l2i hx hb dX12_setBasic_118 rfl ?_
        refine w_nmi hw (fun z18 hw => ?_)
        refine lv_bipush (v := 39) hx hb dX12_setBasic_119 (by decide) ?_
        refine lv_iand hx hb dX12_setBasic_121 ?_
        refine w_nmi hw (fun z19 hw => ?_)
        have hl : lv_has ls 7 [(0, .ref h0)] := lv_sub hl [4] rfl
        exact jn14 z19 σ8 ls _ _ hl hw hH
      · refine lv_aload_n hx hb dX12_setBasic_107 rfl (lv_at hl 4 rfl) ?_
        refine w_getA 6 hF hH fk_X12_30 dX12_setBasic_108 (by decide) rfl ?_
        refine lv_iload_n hx hb dX12_setBasic_111 rfl (lv_at hl 3 rfl) ?_
        refine w_iald 6 160 hF hH dX12_setBasic_112 (by decide) rfl rfl hw (fun z20 hw => ?_)
        refine lv_goto (tgt := 122) hx hb dX12_setBasic_113 rfl ?_
        have hl : lv_has ls 7 [(0, .ref h0)] := lv_sub hl [4] rfl
        exact jn14 z20 σ8 ls _ _ hl hw hH
  · refine lv_aload_n hx hb dX12_setBasic_16 rfl (lv_at hl 4 rfl) ?_
    refine lv_iload_n hx hb dX12_setBasic_17 rfl (lv_at hl 2 rfl) ?_
    refine lv_bipush (v := 8) hx hb dX12_setBasic_18 (by decide) ?_
    refine lv_iload hx hb dX12_setBasic_20 (lv_at hl 0 rfl) ?_
    refine lv_imul hx hb dX12_setBasic_22 ?_
    refine w_nmi hw (fun z21 hw => ?_)
    refine lv_iadd hx hb dX12_setBasic_23 ?_
    refine w_nmi hw (fun z22 hw => ?_)
    refine lv_bipush (v := 8) hx hb dX12_setBasic_24 (by decide) ?_
    refine w_cVl (As := [.int z22, .int 8]) (rest := []) hF hH hA mv_X12_364 (fun sz => c_X12_number l D t h0 L _ hH.2 z22 8 _ hw sz) dX12_setBasic_26 rfl rfl (by decide) rfl hl.1 (Nat.le_of_ble_eq_true rfl) (by decide) rfl (fun z24 σ23 H locs hw hH => ?_)
    refine lv_lstore (lv' := [(5, .long z24), (4, .int x3), (3, .int z2), (2, .int a2), (1, .int a1), (0, .ref h0)]) hx hb dX12_setBasic_29 hl (by decide) rfl (fun ls hl => ?_)
    refine lv_aload_n hx hb dX12_setBasic_31 rfl (lv_at hl 5 rfl) ?_
    refine w_getA 21 hF hH fk_X12_77 dX12_setBasic_32 (by decide) rfl ?_
    refine lv_iconst (v := 4) hx hb dX12_setBasic_35 (by decide) ?_
    refine lv_iload_n hx hb dX12_setBasic_36 rfl (lv_at hl 2 rfl) ?_
    refine lv_imul hx hb dX12_setBasic_37 ?_
    refine w_nmi hw (fun z25 hw => ?_)
    refine lv_iload hx hb dX12_setBasic_38 (lv_at hl 1 rfl) ?_
    refine lv_iadd hx hb dX12_setBasic_40 ?_
    refine w_nmi hw (fun z26 hw => ?_)
    refine lv_lload hx hb dX12_setBasic_41 (lv_at hl 0 rfl) ?_
    refine lv_lconst (v := 0) hx hb dX12_setBasic_43 (by decide) ?_
    obtain ⟨K29, hK30, hw⟩ := jn_open hw
    refine w_join (K := K29) 77 (fun (x27 : Int64) => [(4, .int x3), (3, .int z2), (2, .int a2), (1, .int a1), (0, .ref h0)]) (fun (x27 : Int64) => [.long x27, .int z26, .ref (L 21)]) hl hH (fun x27 σ28 ls H locs hl hw hH => ?_) (fun jn31 => ?_)
    · have hw := hK30 x27 σ28 hw
      have hl : lv_has ls 7 [(4, .int x3), (3, .int z2), (2, .int a2), (1, .int a1), (0, .ref h0)] := hl
      refine w_last 21 36 hF hH dX12_setBasic_77 (by decide) rfl rfl hw (fun σ32 H locs hw hH => ?_)
      obtain ⟨z33, ez33⟩ : ∃ z : Int32, z = x3 + 1 := ⟨_, rfl⟩
      have hw := hw z33 ez33
      refine lv_iinc (lv' := [(4, .int z33), (3, .int z2), (2, .int a2), (1, .int a1), (0, .ref h0)]) (k := 0) (v := z33) hx hb dX12_setBasic_78 hl rfl ez33.symm (by decide) rfl (fun ls hl => ?_)
      refine lv_goto (tgt := 10) hx hb dX12_setBasic_81 rfl ?_
      exact ih6 z33 σ32 ls _ _ hl hw hH
    · skip
      refine w_lif_eq (tgt := 53) hF dX12_setBasic_44 dX12_setBasic_45 rfl hw (fun hw => ?_) (fun hw => ?_)
      · refine lv_iload hx hb dX12_setBasic_53 (lv_at hl 1 rfl) ?_
        refine lv_iconst (v := 3) hx hb dX12_setBasic_55 (by decide) ?_
        refine w_icmp_ne (tgt := 66) hF dX12_setBasic_56 rfl hw (fun hw => ?_) (fun hw => ?_)
        · refine lv_aload_n hx hb dX12_setBasic_66 rfl (lv_at hl 5 rfl) ?_
          refine w_getA 7 hF hH fk_X12_33 dX12_setBasic_67 (by decide) rfl ?_
          refine lv_iconst (v := 4) hx hb dX12_setBasic_70 (by decide) ?_
          refine lv_iload_n hx hb dX12_setBasic_71 rfl (lv_at hl 4 rfl) ?_
          refine lv_imul hx hb dX12_setBasic_72 ?_
          refine w_nmi hw (fun z34 hw => ?_)
          refine lv_iload hx hb dX12_setBasic_73 (lv_at hl 1 rfl) ?_
          refine lv_iadd hx hb dX12_setBasic_75 ?_
          refine w_nmi hw (fun z35 hw => ?_)
          refine w_lald 7 640 hF hH dX12_setBasic_76 (by decide) rfl rfl hw (fun z36 hw => ?_)
          have hl : lv_has ls 7 [(4, .int x3), (3, .int z2), (2, .int a2), (1, .int a1), (0, .ref h0)] := lv_sub hl [1, 2, 3, 4, 5] rfl
          exact jn31 z36 σ23 ls _ _ hl hw hH
        · refine lv_aload_n hx hb dX12_setBasic_59 rfl (lv_at hl 5 rfl) ?_
          refine w_getJ hF hH fk_X12_322 dX12_setBasic_60 hw (fun z37 hw => ?_)
          refine lv_goto (tgt := 77) hx hb dX12_setBasic_63 rfl ?_
          have hl : lv_has ls 7 [(4, .int x3), (3, .int z2), (2, .int a2), (1, .int a1), (0, .ref h0)] := lv_sub hl [1, 2, 3, 4, 5] rfl
          exact jn31 z37 σ23 ls _ _ hl hw hH
      · refine lv_lload hx hb dX12_setBasic_48 (lv_at hl 0 rfl) ?_
        refine lv_goto (tgt := 77) hx hb dX12_setBasic_50 rfl ?_
        have hl : lv_has ls 7 [(4, .int x3), (3, .int z2), (2, .int a2), (1, .int a1), (0, .ref h0)] := lv_sub hl [1, 2, 3, 4, 5] rfl
        exact jn31 z24 σ23 ls _ _ hl hw hH
def F_X12_setSize (h0 : Nat) (L : Nat → Nat) (a1 : Int32) (a2 : Int32) (post : Int64 → HS → Prop) (σ : HS) : Prop := F_X12_number h0 L a2 8 (fun (z2 : Int64) (σ1 : HS) => (0 ≤ a1.toInt ∧ a1.toInt < 160) ∧ ∀ z3 : Int32, z3 = sI σ1 (L 3) a1.toInt.toNat → ((z3.toInt = 0) → F_X12_isLess h0 L 4096 z2 (fun (z5 : Int32) (σ4 : HS) => ((z5.toInt = 0) → (0 ≤ a1.toInt ∧ a1.toInt < 160) ∧ ∀ z6 : Int32, z6 = sI σ4 (L 8) a1.toInt.toNat → ∀ z7 : Int64, z7 = (z6 : Int32).toInt64 → jn (fun (K10 : Int32 → HS → Prop) => ((z2.toInt ≤ z7.toInt) → ∀ z61 : Int32, z61 = (z2 : Int64).toInt32 → K10 z61 σ4) ∧ ((z7.toInt < z2.toInt) → (0 ≤ a1.toInt ∧ a1.toInt < 160) ∧ ∀ z62 : Int32, z62 = sI σ4 (L 8) a1.toInt.toNat → K10 z62 σ4)) (fun (x8 : Int32) (σ9 : HS) => (0 ≤ a1.toInt ∧ a1.toInt < 160) ∧ ∀ z13 : Int32, z13 = sI σ9 (L 8) a1.toInt.toNat → ∀ z14 : Int64, z14 = (z13 : Int32).toInt64 → jn (fun (K17 : Int32 → HS → Prop) => ((z2.toInt ≤ z14.toInt) → (0 ≤ a1.toInt ∧ a1.toInt < 160) ∧ ∀ z59 : Int32, z59 = sI σ9 (L 8) a1.toInt.toNat → K17 z59 σ9) ∧ ((z14.toInt < z2.toInt) → ∀ z60 : Int32, z60 = (z2 : Int64).toInt32 → K17 z60 σ9)) (fun (x15 : Int32) (σ16 : HS) => lw (fun (K22 : Int32 → HS → Prop) (x20 : Int32) (σ21 : HS) => ∀ z24 : Int32, z24 = sI σ21 h0 63 → ((z24.toInt ≤ x20.toInt) → F_X12_record h0 L 2 a1 (fun (z26 : Int32) (σ25 : HS) => ∀ z27 : Int32, z27 = (z2 : Int64).toInt32 → (0 ≤ z26.toInt ∧ z26.toInt < 9) ∧ ∀ σ28 : HS, σ28 = h_uI σ25 (L 22) z26.toInt.toNat z27 → ∀ z29 : Int32, z29 = 4 * z26 → ∀ z30 : Int32, z30 = z29 + 2 → ∀ z31 : Int64, z31 = sJ σ28 h0 2 → (0 ≤ z30.toInt ∧ z30.toInt < 36) ∧ ∀ σ32 : HS, σ32 = h_uJ σ28 (L 21) z30.toInt.toNat z31 → ∀ z33 : Int32, z33 = 4 * z26 → ∀ z34 : Int32, z34 = z33 + 3 → ∀ z35 : Int64, z35 = sJ σ32 h0 2 → (0 ≤ z34.toInt ∧ z34.toInt < 36) ∧ ∀ σ36 : HS, σ36 = h_uJ σ32 (L 21) z34.toInt.toNat z35 → F_X12_done h0 L  (fun (σ37 : HS) => ∀ z39 : Int32, z39 = sI σ37 h0 100 → F_X12_breakSecond h0 L a1 z39 (fun (σ40 : HS) => post 0 σ40) σ37) σ36) σ21) ∧ ((x20.toInt < z24.toInt) → (0 ≤ x20.toInt ∧ x20.toInt < 80) ∧ ∀ z42 : Int32, z42 = sI σ21 (L 57) x20.toInt.toNat → jn (fun (K45 : Unit → HS → Prop) => ((¬ z42.toInt = a1.toInt) → K45 () σ21) ∧ ((z42.toInt = a1.toInt) → (0 ≤ x20.toInt ∧ x20.toInt < 80) ∧ ∀ z49 : Int64, z49 = sJ σ21 (L 56) x20.toInt.toNat → ∀ z50 : Int32, z50 = sI σ21 h0 100 → (0 ≤ z50.toInt ∧ z50.toInt < 40) ∧ ∀ z51 : Int64, z51 = sJ σ21 (L 41) z50.toInt.toNat → ((z49.toInt = z51.toInt) → K45 () σ21) ∧ ((¬ z49.toInt = z51.toInt) → ∀ z52 : Int64, z52 = (x8 : Int32).toInt64 → ∀ z53 : Int32, z53 = x15 - x8 → ∀ z54 : Int64, z54 = (z53 : Int32).toInt64 → (0 ≤ x20.toInt ∧ x20.toInt < 80) ∧ ∀ z55 : Int64, z55 = sJ σ21 (L 58) x20.toInt.toNat → (0 ≤ x20.toInt ∧ x20.toInt < 80) ∧ ∀ z56 : Int64, z56 = sJ σ21 (L 59) x20.toInt.toNat → F_X12_meet h0 L z52 z54 z55 z56 (fun (z58 : Int32) (σ57 : HS) => ((z58.toInt = 0) → K45 () σ57) ∧ ((¬ z58.toInt = 0) → post 3221225556 σ57)) σ21))) (fun (x43 : Unit) (σ44 : HS) => ∀ z48 : Int32, z48 = x20 + 1 → K22 z48 σ44))) 0 σ16))) ∧ ((¬ z5.toInt = 0) → post 3221225599 σ4)) σ1) ∧ ((¬ z3.toInt = 0) → post 3221225658 σ1)) σ
theorem dX12_setSize_0 : decode cX12_setSize 0 = .ok (.aload_n 0, 1) := by decide +kernel
theorem dX12_setSize_1 : decode cX12_setSize 1 = .ok (.iload_n 2, 1) := by decide +kernel
theorem dX12_setSize_2 : decode cX12_setSize 2 = .ok (.bipush 8, 2) := by decide +kernel
theorem dX12_setSize_4 : decode cX12_setSize 4 = .ok (.invokevirtual 364, 3) := by decide +kernel
theorem dX12_setSize_7 : decode cX12_setSize 7 = .ok (.lstore_n 3, 1) := by decide +kernel
theorem dX12_setSize_8 : decode cX12_setSize 8 = .ok (.aload_n 0, 1) := by decide +kernel
theorem dX12_setSize_9 : decode cX12_setSize 9 = .ok (.getfield 21, 3) := by decide +kernel
theorem dX12_setSize_12 : decode cX12_setSize 12 = .ok (.iload_n 1, 1) := by decide +kernel
theorem dX12_setSize_13 : decode cX12_setSize 13 = .ok (.baload, 1) := by decide +kernel
theorem dX12_setSize_14 : decode cX12_setSize 14 = .ok (.ifCond .eq 7, 3) := by decide +kernel
theorem dX12_setSize_17 : decode cX12_setSize 17 = .ok (.ldc2_w 715, 3) := by decide +kernel
theorem dX12_setSize_20 : decode cX12_setSize 20 = .ok (.lreturn, 1) := by decide +kernel
theorem dX12_setSize_21 : decode cX12_setSize 21 = .ok (.ldc2_w 658, 3) := by decide +kernel
theorem dX12_setSize_24 : decode cX12_setSize 24 = .ok (.lload_n 3, 1) := by decide +kernel
theorem dX12_setSize_25 : decode cX12_setSize 25 = .ok (.invokestatic 763, 3) := by decide +kernel
theorem dX12_setSize_28 : decode cX12_setSize 28 = .ok (.ifCond .eq 7, 3) := by decide +kernel
theorem dX12_setSize_31 : decode cX12_setSize 31 = .ok (.ldc2_w 691, 3) := by decide +kernel
theorem dX12_setSize_34 : decode cX12_setSize 34 = .ok (.lreturn, 1) := by decide +kernel
theorem dX12_setSize_35 : decode cX12_setSize 35 = .ok (.aload_n 0, 1) := by decide +kernel
theorem dX12_setSize_36 : decode cX12_setSize 36 = .ok (.getfield 37, 3) := by decide +kernel
theorem dX12_setSize_39 : decode cX12_setSize 39 = .ok (.iload_n 1, 1) := by decide +kernel
theorem dX12_setSize_40 : decode cX12_setSize 40 = .ok (.iaload, 1) := by decide +kernel
theorem dX12_setSize_41 : decode cX12_setSize 41 = .ok (.i2l, 1) := by decide +kernel
theorem dX12_setSize_42 : decode cX12_setSize 42 = .ok (.lload_n 3, 1) := by decide +kernel
theorem dX12_setSize_43 : decode cX12_setSize 43 = .ok (.lcmp, 1) := by decide +kernel
theorem dX12_setSize_44 : decode cX12_setSize 44 = .ok (.ifCond .ge 12, 3) := by decide +kernel
theorem dX12_setSize_47 : decode cX12_setSize 47 = .ok (.aload_n 0, 1) := by decide +kernel
theorem dX12_setSize_48 : decode cX12_setSize 48 = .ok (.getfield 37, 3) := by decide +kernel
theorem dX12_setSize_51 : decode cX12_setSize 51 = .ok (.iload_n 1, 1) := by decide +kernel
theorem dX12_setSize_52 : decode cX12_setSize 52 = .ok (.iaload, 1) := by decide +kernel
theorem dX12_setSize_53 : decode cX12_setSize 53 = .ok (.goto 5, 3) := by decide +kernel
theorem dX12_setSize_56 : decode cX12_setSize 56 = .ok (.lload_n 3, 1) := by decide +kernel
theorem dX12_setSize_57 : decode cX12_setSize 57 = .ok (.l2i, 1) := by decide +kernel
theorem dX12_setSize_58 : decode cX12_setSize 58 = .ok (.istore 5, 2) := by decide +kernel
theorem dX12_setSize_60 : decode cX12_setSize 60 = .ok (.aload_n 0, 1) := by decide +kernel
theorem dX12_setSize_61 : decode cX12_setSize 61 = .ok (.getfield 37, 3) := by decide +kernel
theorem dX12_setSize_64 : decode cX12_setSize 64 = .ok (.iload_n 1, 1) := by decide +kernel
theorem dX12_setSize_65 : decode cX12_setSize 65 = .ok (.iaload, 1) := by decide +kernel
theorem dX12_setSize_66 : decode cX12_setSize 66 = .ok (.i2l, 1) := by decide +kernel
theorem dX12_setSize_67 : decode cX12_setSize 67 = .ok (.lload_n 3, 1) := by decide +kernel
theorem dX12_setSize_68 : decode cX12_setSize 68 = .ok (.lcmp, 1) := by decide +kernel
theorem dX12_setSize_69 : decode cX12_setSize 69 = .ok (.ifCond .ge 8, 3) := by decide +kernel
theorem dX12_setSize_72 : decode cX12_setSize 72 = .ok (.lload_n 3, 1) := by decide +kernel
theorem dX12_setSize_73 : decode cX12_setSize 73 = .ok (.l2i, 1) := by decide +kernel
theorem dX12_setSize_74 : decode cX12_setSize 74 = .ok (.goto 9, 3) := by decide +kernel
theorem dX12_setSize_77 : decode cX12_setSize 77 = .ok (.aload_n 0, 1) := by decide +kernel
theorem dX12_setSize_78 : decode cX12_setSize 78 = .ok (.getfield 37, 3) := by decide +kernel
theorem dX12_setSize_81 : decode cX12_setSize 81 = .ok (.iload_n 1, 1) := by decide +kernel
theorem dX12_setSize_82 : decode cX12_setSize 82 = .ok (.iaload, 1) := by decide +kernel
theorem dX12_setSize_83 : decode cX12_setSize 83 = .ok (.istore 6, 2) := by decide +kernel
theorem dX12_setSize_85 : decode cX12_setSize 85 = .ok (.iconst 0, 1) := by decide +kernel
theorem dX12_setSize_86 : decode cX12_setSize 86 = .ok (.istore 7, 2) := by decide +kernel
theorem dX12_setSize_88 : decode cX12_setSize 88 = .ok (.iload 7, 2) := by decide +kernel
theorem dX12_setSize_90 : decode cX12_setSize 90 = .ok (.aload_n 0, 1) := by decide +kernel
theorem dX12_setSize_91 : decode cX12_setSize 91 = .ok (.getfield 289, 3) := by decide +kernel
theorem dX12_setSize_94 : decode cX12_setSize 94 = .ok (.if_icmp .ge 73, 3) := by decide +kernel
theorem dX12_setSize_97 : decode cX12_setSize 97 = .ok (.aload_n 0, 1) := by decide +kernel
theorem dX12_setSize_98 : decode cX12_setSize 98 = .ok (.getfield 187, 3) := by decide +kernel
theorem dX12_setSize_101 : decode cX12_setSize 101 = .ok (.iload 7, 2) := by decide +kernel
theorem dX12_setSize_103 : decode cX12_setSize 103 = .ok (.iaload, 1) := by decide +kernel
theorem dX12_setSize_104 : decode cX12_setSize 104 = .ok (.iload_n 1, 1) := by decide +kernel
theorem dX12_setSize_105 : decode cX12_setSize 105 = .ok (.if_icmp .ne 56, 3) := by decide +kernel
theorem dX12_setSize_108 : decode cX12_setSize 108 = .ok (.aload_n 0, 1) := by decide +kernel
theorem dX12_setSize_109 : decode cX12_setSize 109 = .ok (.getfield 184, 3) := by decide +kernel
theorem dX12_setSize_112 : decode cX12_setSize 112 = .ok (.iload 7, 2) := by decide +kernel
theorem dX12_setSize_114 : decode cX12_setSize 114 = .ok (.laload, 1) := by decide +kernel
theorem dX12_setSize_115 : decode cX12_setSize 115 = .ok (.aload_n 0, 1) := by decide +kernel
theorem dX12_setSize_116 : decode cX12_setSize 116 = .ok (.getfield 139, 3) := by decide +kernel
theorem dX12_setSize_119 : decode cX12_setSize 119 = .ok (.aload_n 0, 1) := by decide +kernel
theorem dX12_setSize_120 : decode cX12_setSize 120 = .ok (.getfield 525, 3) := by decide +kernel
theorem dX12_setSize_123 : decode cX12_setSize 123 = .ok (.laload, 1) := by decide +kernel
theorem dX12_setSize_124 : decode cX12_setSize 124 = .ok (.lcmp, 1) := by decide +kernel
theorem dX12_setSize_125 : decode cX12_setSize 125 = .ok (.ifCond .eq 36, 3) := by decide +kernel
theorem dX12_setSize_128 : decode cX12_setSize 128 = .ok (.iload 5, 2) := by decide +kernel
theorem dX12_setSize_130 : decode cX12_setSize 130 = .ok (.i2l, 1) := by decide +kernel
theorem dX12_setSize_131 : decode cX12_setSize 131 = .ok (.iload 6, 2) := by decide +kernel
theorem dX12_setSize_133 : decode cX12_setSize 133 = .ok (.iload 5, 2) := by decide +kernel
theorem dX12_setSize_135 : decode cX12_setSize 135 = .ok (.isub, 1) := by decide +kernel
theorem dX12_setSize_136 : decode cX12_setSize 136 = .ok (.i2l, 1) := by decide +kernel
theorem dX12_setSize_137 : decode cX12_setSize 137 = .ok (.aload_n 0, 1) := by decide +kernel
theorem dX12_setSize_138 : decode cX12_setSize 138 = .ok (.getfield 190, 3) := by decide +kernel
theorem dX12_setSize_141 : decode cX12_setSize 141 = .ok (.iload 7, 2) := by decide +kernel
theorem dX12_setSize_143 : decode cX12_setSize 143 = .ok (.laload, 1) := by decide +kernel
theorem dX12_setSize_144 : decode cX12_setSize 144 = .ok (.aload_n 0, 1) := by decide +kernel
theorem dX12_setSize_145 : decode cX12_setSize 145 = .ok (.getfield 193, 3) := by decide +kernel
theorem dX12_setSize_148 : decode cX12_setSize 148 = .ok (.iload 7, 2) := by decide +kernel
theorem dX12_setSize_150 : decode cX12_setSize 150 = .ok (.laload, 1) := by decide +kernel
theorem dX12_setSize_151 : decode cX12_setSize 151 = .ok (.invokestatic 766, 3) := by decide +kernel
theorem dX12_setSize_154 : decode cX12_setSize 154 = .ok (.ifCond .eq 7, 3) := by decide +kernel
theorem dX12_setSize_157 : decode cX12_setSize 157 = .ok (.ldc2_w 770, 3) := by decide +kernel
theorem dX12_setSize_160 : decode cX12_setSize 160 = .ok (.lreturn, 1) := by decide +kernel
theorem dX12_setSize_161 : decode cX12_setSize 161 = .ok (.iinc 7 1, 3) := by decide +kernel
theorem dX12_setSize_164 : decode cX12_setSize 164 = .ok (.goto (-76), 3) := by decide +kernel
theorem dX12_setSize_167 : decode cX12_setSize 167 = .ok (.aload_n 0, 1) := by decide +kernel
theorem dX12_setSize_168 : decode cX12_setSize 168 = .ok (.iconst 2, 1) := by decide +kernel
theorem dX12_setSize_169 : decode cX12_setSize 169 = .ok (.iload_n 1, 1) := by decide +kernel
theorem dX12_setSize_170 : decode cX12_setSize 170 = .ok (.invokevirtual 734, 3) := by decide +kernel
theorem dX12_setSize_173 : decode cX12_setSize 173 = .ok (.istore 7, 2) := by decide +kernel
theorem dX12_setSize_175 : decode cX12_setSize 175 = .ok (.aload_n 0, 1) := by decide +kernel
theorem dX12_setSize_176 : decode cX12_setSize 176 = .ok (.getfield 80, 3) := by decide +kernel
theorem dX12_setSize_179 : decode cX12_setSize 179 = .ok (.iload 7, 2) := by decide +kernel
theorem dX12_setSize_181 : decode cX12_setSize 181 = .ok (.lload_n 3, 1) := by decide +kernel
theorem dX12_setSize_182 : decode cX12_setSize 182 = .ok (.l2i, 1) := by decide +kernel
theorem dX12_setSize_183 : decode cX12_setSize 183 = .ok (.iastore, 1) := by decide +kernel
theorem dX12_setSize_184 : decode cX12_setSize 184 = .ok (.aload_n 0, 1) := by decide +kernel
theorem dX12_setSize_185 : decode cX12_setSize 185 = .ok (.getfield 77, 3) := by decide +kernel
theorem dX12_setSize_188 : decode cX12_setSize 188 = .ok (.iconst 4, 1) := by decide +kernel
theorem dX12_setSize_189 : decode cX12_setSize 189 = .ok (.iload 7, 2) := by decide +kernel
theorem dX12_setSize_191 : decode cX12_setSize 191 = .ok (.imul, 1) := by decide +kernel
theorem dX12_setSize_192 : decode cX12_setSize 192 = .ok (.iconst 2, 1) := by decide +kernel
theorem dX12_setSize_193 : decode cX12_setSize 193 = .ok (.iadd, 1) := by decide +kernel
theorem dX12_setSize_194 : decode cX12_setSize 194 = .ok (.aload_n 0, 1) := by decide +kernel
theorem dX12_setSize_195 : decode cX12_setSize 195 = .ok (.getfield 322, 3) := by decide +kernel
theorem dX12_setSize_198 : decode cX12_setSize 198 = .ok (.lastore, 1) := by decide +kernel
theorem dX12_setSize_199 : decode cX12_setSize 199 = .ok (.aload_n 0, 1) := by decide +kernel
theorem dX12_setSize_200 : decode cX12_setSize 200 = .ok (.getfield 77, 3) := by decide +kernel
theorem dX12_setSize_203 : decode cX12_setSize 203 = .ok (.iconst 4, 1) := by decide +kernel
theorem dX12_setSize_204 : decode cX12_setSize 204 = .ok (.iload 7, 2) := by decide +kernel
theorem dX12_setSize_206 : decode cX12_setSize 206 = .ok (.imul, 1) := by decide +kernel
theorem dX12_setSize_207 : decode cX12_setSize 207 = .ok (.iconst 3, 1) := by decide +kernel
theorem dX12_setSize_208 : decode cX12_setSize 208 = .ok (.iadd, 1) := by decide +kernel
theorem dX12_setSize_209 : decode cX12_setSize 209 = .ok (.aload_n 0, 1) := by decide +kernel
theorem dX12_setSize_210 : decode cX12_setSize 210 = .ok (.getfield 322, 3) := by decide +kernel
theorem dX12_setSize_213 : decode cX12_setSize 213 = .ok (.lastore, 1) := by decide +kernel
theorem dX12_setSize_214 : decode cX12_setSize 214 = .ok (.aload_n 0, 1) := by decide +kernel
theorem dX12_setSize_215 : decode cX12_setSize 215 = .ok (.invokevirtual 737, 3) := by decide +kernel
theorem dX12_setSize_218 : decode cX12_setSize 218 = .ok (.aload_n 0, 1) := by decide +kernel
theorem dX12_setSize_219 : decode cX12_setSize 219 = .ok (.iload_n 1, 1) := by decide +kernel
theorem dX12_setSize_220 : decode cX12_setSize 220 = .ok (.aload_n 0, 1) := by decide +kernel
theorem dX12_setSize_221 : decode cX12_setSize 221 = .ok (.getfield 525, 3) := by decide +kernel
theorem dX12_setSize_224 : decode cX12_setSize 224 = .ok (.invokevirtual 740, 3) := by decide +kernel
theorem dX12_setSize_227 : decode cX12_setSize 227 = .ok (.lconst 0, 1) := by decide +kernel
theorem dX12_setSize_228 : decode cX12_setSize 228 = .ok (.lreturn, 1) := by decide +kernel
set_option maxRecDepth 100000 in
set_option maxHeartbeats 4000000 in
theorem c_X12_setSize (l : Launch) (D : va_G) (t : Nat → ClassId) (h0 : Nat) (L : Nat → Nat) (σ : HS) (hM : MdI h0 L σ) (a1 : Int32) (a2 : Int32) (post : Int64 → HS → Prop) (hw : F_X12_setSize h0 L a1 a2 post σ) (sz : Nat) : RMl l D t yX12_setSize cX12_setSize 8 (some .long) ({ frames := 5, cells := 0, slots := 0, locals := 112 }) h0 L σ sz [.ref h0, .int a1, .int a2] post := by
  refine h_go (τ := τT) okT (by decide) (Nat.le_of_ble_eq_true rfl) ?_
  intro p e s m below meth c ls A hF hr hlk hAe hH0 hA hl
  unfold hB
  rw [hAe]
  clear hAe
  have hF : FX p m c cX12_setSize 8 s _ RX12 D t := hF
  have hx := hF.1.1
  have hb := hF.1.2.1
  have hH : RT D t A s.heap h0 L σ s.heap [] := ⟨hH0, hM⟩
  have hl : lv_has ls 8 [(0, .ref h0), (1, .int a1), (2, .int a2)] := hl
  unfold F_X12_setSize at hw
  refine lv_aload_n hx hb dX12_setSize_0 rfl (lv_at hl 0 rfl) ?_
  refine lv_iload_n hx hb dX12_setSize_1 rfl (lv_at hl 2 rfl) ?_
  refine lv_bipush (v := 8) hx hb dX12_setSize_2 (by decide) ?_
  refine w_cVl (As := [.int a2, .int 8]) (rest := []) hF hH hA mv_X12_364 (fun sz => c_X12_number l D t h0 L _ hH.2 a2 8 _ hw sz) dX12_setSize_4 rfl rfl (by decide) rfl hl.1 (Nat.le_of_ble_eq_true rfl) (by decide) rfl (fun z2 σ1 H locs hw hH => ?_)
  refine lv_lstore_n (lv' := [(3, .long z2), (0, .ref h0), (1, .int a1), (2, .int a2)]) hx hb dX12_setSize_7 rfl hl (by decide) rfl (fun ls hl => ?_)
  refine lv_aload_n hx hb dX12_setSize_8 rfl (lv_at hl 1 rfl) ?_
  refine w_getA 3 hF hH fk_X12_21 dX12_setSize_9 (by decide) rfl ?_
  refine lv_iload_n hx hb dX12_setSize_12 rfl (lv_at hl 2 rfl) ?_
  refine w_zald 3 160 hF hH dX12_setSize_13 (by decide) rfl rfl hw (fun z3 hw => ?_)
  refine w_if_eq (tgt := 21) hF dX12_setSize_14 rfl hw (fun hw => ?_) (fun hw => ?_)
  · refine lv_ldc2 (v := 4096) hx hb hF.1.2.2.2.1 (hF.1.2.2.2.2 _ (wc_48 13 rfl)) dX12_setSize_21 ?_
    refine lv_lload_n hx hb dX12_setSize_24 rfl (lv_at hl 0 rfl) ?_
    refine w_cSi (As := [.long 4096, .long z2]) (rest := []) hF hH hA ms_X12_763 (fun sz => c_X12_isLess l D t h0 L _ hH.2 4096 z2 _ hw sz) dX12_setSize_25 rfl rfl (by decide) rfl hl.1 (Nat.le_of_ble_eq_true rfl) (by decide) rfl (fun z5 σ4 H locs hw hH => ?_)
    refine w_if_eq (tgt := 35) hF dX12_setSize_28 rfl hw (fun hw => ?_) (fun hw => ?_)
    · refine lv_aload_n hx hb dX12_setSize_35 rfl (lv_at hl 1 rfl) ?_
      refine w_getA 8 hF hH fk_X12_37 dX12_setSize_36 (by decide) rfl ?_
      refine lv_iload_n hx hb dX12_setSize_39 rfl (lv_at hl 2 rfl) ?_
      refine w_iald 8 160 hF hH dX12_setSize_40 (by decide) rfl rfl hw (fun z6 hw => ?_)
      refine lv_i2l hx hb dX12_setSize_41 rfl ?_
      refine w_nml hw (fun z7 hw => ?_)
      refine lv_lload_n hx hb dX12_setSize_42 rfl (lv_at hl 0 rfl) ?_
      obtain ⟨K10, hK11, hw⟩ := jn_open hw
      refine w_join (K := K10) 58 (fun (x8 : Int32) => [(3, .long z2), (1, .int a1), (0, .ref h0)]) (fun (x8 : Int32) => [.int x8]) hl hH (fun x8 σ9 ls H locs hl hw hH => ?_) (fun jn12 => ?_)
      · have hw := hK11 x8 σ9 hw
        have hl : lv_has ls 8 [(3, .long z2), (1, .int a1), (0, .ref h0)] := hl
        refine lv_istore (lv' := [(5, .int x8), (3, .long z2), (1, .int a1), (0, .ref h0)]) hx hb dX12_setSize_58 hl (by decide) rfl (fun ls hl => ?_)
        refine lv_aload_n hx hb dX12_setSize_60 rfl (lv_at hl 3 rfl) ?_
        refine w_getA 8 hF hH fk_X12_37 dX12_setSize_61 (by decide) rfl ?_
        refine lv_iload_n hx hb dX12_setSize_64 rfl (lv_at hl 2 rfl) ?_
        refine w_iald 8 160 hF hH dX12_setSize_65 (by decide) rfl rfl hw (fun z13 hw => ?_)
        refine lv_i2l hx hb dX12_setSize_66 rfl ?_
        refine w_nml hw (fun z14 hw => ?_)
        refine lv_lload_n hx hb dX12_setSize_67 rfl (lv_at hl 1 rfl) ?_
        obtain ⟨K17, hK18, hw⟩ := jn_open hw
        refine w_join (K := K17) 83 (fun (x15 : Int32) => [(5, .int x8), (3, .long z2), (1, .int a1), (0, .ref h0)]) (fun (x15 : Int32) => [.int x15]) hl hH (fun x15 σ16 ls H locs hl hw hH => ?_) (fun jn19 => ?_)
        · have hw := hK18 x15 σ16 hw
          have hl : lv_has ls 8 [(5, .int x8), (3, .long z2), (1, .int a1), (0, .ref h0)] := hl
          refine lv_istore (lv' := [(6, .int x15), (5, .int x8), (3, .long z2), (1, .int a1), (0, .ref h0)]) hx hb dX12_setSize_83 hl (by decide) rfl (fun ls hl => ?_)
          refine lv_iconst (v := 0) hx hb dX12_setSize_85 (by decide) ?_
          refine lv_istore (lv' := [(7, .int 0), (6, .int x15), (5, .int x8), (3, .long z2), (1, .int a1), (0, .ref h0)]) hx hb dX12_setSize_86 hl (by decide) rfl (fun ls hl => ?_)
          refine w_loop (β := Int32) (fun x20 => [(7, .int x20), (6, .int x15), (5, .int x8), (3, .long z2), (1, .int a1), (0, .ref h0)]) 0 hl hw hH (fun K22 x20 σ21 ls H locs hl hw hH ih23 => ?_)
          have hl : lv_has ls 8 [(7, .int x20), (6, .int x15), (5, .int x8), (3, .long z2), (1, .int a1), (0, .ref h0)] := hl
          refine lv_iload hx hb dX12_setSize_88 (lv_at hl 0 rfl) ?_
          refine lv_aload_n hx hb dX12_setSize_90 rfl (lv_at hl 5 rfl) ?_
          refine w_getI hF hH fk_X12_289 dX12_setSize_91 hw (fun z24 hw => ?_)
          refine w_icmp_ge (tgt := 167) hF dX12_setSize_94 rfl hw (fun hw => ?_) (fun hw => ?_)
          · refine lv_aload_n hx hb dX12_setSize_167 rfl (lv_at hl 5 rfl) ?_
            refine lv_iconst (v := 2) hx hb dX12_setSize_168 (by decide) ?_
            refine lv_iload_n hx hb dX12_setSize_169 rfl (lv_at hl 4 rfl) ?_
            refine w_cVi (As := [.int 2, .int a1]) (rest := []) hF hH hA mv_X12_734 (fun sz => c_X12_record l D t h0 L _ hH.2 2 a1 _ hw sz) dX12_setSize_170 rfl rfl (by decide) rfl hl.1 (Nat.le_of_ble_eq_true rfl) (by decide) rfl (fun z26 σ25 H locs hw hH => ?_)
            refine lv_istore (lv' := [(7, .int z26), (6, .int x15), (5, .int x8), (3, .long z2), (1, .int a1), (0, .ref h0)]) hx hb dX12_setSize_173 hl (by decide) rfl (fun ls hl => ?_)
            refine lv_aload_n hx hb dX12_setSize_175 rfl (lv_at hl 5 rfl) ?_
            refine w_getA 22 hF hH fk_X12_80 dX12_setSize_176 (by decide) rfl ?_
            refine lv_iload hx hb dX12_setSize_179 (lv_at hl 0 rfl) ?_
            refine lv_lload_n hx hb dX12_setSize_181 rfl (lv_at hl 3 rfl) ?_
            refine lv_l2i hx hb dX12_setSize_182 rfl ?_
            refine w_nmi hw (fun z27 hw => ?_)
            refine w_iast 22 9 hF hH dX12_setSize_183 (by decide) rfl rfl hw (fun σ28 H locs hw hH => ?_)
            refine lv_aload_n hx hb dX12_setSize_184 rfl (lv_at hl 5 rfl) ?_
            refine w_getA 21 hF hH fk_X12_77 dX12_setSize_185 (by decide) rfl ?_
            refine lv_iconst (v := 4) hx hb dX12_setSize_188 (by decide) ?_
            refine lv_iload hx hb dX12_setSize_189 (lv_at hl 0 rfl) ?_
            refine lv_imul hx hb dX12_setSize_191 ?_
            refine w_nmi hw (fun z29 hw => ?_)
            refine lv_iconst (v := 2) hx hb dX12_setSize_192 (by decide) ?_
            refine lv_iadd hx hb dX12_setSize_193 ?_
            refine w_nmi hw (fun z30 hw => ?_)
            refine lv_aload_n hx hb dX12_setSize_194 rfl (lv_at hl 5 rfl) ?_
            refine w_getJ hF hH fk_X12_322 dX12_setSize_195 hw (fun z31 hw => ?_)
            refine w_last 21 36 hF hH dX12_setSize_198 (by decide) rfl rfl hw (fun σ32 H locs hw hH => ?_)
            refine lv_aload_n hx hb dX12_setSize_199 rfl (lv_at hl 5 rfl) ?_
            refine w_getA 21 hF hH fk_X12_77 dX12_setSize_200 (by decide) rfl ?_
            refine lv_iconst (v := 4) hx hb dX12_setSize_203 (by decide) ?_
            refine lv_iload hx hb dX12_setSize_204 (lv_at hl 0 rfl) ?_
            refine lv_imul hx hb dX12_setSize_206 ?_
            refine w_nmi hw (fun z33 hw => ?_)
            refine lv_iconst (v := 3) hx hb dX12_setSize_207 (by decide) ?_
            refine lv_iadd hx hb dX12_setSize_208 ?_
            refine w_nmi hw (fun z34 hw => ?_)
            refine lv_aload_n hx hb dX12_setSize_209 rfl (lv_at hl 5 rfl) ?_
            refine w_getJ hF hH fk_X12_322 dX12_setSize_210 hw (fun z35 hw => ?_)
            refine w_last 21 36 hF hH dX12_setSize_213 (by decide) rfl rfl hw (fun σ36 H locs hw hH => ?_)
            refine lv_aload_n hx hb dX12_setSize_214 rfl (lv_at hl 5 rfl) ?_
            refine w_cVv (As := []) (rest := []) hF hH hA mv_X12_737 (fun sz => c_X12_done l D t h0 L _ hH.2  _ hw sz) dX12_setSize_215 rfl rfl (by decide) rfl hl.1 (Nat.le_of_ble_eq_true rfl) (by decide) rfl (fun σ37 H locs hw hH => ?_)
            refine lv_aload_n hx hb dX12_setSize_218 rfl (lv_at hl 5 rfl) ?_
            refine lv_iload_n hx hb dX12_setSize_219 rfl (lv_at hl 4 rfl) ?_
            refine lv_aload_n hx hb dX12_setSize_220 rfl (lv_at hl 5 rfl) ?_
            refine w_getI hF hH fk_X12_525 dX12_setSize_221 hw (fun z39 hw => ?_)
            refine w_cVv (As := [.int a1, .int z39]) (rest := []) hF hH hA mv_X12_740 (fun sz => c_X12_breakSecond l D t h0 L _ hH.2 a1 z39 _ hw sz) dX12_setSize_224 rfl rfl (by decide) rfl hl.1 (Nat.le_of_ble_eq_true rfl) (by decide) rfl (fun σ40 H locs hw hH => ?_)
            refine lv_lconst (v := 0) hx hb dX12_setSize_227 (by decide) ?_
            exact w_retl hF hH hr hlk dX12_setSize_228 hw
          · refine lv_aload_n hx hb dX12_setSize_97 rfl (lv_at hl 5 rfl) ?_
            refine w_getA 57 hF hH fk_X12_187 dX12_setSize_98 (by decide) rfl ?_
            refine lv_iload hx hb dX12_setSize_101 (lv_at hl 0 rfl) ?_
            refine w_iald 57 80 hF hH dX12_setSize_103 (by decide) rfl rfl hw (fun z42 hw => ?_)
            refine lv_iload_n hx hb dX12_setSize_104 rfl (lv_at hl 4 rfl) ?_
            obtain ⟨K45, hK46, hw⟩ := jn_open hw
            refine w_join (K := K45) 161 (fun (x43 : Unit) => [(7, .int x20), (6, .int x15), (5, .int x8), (3, .long z2), (1, .int a1), (0, .ref h0)]) (fun (x43 : Unit) => []) hl hH (fun x43 σ44 ls H locs hl hw hH => ?_) (fun jn47 => ?_)
            · have hw := hK46 x43 σ44 hw
              have hl : lv_has ls 8 [(7, .int x20), (6, .int x15), (5, .int x8), (3, .long z2), (1, .int a1), (0, .ref h0)] := hl
              obtain ⟨z48, ez48⟩ : ∃ z : Int32, z = x20 + 1 := ⟨_, rfl⟩
              have hw := hw z48 ez48
              refine lv_iinc (lv' := [(7, .int z48), (6, .int x15), (5, .int x8), (3, .long z2), (1, .int a1), (0, .ref h0)]) (k := 0) (v := z48) hx hb dX12_setSize_161 hl rfl ez48.symm (by decide) rfl (fun ls hl => ?_)
              refine lv_goto (tgt := 88) hx hb dX12_setSize_164 rfl ?_
              exact ih23 z48 σ44 ls _ _ hl hw hH
            · skip
              refine w_icmp_ne (tgt := 161) hF dX12_setSize_105 rfl hw (fun hw => ?_) (fun hw => ?_)
              · exact jn47 () σ21 ls _ _ hl hw hH
              · refine lv_aload_n hx hb dX12_setSize_108 rfl (lv_at hl 5 rfl) ?_
                refine w_getA 56 hF hH fk_X12_184 dX12_setSize_109 (by decide) rfl ?_
                refine lv_iload hx hb dX12_setSize_112 (lv_at hl 0 rfl) ?_
                refine w_lald 56 80 hF hH dX12_setSize_114 (by decide) rfl rfl hw (fun z49 hw => ?_)
                refine lv_aload_n hx hb dX12_setSize_115 rfl (lv_at hl 5 rfl) ?_
                refine w_getA 41 hF hH fk_X12_139 dX12_setSize_116 (by decide) rfl ?_
                refine lv_aload_n hx hb dX12_setSize_119 rfl (lv_at hl 5 rfl) ?_
                refine w_getI hF hH fk_X12_525 dX12_setSize_120 hw (fun z50 hw => ?_)
                refine w_lald 41 40 hF hH dX12_setSize_123 (by decide) rfl rfl hw (fun z51 hw => ?_)
                refine w_lif_eq (tgt := 161) hF dX12_setSize_124 dX12_setSize_125 rfl hw (fun hw => ?_) (fun hw => ?_)
                · exact jn47 () σ21 ls _ _ hl hw hH
                · refine lv_iload hx hb dX12_setSize_128 (lv_at hl 2 rfl) ?_
                  refine lv_i2l hx hb dX12_setSize_130 rfl ?_
                  refine w_nml hw (fun z52 hw => ?_)
                  refine lv_iload hx hb dX12_setSize_131 (lv_at hl 1 rfl) ?_
                  refine lv_iload hx hb dX12_setSize_133 (lv_at hl 2 rfl) ?_
                  refine lv_isub hx hb dX12_setSize_135 ?_
                  refine w_nmi hw (fun z53 hw => ?_)
                  refine lv_i2l hx hb dX12_setSize_136 rfl ?_
                  refine w_nml hw (fun z54 hw => ?_)
                  refine lv_aload_n hx hb dX12_setSize_137 rfl (lv_at hl 5 rfl) ?_
                  refine w_getA 58 hF hH fk_X12_190 dX12_setSize_138 (by decide) rfl ?_
                  refine lv_iload hx hb dX12_setSize_141 (lv_at hl 0 rfl) ?_
                  refine w_lald 58 80 hF hH dX12_setSize_143 (by decide) rfl rfl hw (fun z55 hw => ?_)
                  refine lv_aload_n hx hb dX12_setSize_144 rfl (lv_at hl 5 rfl) ?_
                  refine w_getA 59 hF hH fk_X12_193 dX12_setSize_145 (by decide) rfl ?_
                  refine lv_iload hx hb dX12_setSize_148 (lv_at hl 0 rfl) ?_
                  refine w_lald 59 80 hF hH dX12_setSize_150 (by decide) rfl rfl hw (fun z56 hw => ?_)
                  refine w_cSi (As := [.long z52, .long z54, .long z55, .long z56]) (rest := []) hF hH hA ms_X12_766 (fun sz => c_X12_meet l D t h0 L _ hH.2 z52 z54 z55 z56 _ hw sz) dX12_setSize_151 rfl rfl (by decide) rfl hl.1 (Nat.le_of_ble_eq_true rfl) (by decide) rfl (fun z58 σ57 H locs hw hH => ?_)
                  refine w_if_eq (tgt := 161) hF dX12_setSize_154 rfl hw (fun hw => ?_) (fun hw => ?_)
                  · exact jn47 () σ57 ls _ _ hl hw hH
                  · refine lv_ldc2 (v := 3221225556) hx hb hF.1.2.2.2.1 (hF.1.2.2.2.2 _ (wc_55 15 rfl)) dX12_setSize_157 ?_
                    exact w_retl hF hH hr hlk dX12_setSize_160 hw
        · skip
          refine w_lif_ge (tgt := 77) hF dX12_setSize_68 dX12_setSize_69 rfl hw (fun hw => ?_) (fun hw => ?_)
          · refine lv_aload_n hx hb dX12_setSize_77 rfl (lv_at hl 3 rfl) ?_
            refine w_getA 8 hF hH fk_X12_37 dX12_setSize_78 (by decide) rfl ?_
            refine lv_iload_n hx hb dX12_setSize_81 rfl (lv_at hl 2 rfl) ?_
            refine w_iald 8 160 hF hH dX12_setSize_82 (by decide) rfl rfl hw (fun z59 hw => ?_)
            exact jn19 z59 σ9 ls _ _ hl hw hH
          · refine lv_lload_n hx hb dX12_setSize_72 rfl (lv_at hl 1 rfl) ?_
            refine lv_l2i hx hb dX12_setSize_73 rfl ?_
            refine w_nmi hw (fun z60 hw => ?_)
            refine lv_goto (tgt := 83) hx hb dX12_setSize_74 rfl ?_
            exact jn19 z60 σ9 ls _ _ hl hw hH
      · skip
        refine w_lif_ge (tgt := 56) hF dX12_setSize_43 dX12_setSize_44 rfl hw (fun hw => ?_) (fun hw => ?_)
        · refine lv_lload_n hx hb dX12_setSize_56 rfl (lv_at hl 0 rfl) ?_
          refine lv_l2i hx hb dX12_setSize_57 rfl ?_
          refine w_nmi hw (fun z61 hw => ?_)
          have hl : lv_has ls 8 [(3, .long z2), (1, .int a1), (0, .ref h0)] := lv_sub hl [0, 2, 1] rfl
          exact jn12 z61 σ4 ls _ _ hl hw hH
        · refine lv_aload_n hx hb dX12_setSize_47 rfl (lv_at hl 1 rfl) ?_
          refine w_getA 8 hF hH fk_X12_37 dX12_setSize_48 (by decide) rfl ?_
          refine lv_iload_n hx hb dX12_setSize_51 rfl (lv_at hl 2 rfl) ?_
          refine w_iald 8 160 hF hH dX12_setSize_52 (by decide) rfl rfl hw (fun z62 hw => ?_)
          refine lv_goto (tgt := 58) hx hb dX12_setSize_53 rfl ?_
          have hl : lv_has ls 8 [(3, .long z2), (1, .int a1), (0, .ref h0)] := lv_sub hl [0, 2, 1] rfl
          exact jn12 z62 σ4 ls _ _ hl hw hH
    · refine lv_ldc2 (v := 3221225599) hx hb hF.1.2.2.2.1 (hF.1.2.2.2.2 _ (wc_54 14 rfl)) dX12_setSize_31 ?_
      exact w_retl hF hH hr hlk dX12_setSize_34 hw
  · refine lv_ldc2 (v := 3221225658) hx hb hF.1.2.2.2.1 (hF.1.2.2.2.2 _ (wc_54 33 rfl)) dX12_setSize_17 ?_
    exact w_retl hF hH hr hlk dX12_setSize_20 hw
def F_X12_setToGo (h0 : Nat) (L : Nat → Nat) (a1 : Int32) (a2 : Int32) (post : Int64 → HS → Prop) (σ : HS) : Prop := F_X12_number1 h0 L a2 (fun (z2 : Int32) (σ1 : HS) => ((¬ z2.toInt = 0) → (0 ≤ a1.toInt ∧ a1.toInt < 160) ∧ ∀ z3 : Int32, z3 = sI σ1 (L 6) a1.toInt.toNat → ∀ z4 : Int32, z4 = z3 &&& 1 → jn (fun (K7 : Unit → HS → Prop) => ((¬ z4.toInt = 0) → K7 () σ1) ∧ ((z4.toInt = 0) → (0 ≤ a1.toInt ∧ a1.toInt < 160) ∧ ∀ z10 : Int32, z10 = sI σ1 (L 2) a1.toInt.toNat → ((0 ≤ z10.toInt) → (0 ≤ a1.toInt ∧ a1.toInt < 160) ∧ ∀ z11 : Int32, z11 = sI σ1 (L 3) a1.toInt.toNat → jn (fun (K14 : Unit → HS → Prop) => ((z11.toInt = 0) → K14 () σ1) ∧ ((¬ z11.toInt = 0) → F_X12_isEmpty h0 L a1 (fun (z19 : Int32) (σ18 : HS) => ((¬ z19.toInt = 0) → K14 () σ18) ∧ ((z19.toInt = 0) → post 3221225729 σ18)) σ1)) (fun (x12 : Unit) (σ13 : HS) => (0 ≤ a1.toInt ∧ a1.toInt < 80) ∧ ∀ σ17 : HS, σ17 = h_uI σ13 (L 10) a1.toInt.toNat (vp_nar .boolean 1) → post 0 σ17)) ∧ ((z10.toInt < 0) → K7 () σ1))) (fun (x5 : Unit) (σ6 : HS) => post 3221225761 σ6)) ∧ ((z2.toInt = 0) → (0 ≤ a1.toInt ∧ a1.toInt < 80) ∧ ∀ σ20 : HS, σ20 = h_uI σ1 (L 10) a1.toInt.toNat (vp_nar .boolean 0) → post 0 σ20)) σ
theorem dX12_setToGo_0 : decode cX12_setToGo 0 = .ok (.aload_n 0, 1) := by decide +kernel
theorem dX12_setToGo_1 : decode cX12_setToGo 1 = .ok (.iload_n 2, 1) := by decide +kernel
theorem dX12_setToGo_2 : decode cX12_setToGo 2 = .ok (.invokevirtual 600, 3) := by decide +kernel
theorem dX12_setToGo_5 : decode cX12_setToGo 5 = .ok (.ifCond .ne 12, 3) := by decide +kernel
theorem dX12_setToGo_8 : decode cX12_setToGo 8 = .ok (.aload_n 0, 1) := by decide +kernel
theorem dX12_setToGo_9 : decode cX12_setToGo 9 = .ok (.getfield 44, 3) := by decide +kernel
theorem dX12_setToGo_12 : decode cX12_setToGo 12 = .ok (.iload_n 1, 1) := by decide +kernel
theorem dX12_setToGo_13 : decode cX12_setToGo 13 = .ok (.iconst 0, 1) := by decide +kernel
theorem dX12_setToGo_14 : decode cX12_setToGo 14 = .ok (.bastore, 1) := by decide +kernel
theorem dX12_setToGo_15 : decode cX12_setToGo 15 = .ok (.lconst 0, 1) := by decide +kernel
theorem dX12_setToGo_16 : decode cX12_setToGo 16 = .ok (.lreturn, 1) := by decide +kernel
theorem dX12_setToGo_17 : decode cX12_setToGo 17 = .ok (.aload_n 0, 1) := by decide +kernel
theorem dX12_setToGo_18 : decode cX12_setToGo 18 = .ok (.getfield 30, 3) := by decide +kernel
theorem dX12_setToGo_21 : decode cX12_setToGo 21 = .ok (.iload_n 1, 1) := by decide +kernel
theorem dX12_setToGo_22 : decode cX12_setToGo 22 = .ok (.iaload, 1) := by decide +kernel
theorem dX12_setToGo_23 : decode cX12_setToGo 23 = .ok (.iconst 1, 1) := by decide +kernel
theorem dX12_setToGo_24 : decode cX12_setToGo 24 = .ok (.iand, 1) := by decide +kernel
theorem dX12_setToGo_25 : decode cX12_setToGo 25 = .ok (.ifCond .ne 12, 3) := by decide +kernel
theorem dX12_setToGo_28 : decode cX12_setToGo 28 = .ok (.aload_n 0, 1) := by decide +kernel
theorem dX12_setToGo_29 : decode cX12_setToGo 29 = .ok (.getfield 17, 3) := by decide +kernel
theorem dX12_setToGo_32 : decode cX12_setToGo 32 = .ok (.iload_n 1, 1) := by decide +kernel
theorem dX12_setToGo_33 : decode cX12_setToGo 33 = .ok (.iaload, 1) := by decide +kernel
theorem dX12_setToGo_34 : decode cX12_setToGo 34 = .ok (.ifCond .ge 7, 3) := by decide +kernel
theorem dX12_setToGo_37 : decode cX12_setToGo 37 = .ok (.ldc2_w 719, 3) := by decide +kernel
theorem dX12_setToGo_40 : decode cX12_setToGo 40 = .ok (.lreturn, 1) := by decide +kernel
theorem dX12_setToGo_41 : decode cX12_setToGo 41 = .ok (.aload_n 0, 1) := by decide +kernel
theorem dX12_setToGo_42 : decode cX12_setToGo 42 = .ok (.getfield 21, 3) := by decide +kernel
theorem dX12_setToGo_45 : decode cX12_setToGo 45 = .ok (.iload_n 1, 1) := by decide +kernel
theorem dX12_setToGo_46 : decode cX12_setToGo 46 = .ok (.baload, 1) := by decide +kernel
theorem dX12_setToGo_47 : decode cX12_setToGo 47 = .ok (.ifCond .eq 15, 3) := by decide +kernel
theorem dX12_setToGo_50 : decode cX12_setToGo 50 = .ok (.aload_n 0, 1) := by decide +kernel
theorem dX12_setToGo_51 : decode cX12_setToGo 51 = .ok (.iload_n 1, 1) := by decide +kernel
theorem dX12_setToGo_52 : decode cX12_setToGo 52 = .ok (.invokevirtual 754, 3) := by decide +kernel
theorem dX12_setToGo_55 : decode cX12_setToGo 55 = .ok (.ifCond .ne 7, 3) := by decide +kernel
theorem dX12_setToGo_58 : decode cX12_setToGo 58 = .ok (.ldc2_w 855, 3) := by decide +kernel
theorem dX12_setToGo_61 : decode cX12_setToGo 61 = .ok (.lreturn, 1) := by decide +kernel
theorem dX12_setToGo_62 : decode cX12_setToGo 62 = .ok (.aload_n 0, 1) := by decide +kernel
theorem dX12_setToGo_63 : decode cX12_setToGo 63 = .ok (.getfield 44, 3) := by decide +kernel
theorem dX12_setToGo_66 : decode cX12_setToGo 66 = .ok (.iload_n 1, 1) := by decide +kernel
theorem dX12_setToGo_67 : decode cX12_setToGo 67 = .ok (.iconst 1, 1) := by decide +kernel
theorem dX12_setToGo_68 : decode cX12_setToGo 68 = .ok (.bastore, 1) := by decide +kernel
theorem dX12_setToGo_69 : decode cX12_setToGo 69 = .ok (.lconst 0, 1) := by decide +kernel
theorem dX12_setToGo_70 : decode cX12_setToGo 70 = .ok (.lreturn, 1) := by decide +kernel
set_option maxRecDepth 100000 in
set_option maxHeartbeats 4000000 in
theorem c_X12_setToGo (l : Launch) (D : va_G) (t : Nat → ClassId) (h0 : Nat) (L : Nat → Nat) (σ : HS) (hM : MdI h0 L σ) (a1 : Int32) (a2 : Int32) (post : Int64 → HS → Prop) (hw : F_X12_setToGo h0 L a1 a2 post σ) (sz : Nat) : RMl l D t yX12_setToGo cX12_setToGo 3 (some .long) ({ frames := 1, cells := 0, slots := 0, locals := 23 }) h0 L σ sz [.ref h0, .int a1, .int a2] post := by
  refine h_go (τ := τT) okT (by decide) (Nat.le_of_ble_eq_true rfl) ?_
  intro p e s m below meth c ls A hF hr hlk hAe hH0 hA hl
  unfold hB
  rw [hAe]
  clear hAe
  have hF : FX p m c cX12_setToGo 3 s _ RX12 D t := hF
  have hx := hF.1.1
  have hb := hF.1.2.1
  have hH : RT D t A s.heap h0 L σ s.heap [] := ⟨hH0, hM⟩
  have hl : lv_has ls 3 [(0, .ref h0), (1, .int a1), (2, .int a2)] := hl
  unfold F_X12_setToGo at hw
  refine lv_aload_n hx hb dX12_setToGo_0 rfl (lv_at hl 0 rfl) ?_
  refine lv_iload_n hx hb dX12_setToGo_1 rfl (lv_at hl 2 rfl) ?_
  refine w_cVi (As := [.int a2]) (rest := []) hF hH hA mv_X12_600 (fun sz => c_X12_number1 l D t h0 L _ hH.2 a2 _ hw sz) dX12_setToGo_2 rfl rfl (by decide) rfl hl.1 (Nat.le_of_ble_eq_true rfl) (by decide) rfl (fun z2 σ1 H locs hw hH => ?_)
  refine w_if_ne (tgt := 17) hF dX12_setToGo_5 rfl hw (fun hw => ?_) (fun hw => ?_)
  · refine lv_aload_n hx hb dX12_setToGo_17 rfl (lv_at hl 0 rfl) ?_
    refine w_getA 6 hF hH fk_X12_30 dX12_setToGo_18 (by decide) rfl ?_
    refine lv_iload_n hx hb dX12_setToGo_21 rfl (lv_at hl 1 rfl) ?_
    refine w_iald 6 160 hF hH dX12_setToGo_22 (by decide) rfl rfl hw (fun z3 hw => ?_)
    refine lv_iconst (v := 1) hx hb dX12_setToGo_23 (by decide) ?_
    refine lv_iand hx hb dX12_setToGo_24 ?_
    refine w_nmi hw (fun z4 hw => ?_)
    obtain ⟨K7, hK8, hw⟩ := jn_open hw
    refine w_join (K := K7) 37 (fun (x5 : Unit) => []) (fun (x5 : Unit) => []) hl hH (fun x5 σ6 ls H locs hl hw hH => ?_) (fun jn9 => ?_)
    · have hw := hK8 x5 σ6 hw
      have hl : lv_has ls 3 [] := hl
      refine lv_ldc2 (v := 3221225761) hx hb hF.1.2.2.2.1 (hF.1.2.2.2.2 _ (wc_54 35 rfl)) dX12_setToGo_37 ?_
      exact w_retl hF hH hr hlk dX12_setToGo_40 hw
    · skip
      refine w_if_ne (tgt := 37) hF dX12_setToGo_25 rfl hw (fun hw => ?_) (fun hw => ?_)
      · have hl : lv_has ls 3 [] := lv_sub hl [] rfl
        exact jn9 () σ1 ls _ _ hl hw hH
      · refine lv_aload_n hx hb dX12_setToGo_28 rfl (lv_at hl 0 rfl) ?_
        refine w_getA 2 hF hH fk_X12_17 dX12_setToGo_29 (by decide) rfl ?_
        refine lv_iload_n hx hb dX12_setToGo_32 rfl (lv_at hl 1 rfl) ?_
        refine w_iald 2 160 hF hH dX12_setToGo_33 (by decide) rfl rfl hw (fun z10 hw => ?_)
        refine w_if_ge (tgt := 41) hF dX12_setToGo_34 rfl hw (fun hw => ?_) (fun hw => ?_)
        · refine lv_aload_n hx hb dX12_setToGo_41 rfl (lv_at hl 0 rfl) ?_
          refine w_getA 3 hF hH fk_X12_21 dX12_setToGo_42 (by decide) rfl ?_
          refine lv_iload_n hx hb dX12_setToGo_45 rfl (lv_at hl 1 rfl) ?_
          refine w_zald 3 160 hF hH dX12_setToGo_46 (by decide) rfl rfl hw (fun z11 hw => ?_)
          obtain ⟨K14, hK15, hw⟩ := jn_open hw
          refine w_join (K := K14) 62 (fun (x12 : Unit) => [(1, .int a1), (0, .ref h0)]) (fun (x12 : Unit) => []) hl hH (fun x12 σ13 ls H locs hl hw hH => ?_) (fun jn16 => ?_)
          · have hw := hK15 x12 σ13 hw
            have hl : lv_has ls 3 [(1, .int a1), (0, .ref h0)] := hl
            refine lv_aload_n hx hb dX12_setToGo_62 rfl (lv_at hl 1 rfl) ?_
            refine w_getA 10 hF hH fk_X12_44 dX12_setToGo_63 (by decide) rfl ?_
            refine lv_iload_n hx hb dX12_setToGo_66 rfl (lv_at hl 0 rfl) ?_
            refine lv_iconst (v := 1) hx hb dX12_setToGo_67 (by decide) ?_
            refine w_zast 10 80 hF hH dX12_setToGo_68 (by decide) rfl rfl hw (fun σ17 H locs hw hH => ?_)
            refine lv_lconst (v := 0) hx hb dX12_setToGo_69 (by decide) ?_
            exact w_retl hF hH hr hlk dX12_setToGo_70 hw
          · skip
            refine w_if_eq (tgt := 62) hF dX12_setToGo_47 rfl hw (fun hw => ?_) (fun hw => ?_)
            · have hl : lv_has ls 3 [(1, .int a1), (0, .ref h0)] := lv_sub hl [1, 0] rfl
              exact jn16 () σ1 ls _ _ hl hw hH
            · refine lv_aload_n hx hb dX12_setToGo_50 rfl (lv_at hl 0 rfl) ?_
              refine lv_iload_n hx hb dX12_setToGo_51 rfl (lv_at hl 1 rfl) ?_
              refine w_cVi (As := [.int a1]) (rest := []) hF hH hA mv_X12_754 (fun sz => c_X12_isEmpty l D t h0 L _ hH.2 a1 _ hw sz) dX12_setToGo_52 rfl rfl (by decide) rfl hl.1 (Nat.le_of_ble_eq_true rfl) (by decide) rfl (fun z19 σ18 H locs hw hH => ?_)
              refine w_if_ne (tgt := 62) hF dX12_setToGo_55 rfl hw (fun hw => ?_) (fun hw => ?_)
              · have hl : lv_has ls 3 [(1, .int a1), (0, .ref h0)] := lv_sub hl [1, 0] rfl
                exact jn16 () σ18 ls _ _ hl hw hH
              · refine lv_ldc2 (v := 3221225729) hx hb hF.1.2.2.2.1 (hF.1.2.2.2.2 _ (wc_57 17 rfl)) dX12_setToGo_58 ?_
                exact w_retl hF hH hr hlk dX12_setToGo_61 hw
        · have hl : lv_has ls 3 [] := lv_sub hl [] rfl
          exact jn9 () σ1 ls _ _ hl hw hH
  · refine lv_aload_n hx hb dX12_setToGo_8 rfl (lv_at hl 0 rfl) ?_
    refine w_getA 10 hF hH fk_X12_44 dX12_setToGo_9 (by decide) rfl ?_
    refine lv_iload_n hx hb dX12_setToGo_12 rfl (lv_at hl 1 rfl) ?_
    refine lv_iconst (v := 0) hx hb dX12_setToGo_13 (by decide) ?_
    refine w_zast 10 80 hF hH dX12_setToGo_14 (by decide) rfl rfl hw (fun σ20 H locs hw hH => ?_)
    refine lv_lconst (v := 0) hx hb dX12_setToGo_15 (by decide) ?_
    exact w_retl hF hH hr hlk dX12_setToGo_16 hw
def F_X12_isBelow (h0 : Nat) (L : Nat → Nat) (a1 : Int32) (a2 : Int32) (post : Int32 → HS → Prop) (σ : HS) : Prop := lw (fun (K3 : Int32 → HS → Prop) (x1 : Int32) (σ2 : HS) => jn (fun (K7 : Unit → HS → Prop) => ((x1.toInt < 0) → K7 () σ2) ∧ ((0 ≤ x1.toInt) → ((x1.toInt = a2.toInt) → K7 () σ2) ∧ ((¬ x1.toInt = a2.toInt) → (0 ≤ x1.toInt ∧ x1.toInt < 160) ∧ ∀ z15 : Int32, z15 = sI σ2 (L 2) x1.toInt.toNat → K3 z15 σ2))) (fun (x5 : Unit) (σ6 : HS) => jn (fun (K12 : Int32 → HS → Prop) => ((x1.toInt < 0) → K12 0 σ6) ∧ ((0 ≤ x1.toInt) → K12 1 σ6)) (fun (x10 : Int32) (σ11 : HS) => (0 ≤ x10.toInt ∧ x10.toInt ≤ 1) ∧ post x10 σ11))) a1 σ
theorem dX12_isBelow_0 : decode cX12_isBelow 0 = .ok (.iload_n 1, 1) := by decide +kernel
theorem dX12_isBelow_1 : decode cX12_isBelow 1 = .ok (.istore_n 3, 1) := by decide +kernel
theorem dX12_isBelow_2 : decode cX12_isBelow 2 = .ok (.iload_n 3, 1) := by decide +kernel
theorem dX12_isBelow_3 : decode cX12_isBelow 3 = .ok (.ifCond .lt 18, 3) := by decide +kernel
theorem dX12_isBelow_6 : decode cX12_isBelow 6 = .ok (.iload_n 3, 1) := by decide +kernel
theorem dX12_isBelow_7 : decode cX12_isBelow 7 = .ok (.iload_n 2, 1) := by decide +kernel
theorem dX12_isBelow_8 : decode cX12_isBelow 8 = .ok (.if_icmp .eq 13, 3) := by decide +kernel
theorem dX12_isBelow_11 : decode cX12_isBelow 11 = .ok (.aload_n 0, 1) := by decide +kernel
theorem dX12_isBelow_12 : decode cX12_isBelow 12 = .ok (.getfield 17, 3) := by decide +kernel
theorem dX12_isBelow_15 : decode cX12_isBelow 15 = .ok (.iload_n 3, 1) := by decide +kernel
theorem dX12_isBelow_16 : decode cX12_isBelow 16 = .ok (.iaload, 1) := by decide +kernel
theorem dX12_isBelow_17 : decode cX12_isBelow 17 = .ok (.istore_n 3, 1) := by decide +kernel
theorem dX12_isBelow_18 : decode cX12_isBelow 18 = .ok (.goto (-16), 3) := by decide +kernel
theorem dX12_isBelow_21 : decode cX12_isBelow 21 = .ok (.iload_n 3, 1) := by decide +kernel
theorem dX12_isBelow_22 : decode cX12_isBelow 22 = .ok (.ifCond .lt 7, 3) := by decide +kernel
theorem dX12_isBelow_25 : decode cX12_isBelow 25 = .ok (.iconst 1, 1) := by decide +kernel
theorem dX12_isBelow_26 : decode cX12_isBelow 26 = .ok (.goto 4, 3) := by decide +kernel
theorem dX12_isBelow_29 : decode cX12_isBelow 29 = .ok (.iconst 0, 1) := by decide +kernel
theorem dX12_isBelow_30 : decode cX12_isBelow 30 = .ok (.ireturn, 1) := by decide +kernel
set_option maxRecDepth 100000 in
set_option maxHeartbeats 4000000 in
theorem c_X12_isBelow (l : Launch) (D : va_G) (t : Nat → ClassId) (h0 : Nat) (L : Nat → Nat) (σ : HS) (hM : MdI h0 L σ) (a1 : Int32) (a2 : Int32) (post : Int32 → HS → Prop) (hw : F_X12_isBelow h0 L a1 a2 post σ) (sz : Nat) : RMi l D t yX12_isBelow cX12_isBelow 4 (some .boolean) ({ frames := 0, cells := 0, slots := 0, locals := 0 }) h0 L σ sz [.ref h0, .int a1, .int a2] post := by
  refine h_go (τ := τT) okT (by decide) (Nat.le_of_ble_eq_true rfl) ?_
  intro p e s m below meth c ls A hF hr hlk hAe hH0 hA hl
  unfold hB
  rw [hAe]
  clear hAe
  have hF : FX p m c cX12_isBelow 4 s _ RX12 D t := hF
  have hx := hF.1.1
  have hb := hF.1.2.1
  have hH : RT D t A s.heap h0 L σ s.heap [] := ⟨hH0, hM⟩
  have hl : lv_has ls 4 [(0, .ref h0), (1, .int a1), (2, .int a2)] := hl
  unfold F_X12_isBelow at hw
  refine lv_iload_n hx hb dX12_isBelow_0 rfl (lv_at hl 1 rfl) ?_
  refine lv_istore_n (lv' := [(3, .int a1), (0, .ref h0), (1, .int a1), (2, .int a2)]) hx hb dX12_isBelow_1 rfl hl (by decide) rfl (fun ls hl => ?_)
  have hl : lv_has ls 4 [(3, .int a1), (2, .int a2), (0, .ref h0)] := lv_sub hl [0, 3, 1] rfl
  refine w_loop (β := Int32) (fun x1 => [(3, .int x1), (2, .int a2), (0, .ref h0)]) a1 hl hw hH (fun K3 x1 σ2 ls H locs hl hw hH ih4 => ?_)
  have hl : lv_has ls 4 [(3, .int x1), (2, .int a2), (0, .ref h0)] := hl
  refine lv_iload_n hx hb dX12_isBelow_2 rfl (lv_at hl 0 rfl) ?_
  obtain ⟨K7, hK8, hw⟩ := jn_open hw
  refine w_join (K := K7) 21 (fun (x5 : Unit) => [(3, .int x1)]) (fun (x5 : Unit) => []) hl hH (fun x5 σ6 ls H locs hl hw hH => ?_) (fun jn9 => ?_)
  · have hw := hK8 x5 σ6 hw
    have hl : lv_has ls 4 [(3, .int x1)] := hl
    refine lv_iload_n hx hb dX12_isBelow_21 rfl (lv_at hl 0 rfl) ?_
    obtain ⟨K12, hK13, hw⟩ := jn_open hw
    refine w_join (K := K12) 30 (fun (x10 : Int32) => []) (fun (x10 : Int32) => [.int x10]) hl hH (fun x10 σ11 ls H locs hl hw hH => ?_) (fun jn14 => ?_)
    · have hw := hK13 x10 σ11 hw
      have hl : lv_has ls 4 [] := hl
      exact w_retz hF hH hr hlk dX12_isBelow_30 hw
    · skip
      refine w_if_lt (tgt := 29) hF dX12_isBelow_22 rfl hw (fun hw => ?_) (fun hw => ?_)
      · refine lv_iconst (v := 0) hx hb dX12_isBelow_29 (by decide) ?_
        have hl : lv_has ls 4 [] := lv_sub hl [] rfl
        exact jn14 0 σ6 ls _ _ hl hw hH
      · refine lv_iconst (v := 1) hx hb dX12_isBelow_25 (by decide) ?_
        refine lv_goto (tgt := 30) hx hb dX12_isBelow_26 rfl ?_
        have hl : lv_has ls 4 [] := lv_sub hl [] rfl
        exact jn14 1 σ6 ls _ _ hl hw hH
  · skip
    refine w_if_lt (tgt := 21) hF dX12_isBelow_3 rfl hw (fun hw => ?_) (fun hw => ?_)
    · have hl : lv_has ls 4 [(3, .int x1)] := lv_sub hl [0] rfl
      exact jn9 () σ2 ls _ _ hl hw hH
    · refine lv_iload_n hx hb dX12_isBelow_6 rfl (lv_at hl 0 rfl) ?_
      refine lv_iload_n hx hb dX12_isBelow_7 rfl (lv_at hl 1 rfl) ?_
      refine w_icmp_eq (tgt := 21) hF dX12_isBelow_8 rfl hw (fun hw => ?_) (fun hw => ?_)
      · have hl : lv_has ls 4 [(3, .int x1)] := lv_sub hl [0] rfl
        exact jn9 () σ2 ls _ _ hl hw hH
      · refine lv_aload_n hx hb dX12_isBelow_11 rfl (lv_at hl 2 rfl) ?_
        refine w_getA 2 hF hH fk_X12_17 dX12_isBelow_12 (by decide) rfl ?_
        refine lv_iload_n hx hb dX12_isBelow_15 rfl (lv_at hl 0 rfl) ?_
        refine w_iald 2 160 hF hH dX12_isBelow_16 (by decide) rfl rfl hw (fun z15 hw => ?_)
        refine lv_istore_n (lv' := [(3, .int z15), (2, .int a2), (0, .ref h0)]) hx hb dX12_isBelow_17 rfl hl (by decide) rfl (fun ls hl => ?_)
        refine lv_goto (tgt := 2) hx hb dX12_isBelow_18 rfl ?_
        exact ih4 z15 σ2 ls _ _ hl hw hH
def F_X12_rename (h0 : Nat) (L : Nat → Nat) (a1 : Int32) (a2 : Int32) (a3 : Int64) (post : Int64 → HS → Prop) (σ : HS) : Prop := F_X12_number1 h0 L a2 (fun (z2 : Int32) (σ1 : HS) => jn (fun (K5 : Int32 → HS → Prop) => ((z2.toInt = 0) → K5 0 σ1) ∧ ((¬ z2.toInt = 0) → K5 1 σ1)) (fun (x3 : Int32) (σ4 : HS) => ∀ z8 : Int32, z8 = a2 + 16 → F_X12_number h0 L z8 4 (fun (z10 : Int64) (σ9 : HS) => ∀ z11 : Int64, z11 = a3 - 20 → ((z10.toInt ≤ z11.toInt) → ∀ z12 : Int32, z12 = a2 + 20 → F_X12_readPath h0 L z12 z10 (fun (z14 : Int32) (σ13 : HS) => ((¬ z14.toInt = 0) → ∀ z15 : Int32, z15 = sI σ13 h0 99 → (0 ≤ z15.toInt ∧ z15.toInt < 16) ∧ ∀ z16 : Int32, z16 = sI σ13 (L 40) z15.toInt.toNat → (0 ≤ z16.toInt ∧ z16.toInt < 4) ∧ ∀ z17 : Int32, z17 = sI σ13 (L 11) z16.toInt.toNat → F_X12_goes h0 L z17 (fun (z19 : Int32) (σ18 : HS) => ((¬ z19.toInt = 0) → ∀ z20 : Int32, z20 = sI σ18 h0 115 → jn (fun (K23 : Unit → HS → Prop) => ((z20.toInt = 0) → K23 () σ18) ∧ ((¬ z20.toInt = 0) → (0 ≤ a1.toInt ∧ a1.toInt < 160) ∧ ∀ z26 : Int32, z26 = sI σ18 (L 2) a1.toInt.toNat → ((0 ≤ z26.toInt) → (0 ≤ a1.toInt ∧ a1.toInt < 160) ∧ ∀ z27 : Int32, z27 = sI σ18 (L 3) a1.toInt.toNat → jn (fun (K30 : Unit → HS → Prop) => ((z27.toInt = 0) → K30 () σ18) ∧ ((¬ z27.toInt = 0) → ∀ z88 : Int32, z88 = sI σ18 h0 116 → F_X12_isBelow h0 L z88 a1 (fun (z90 : Int32) (σ89 : HS) => ((z90.toInt = 0) → K30 () σ89) ∧ ((¬ z90.toInt = 0) → post 3221225485 σ89)) σ18)) (fun (x28 : Unit) (σ29 : HS) => lw (fun (K35 : Int32 → HS → Prop) (x33 : Int32) (σ34 : HS) => jn (fun (K39 : Unit → HS → Prop) => (((40 : Int32).toInt ≤ x33.toInt) → K39 () σ34) ∧ ((x33.toInt < (40 : Int32).toInt) → (0 ≤ a1.toInt ∧ a1.toInt < 160) ∧ ∀ z76 : Int32, z76 = sI σ34 (L 3) a1.toInt.toNat → ((z76.toInt = 0) → K39 () σ34) ∧ ((¬ z76.toInt = 0) → (0 ≤ x33.toInt ∧ x33.toInt < 40) ∧ ∀ z77 : Int64, z77 = sJ σ34 (L 41) x33.toInt.toNat → jn (fun (K80 : Unit → HS → Prop) => ((z77.toInt ≤ (0 : Int64).toInt) → K80 () σ34) ∧ (((0 : Int64).toInt < z77.toInt) → (0 ≤ x33.toInt ∧ x33.toInt < 40) ∧ ∀ z84 : Int32, z84 = sI σ34 (L 43) x33.toInt.toNat → ((z84.toInt = a1.toInt) → K80 () σ34) ∧ ((¬ z84.toInt = a1.toInt) → (0 ≤ x33.toInt ∧ x33.toInt < 40) ∧ ∀ z85 : Int32, z85 = sI σ34 (L 43) x33.toInt.toNat → F_X12_isBelow h0 L z85 a1 (fun (z87 : Int32) (σ86 : HS) => ((z87.toInt = 0) → K80 () σ86) ∧ ((¬ z87.toInt = 0) → post 3221225506 σ86)) σ34))) (fun (x78 : Unit) (σ79 : HS) => ∀ z83 : Int32, z83 = x33 + 1 → K35 z83 σ79)))) (fun (x37 : Unit) (σ38 : HS) => ∀ z42 : Int32, z42 = sI σ38 h0 117 → jn (fun (K45 : Unit → HS → Prop) => ((z42.toInt < 0) → K45 () σ38) ∧ ((0 ≤ z42.toInt) → ((z42.toInt = a1.toInt) → K45 () σ38) ∧ ((¬ z42.toInt = a1.toInt) → ((¬ x3.toInt = 0) → (0 ≤ z42.toInt ∧ z42.toInt < 160) ∧ ∀ z62 : Int32, z62 = sI σ38 (L 3) z42.toInt.toNat → jn (fun (K65 : Unit → HS → Prop) => ((¬ z62.toInt = 0) → K65 () σ38) ∧ ((z62.toInt = 0) → F_X12_isOpened h0 L z42 (fun (z69 : Int32) (σ68 : HS) => ((¬ z69.toInt = 0) → K65 () σ68) ∧ ((z69.toInt = 0) → (0 ≤ z42.toInt ∧ z42.toInt < 160) ∧ ∀ z70 : Int32, z70 = sI σ68 (L 6) z42.toInt.toNat → ∀ z71 : Int32, z71 = z70 &&& 1 → ((z71.toInt = 0) → F_X12_record h0 L 5 z42 (fun (z73 : Int32) (σ72 : HS) => F_X12_done h0 L  (fun (σ74 : HS) => K45 () σ74) σ72) σ68) ∧ ((¬ z71.toInt = 0) → K65 () σ68))) σ38)) (fun (x63 : Unit) (σ64 : HS) => post 3221225506 σ64)) ∧ ((x3.toInt = 0) → post 3221225525 σ38)))) (fun (x43 : Unit) (σ44 : HS) => F_X12_record h0 L 4 a1 (fun (z49 : Int32) (σ48 : HS) => ∀ z50 : Int32, z50 = sI σ48 h0 116 → (0 ≤ z49.toInt ∧ z49.toInt < 9) ∧ ∀ σ51 : HS, σ51 = h_uI σ48 (L 16) z49.toInt.toNat z50 → ∀ z52 : Int32, z52 = sI σ51 h0 115 → ∀ z53 : Int32, z53 = z52 - 1 → F_X12_nameIt h0 L z49 z53 (fun (σ54 : HS) => ∀ z56 : Int32, z56 = 4 * z49 → ∀ z57 : Int32, z57 = z56 + 3 → ∀ z58 : Int64, z58 = sJ σ54 h0 2 → (0 ≤ z57.toInt ∧ z57.toInt < 36) ∧ ∀ σ59 : HS, σ59 = h_uJ σ54 (L 21) z57.toInt.toNat z58 → F_X12_done h0 L  (fun (σ60 : HS) => post 0 σ60) σ59) σ51) σ44))) 0 σ29)) ∧ ((z26.toInt < 0) → K23 () σ18))) (fun (x21 : Unit) (σ22 : HS) => post 3221225506 σ22)) ∧ ((z19.toInt = 0) → post 3221225530 σ18)) σ13) ∧ ((z14.toInt = 0) → post 3221225523 σ13)) σ9) ∧ ((z11.toInt < z10.toInt) → post 3221225476 σ9)) σ4)) σ
theorem dX12_rename_0 : decode cX12_rename 0 = .ok (.aload_n 0, 1) := by decide +kernel
theorem dX12_rename_1 : decode cX12_rename 1 = .ok (.iload_n 2, 1) := by decide +kernel
theorem dX12_rename_2 : decode cX12_rename 2 = .ok (.invokevirtual 600, 3) := by decide +kernel
theorem dX12_rename_5 : decode cX12_rename 5 = .ok (.ifCond .eq 7, 3) := by decide +kernel
theorem dX12_rename_8 : decode cX12_rename 8 = .ok (.iconst 1, 1) := by decide +kernel
theorem dX12_rename_9 : decode cX12_rename 9 = .ok (.goto 4, 3) := by decide +kernel
theorem dX12_rename_12 : decode cX12_rename 12 = .ok (.iconst 0, 1) := by decide +kernel
theorem dX12_rename_13 : decode cX12_rename 13 = .ok (.istore 5, 2) := by decide +kernel
theorem dX12_rename_15 : decode cX12_rename 15 = .ok (.aload_n 0, 1) := by decide +kernel
theorem dX12_rename_16 : decode cX12_rename 16 = .ok (.iload_n 2, 1) := by decide +kernel
theorem dX12_rename_17 : decode cX12_rename 17 = .ok (.bipush 16, 2) := by decide +kernel
theorem dX12_rename_19 : decode cX12_rename 19 = .ok (.iadd, 1) := by decide +kernel
theorem dX12_rename_20 : decode cX12_rename 20 = .ok (.iconst 4, 1) := by decide +kernel
theorem dX12_rename_21 : decode cX12_rename 21 = .ok (.invokevirtual 364, 3) := by decide +kernel
theorem dX12_rename_24 : decode cX12_rename 24 = .ok (.lstore 6, 2) := by decide +kernel
theorem dX12_rename_26 : decode cX12_rename 26 = .ok (.lload 6, 2) := by decide +kernel
theorem dX12_rename_28 : decode cX12_rename 28 = .ok (.lload_n 3, 1) := by decide +kernel
theorem dX12_rename_29 : decode cX12_rename 29 = .ok (.ldc2_w 857, 3) := by decide +kernel
theorem dX12_rename_32 : decode cX12_rename 32 = .ok (.lsub, 1) := by decide +kernel
theorem dX12_rename_33 : decode cX12_rename 33 = .ok (.lcmp, 1) := by decide +kernel
theorem dX12_rename_34 : decode cX12_rename 34 = .ok (.ifCond .le 7, 3) := by decide +kernel
theorem dX12_rename_37 : decode cX12_rename 37 = .ok (.ldc2_w 826, 3) := by decide +kernel
theorem dX12_rename_40 : decode cX12_rename 40 = .ok (.lreturn, 1) := by decide +kernel
theorem dX12_rename_41 : decode cX12_rename 41 = .ok (.aload_n 0, 1) := by decide +kernel
theorem dX12_rename_42 : decode cX12_rename 42 = .ok (.iload_n 2, 1) := by decide +kernel
theorem dX12_rename_43 : decode cX12_rename 43 = .ok (.bipush 20, 2) := by decide +kernel
theorem dX12_rename_45 : decode cX12_rename 45 = .ok (.iadd, 1) := by decide +kernel
theorem dX12_rename_46 : decode cX12_rename 46 = .ok (.lload 6, 2) := by decide +kernel
theorem dX12_rename_48 : decode cX12_rename 48 = .ok (.invokevirtual 669, 3) := by decide +kernel
theorem dX12_rename_51 : decode cX12_rename 51 = .ok (.ifCond .ne 7, 3) := by decide +kernel
theorem dX12_rename_54 : decode cX12_rename 54 = .ok (.ldc2_w 672, 3) := by decide +kernel
theorem dX12_rename_57 : decode cX12_rename 57 = .ok (.lreturn, 1) := by decide +kernel
theorem dX12_rename_58 : decode cX12_rename 58 = .ok (.aload_n 0, 1) := by decide +kernel
theorem dX12_rename_59 : decode cX12_rename 59 = .ok (.aload_n 0, 1) := by decide +kernel
theorem dX12_rename_60 : decode cX12_rename 60 = .ok (.getfield 47, 3) := by decide +kernel
theorem dX12_rename_63 : decode cX12_rename 63 = .ok (.aload_n 0, 1) := by decide +kernel
theorem dX12_rename_64 : decode cX12_rename 64 = .ok (.getfield 136, 3) := by decide +kernel
theorem dX12_rename_67 : decode cX12_rename 67 = .ok (.aload_n 0, 1) := by decide +kernel
theorem dX12_rename_68 : decode cX12_rename 68 = .ok (.getfield 498, 3) := by decide +kernel
theorem dX12_rename_71 : decode cX12_rename 71 = .ok (.iaload, 1) := by decide +kernel
theorem dX12_rename_72 : decode cX12_rename 72 = .ok (.iaload, 1) := by decide +kernel
theorem dX12_rename_73 : decode cX12_rename 73 = .ok (.invokevirtual 674, 3) := by decide +kernel
theorem dX12_rename_76 : decode cX12_rename 76 = .ok (.ifCond .ne 7, 3) := by decide +kernel
theorem dX12_rename_79 : decode cX12_rename 79 = .ok (.ldc2_w 677, 3) := by decide +kernel
theorem dX12_rename_82 : decode cX12_rename 82 = .ok (.lreturn, 1) := by decide +kernel
theorem dX12_rename_83 : decode cX12_rename 83 = .ok (.aload_n 0, 1) := by decide +kernel
theorem dX12_rename_84 : decode cX12_rename 84 = .ok (.getfield 619, 3) := by decide +kernel
theorem dX12_rename_87 : decode cX12_rename 87 = .ok (.ifCond .eq 12, 3) := by decide +kernel
theorem dX12_rename_90 : decode cX12_rename 90 = .ok (.aload_n 0, 1) := by decide +kernel
theorem dX12_rename_91 : decode cX12_rename 91 = .ok (.getfield 17, 3) := by decide +kernel
theorem dX12_rename_94 : decode cX12_rename 94 = .ok (.iload_n 1, 1) := by decide +kernel
theorem dX12_rename_95 : decode cX12_rename 95 = .ok (.iaload, 1) := by decide +kernel
theorem dX12_rename_96 : decode cX12_rename 96 = .ok (.ifCond .ge 7, 3) := by decide +kernel
theorem dX12_rename_99 : decode cX12_rename 99 = .ok (.ldc2_w 667, 3) := by decide +kernel
theorem dX12_rename_102 : decode cX12_rename 102 = .ok (.lreturn, 1) := by decide +kernel
theorem dX12_rename_103 : decode cX12_rename 103 = .ok (.aload_n 0, 1) := by decide +kernel
theorem dX12_rename_104 : decode cX12_rename 104 = .ok (.getfield 21, 3) := by decide +kernel
theorem dX12_rename_107 : decode cX12_rename 107 = .ok (.iload_n 1, 1) := by decide +kernel
theorem dX12_rename_108 : decode cX12_rename 108 = .ok (.baload, 1) := by decide +kernel
theorem dX12_rename_109 : decode cX12_rename 109 = .ok (.ifCond .eq 19, 3) := by decide +kernel
theorem dX12_rename_112 : decode cX12_rename 112 = .ok (.aload_n 0, 1) := by decide +kernel
theorem dX12_rename_113 : decode cX12_rename 113 = .ok (.aload_n 0, 1) := by decide +kernel
theorem dX12_rename_114 : decode cX12_rename 114 = .ok (.getfield 625, 3) := by decide +kernel
theorem dX12_rename_117 : decode cX12_rename 117 = .ok (.iload_n 1, 1) := by decide +kernel
theorem dX12_rename_118 : decode cX12_rename 118 = .ok (.invokevirtual 859, 3) := by decide +kernel
theorem dX12_rename_121 : decode cX12_rename 121 = .ok (.ifCond .eq 7, 3) := by decide +kernel
theorem dX12_rename_124 : decode cX12_rename 124 = .ok (.ldc2_w 518, 3) := by decide +kernel
theorem dX12_rename_127 : decode cX12_rename 127 = .ok (.lreturn, 1) := by decide +kernel
theorem dX12_rename_128 : decode cX12_rename 128 = .ok (.iconst 0, 1) := by decide +kernel
theorem dX12_rename_129 : decode cX12_rename 129 = .ok (.istore 8, 2) := by decide +kernel
theorem dX12_rename_131 : decode cX12_rename 131 = .ok (.iload 8, 2) := by decide +kernel
theorem dX12_rename_133 : decode cX12_rename 133 = .ok (.bipush 40, 2) := by decide +kernel
theorem dX12_rename_135 : decode cX12_rename 135 = .ok (.if_icmp .ge 60, 3) := by decide +kernel
theorem dX12_rename_138 : decode cX12_rename 138 = .ok (.aload_n 0, 1) := by decide +kernel
theorem dX12_rename_139 : decode cX12_rename 139 = .ok (.getfield 21, 3) := by decide +kernel
theorem dX12_rename_142 : decode cX12_rename 142 = .ok (.iload_n 1, 1) := by decide +kernel
theorem dX12_rename_143 : decode cX12_rename 143 = .ok (.baload, 1) := by decide +kernel
theorem dX12_rename_144 : decode cX12_rename 144 = .ok (.ifCond .eq 51, 3) := by decide +kernel
theorem dX12_rename_147 : decode cX12_rename 147 = .ok (.aload_n 0, 1) := by decide +kernel
theorem dX12_rename_148 : decode cX12_rename 148 = .ok (.getfield 139, 3) := by decide +kernel
theorem dX12_rename_151 : decode cX12_rename 151 = .ok (.iload 8, 2) := by decide +kernel
theorem dX12_rename_153 : decode cX12_rename 153 = .ok (.laload, 1) := by decide +kernel
theorem dX12_rename_154 : decode cX12_rename 154 = .ok (.lconst 0, 1) := by decide +kernel
theorem dX12_rename_155 : decode cX12_rename 155 = .ok (.lcmp, 1) := by decide +kernel
theorem dX12_rename_156 : decode cX12_rename 156 = .ok (.ifCond .le 33, 3) := by decide +kernel
theorem dX12_rename_159 : decode cX12_rename 159 = .ok (.aload_n 0, 1) := by decide +kernel
theorem dX12_rename_160 : decode cX12_rename 160 = .ok (.getfield 145, 3) := by decide +kernel
theorem dX12_rename_163 : decode cX12_rename 163 = .ok (.iload 8, 2) := by decide +kernel
theorem dX12_rename_165 : decode cX12_rename 165 = .ok (.iaload, 1) := by decide +kernel
theorem dX12_rename_166 : decode cX12_rename 166 = .ok (.iload_n 1, 1) := by decide +kernel
theorem dX12_rename_167 : decode cX12_rename 167 = .ok (.if_icmp .eq 22, 3) := by decide +kernel
theorem dX12_rename_170 : decode cX12_rename 170 = .ok (.aload_n 0, 1) := by decide +kernel
theorem dX12_rename_171 : decode cX12_rename 171 = .ok (.aload_n 0, 1) := by decide +kernel
theorem dX12_rename_172 : decode cX12_rename 172 = .ok (.getfield 145, 3) := by decide +kernel
theorem dX12_rename_175 : decode cX12_rename 175 = .ok (.iload 8, 2) := by decide +kernel
theorem dX12_rename_177 : decode cX12_rename 177 = .ok (.iaload, 1) := by decide +kernel
theorem dX12_rename_178 : decode cX12_rename 178 = .ok (.iload_n 1, 1) := by decide +kernel
theorem dX12_rename_179 : decode cX12_rename 179 = .ok (.invokevirtual 859, 3) := by decide +kernel
theorem dX12_rename_182 : decode cX12_rename 182 = .ok (.ifCond .eq 7, 3) := by decide +kernel
theorem dX12_rename_185 : decode cX12_rename 185 = .ok (.ldc2_w 667, 3) := by decide +kernel
theorem dX12_rename_188 : decode cX12_rename 188 = .ok (.lreturn, 1) := by decide +kernel
theorem dX12_rename_189 : decode cX12_rename 189 = .ok (.iinc 8 1, 3) := by decide +kernel
theorem dX12_rename_192 : decode cX12_rename 192 = .ok (.goto (-61), 3) := by decide +kernel
theorem dX12_rename_195 : decode cX12_rename 195 = .ok (.aload_n 0, 1) := by decide +kernel
theorem dX12_rename_196 : decode cX12_rename 196 = .ok (.getfield 628, 3) := by decide +kernel
theorem dX12_rename_199 : decode cX12_rename 199 = .ok (.istore 8, 2) := by decide +kernel
theorem dX12_rename_201 : decode cX12_rename 201 = .ok (.iload 8, 2) := by decide +kernel
theorem dX12_rename_203 : decode cX12_rename 203 = .ok (.ifCond .lt 65, 3) := by decide +kernel
theorem dX12_rename_206 : decode cX12_rename 206 = .ok (.iload 8, 2) := by decide +kernel
theorem dX12_rename_208 : decode cX12_rename 208 = .ok (.iload_n 1, 1) := by decide +kernel
theorem dX12_rename_209 : decode cX12_rename 209 = .ok (.if_icmp .eq 59, 3) := by decide +kernel
theorem dX12_rename_212 : decode cX12_rename 212 = .ok (.iload 5, 2) := by decide +kernel
theorem dX12_rename_214 : decode cX12_rename 214 = .ok (.ifCond .ne 7, 3) := by decide +kernel
theorem dX12_rename_217 : decode cX12_rename 217 = .ok (.ldc2_w 713, 3) := by decide +kernel
theorem dX12_rename_220 : decode cX12_rename 220 = .ok (.lreturn, 1) := by decide +kernel
theorem dX12_rename_221 : decode cX12_rename 221 = .ok (.aload_n 0, 1) := by decide +kernel
theorem dX12_rename_222 : decode cX12_rename 222 = .ok (.getfield 21, 3) := by decide +kernel
theorem dX12_rename_225 : decode cX12_rename 225 = .ok (.iload 8, 2) := by decide +kernel
theorem dX12_rename_227 : decode cX12_rename 227 = .ok (.baload, 1) := by decide +kernel
theorem dX12_rename_228 : decode cX12_rename 228 = .ok (.ifCond .ne 24, 3) := by decide +kernel
theorem dX12_rename_231 : decode cX12_rename 231 = .ok (.aload_n 0, 1) := by decide +kernel
theorem dX12_rename_232 : decode cX12_rename 232 = .ok (.iload 8, 2) := by decide +kernel
theorem dX12_rename_234 : decode cX12_rename 234 = .ok (.invokevirtual 746, 3) := by decide +kernel
theorem dX12_rename_237 : decode cX12_rename 237 = .ok (.ifCond .ne 15, 3) := by decide +kernel
theorem dX12_rename_240 : decode cX12_rename 240 = .ok (.aload_n 0, 1) := by decide +kernel
theorem dX12_rename_241 : decode cX12_rename 241 = .ok (.getfield 30, 3) := by decide +kernel
theorem dX12_rename_244 : decode cX12_rename 244 = .ok (.iload 8, 2) := by decide +kernel
theorem dX12_rename_246 : decode cX12_rename 246 = .ok (.iaload, 1) := by decide +kernel
theorem dX12_rename_247 : decode cX12_rename 247 = .ok (.iconst 1, 1) := by decide +kernel
theorem dX12_rename_248 : decode cX12_rename 248 = .ok (.iand, 1) := by decide +kernel
theorem dX12_rename_249 : decode cX12_rename 249 = .ok (.ifCond .eq 7, 3) := by decide +kernel
theorem dX12_rename_252 : decode cX12_rename 252 = .ok (.ldc2_w 667, 3) := by decide +kernel
theorem dX12_rename_255 : decode cX12_rename 255 = .ok (.lreturn, 1) := by decide +kernel
theorem dX12_rename_256 : decode cX12_rename 256 = .ok (.aload_n 0, 1) := by decide +kernel
theorem dX12_rename_257 : decode cX12_rename 257 = .ok (.iconst 5, 1) := by decide +kernel
theorem dX12_rename_258 : decode cX12_rename 258 = .ok (.iload 8, 2) := by decide +kernel
theorem dX12_rename_260 : decode cX12_rename 260 = .ok (.invokevirtual 734, 3) := by decide +kernel
theorem dX12_rename_263 : decode cX12_rename 263 = .ok (.pop, 1) := by decide +kernel
theorem dX12_rename_264 : decode cX12_rename 264 = .ok (.aload_n 0, 1) := by decide +kernel
theorem dX12_rename_265 : decode cX12_rename 265 = .ok (.invokevirtual 737, 3) := by decide +kernel
theorem dX12_rename_268 : decode cX12_rename 268 = .ok (.aload_n 0, 1) := by decide +kernel
theorem dX12_rename_269 : decode cX12_rename 269 = .ok (.iconst 4, 1) := by decide +kernel
theorem dX12_rename_270 : decode cX12_rename 270 = .ok (.iload_n 1, 1) := by decide +kernel
theorem dX12_rename_271 : decode cX12_rename 271 = .ok (.invokevirtual 734, 3) := by decide +kernel
theorem dX12_rename_274 : decode cX12_rename 274 = .ok (.istore 9, 2) := by decide +kernel
theorem dX12_rename_276 : decode cX12_rename 276 = .ok (.aload_n 0, 1) := by decide +kernel
theorem dX12_rename_277 : decode cX12_rename 277 = .ok (.getfield 62, 3) := by decide +kernel
theorem dX12_rename_280 : decode cX12_rename 280 = .ok (.iload 9, 2) := by decide +kernel
theorem dX12_rename_282 : decode cX12_rename 282 = .ok (.aload_n 0, 1) := by decide +kernel
theorem dX12_rename_283 : decode cX12_rename 283 = .ok (.getfield 625, 3) := by decide +kernel
theorem dX12_rename_286 : decode cX12_rename 286 = .ok (.iastore, 1) := by decide +kernel
theorem dX12_rename_287 : decode cX12_rename 287 = .ok (.aload_n 0, 1) := by decide +kernel
theorem dX12_rename_288 : decode cX12_rename 288 = .ok (.iload 9, 2) := by decide +kernel
theorem dX12_rename_290 : decode cX12_rename 290 = .ok (.aload_n 0, 1) := by decide +kernel
theorem dX12_rename_291 : decode cX12_rename 291 = .ok (.getfield 619, 3) := by decide +kernel
theorem dX12_rename_294 : decode cX12_rename 294 = .ok (.iconst 1, 1) := by decide +kernel
theorem dX12_rename_295 : decode cX12_rename 295 = .ok (.isub, 1) := by decide +kernel
theorem dX12_rename_296 : decode cX12_rename 296 = .ok (.invokevirtual 743, 3) := by decide +kernel
theorem dX12_rename_299 : decode cX12_rename 299 = .ok (.aload_n 0, 1) := by decide +kernel
theorem dX12_rename_300 : decode cX12_rename 300 = .ok (.getfield 77, 3) := by decide +kernel
theorem dX12_rename_303 : decode cX12_rename 303 = .ok (.iconst 4, 1) := by decide +kernel
theorem dX12_rename_304 : decode cX12_rename 304 = .ok (.iload 9, 2) := by decide +kernel
theorem dX12_rename_306 : decode cX12_rename 306 = .ok (.imul, 1) := by decide +kernel
theorem dX12_rename_307 : decode cX12_rename 307 = .ok (.iconst 3, 1) := by decide +kernel
theorem dX12_rename_308 : decode cX12_rename 308 = .ok (.iadd, 1) := by decide +kernel
theorem dX12_rename_309 : decode cX12_rename 309 = .ok (.aload_n 0, 1) := by decide +kernel
theorem dX12_rename_310 : decode cX12_rename 310 = .ok (.getfield 322, 3) := by decide +kernel
theorem dX12_rename_313 : decode cX12_rename 313 = .ok (.lastore, 1) := by decide +kernel
theorem dX12_rename_314 : decode cX12_rename 314 = .ok (.aload_n 0, 1) := by decide +kernel
theorem dX12_rename_315 : decode cX12_rename 315 = .ok (.invokevirtual 737, 3) := by decide +kernel
theorem dX12_rename_318 : decode cX12_rename 318 = .ok (.lconst 0, 1) := by decide +kernel
theorem dX12_rename_319 : decode cX12_rename 319 = .ok (.lreturn, 1) := by decide +kernel
set_option maxRecDepth 100000 in
set_option maxHeartbeats 4000000 in
theorem c_X12_rename (l : Launch) (D : va_G) (t : Nat → ClassId) (h0 : Nat) (L : Nat → Nat) (σ : HS) (hM : MdI h0 L σ) (a1 : Int32) (a2 : Int32) (a3 : Int64) (post : Int64 → HS → Prop) (hw : F_X12_rename h0 L a1 a2 a3 post σ) (sz : Nat) : RMl l D t yX12_rename cX12_rename 10 (some .long) ({ frames := 5, cells := 0, slots := 0, locals := 111 }) h0 L σ sz [.ref h0, .int a1, .int a2, .long a3] post := by
  refine h_go (τ := τT) okT (by decide) (Nat.le_of_ble_eq_true rfl) ?_
  intro p e s m below meth c ls A hF hr hlk hAe hH0 hA hl
  unfold hB
  rw [hAe]
  clear hAe
  have hF : FX p m c cX12_rename 10 s _ RX12 D t := hF
  have hx := hF.1.1
  have hb := hF.1.2.1
  have hH : RT D t A s.heap h0 L σ s.heap [] := ⟨hH0, hM⟩
  have hl : lv_has ls 10 [(0, .ref h0), (1, .int a1), (2, .int a2), (3, .long a3)] := hl
  unfold F_X12_rename at hw
  refine lv_aload_n hx hb dX12_rename_0 rfl (lv_at hl 0 rfl) ?_
  refine lv_iload_n hx hb dX12_rename_1 rfl (lv_at hl 2 rfl) ?_
  refine w_cVi (As := [.int a2]) (rest := []) hF hH hA mv_X12_600 (fun sz => c_X12_number1 l D t h0 L _ hH.2 a2 _ hw sz) dX12_rename_2 rfl rfl (by decide) rfl hl.1 (Nat.le_of_ble_eq_true rfl) (by decide) rfl (fun z2 σ1 H locs hw hH => ?_)
  obtain ⟨K5, hK6, hw⟩ := jn_open hw
  refine w_join (K := K5) 13 (fun (x3 : Int32) => [(3, .long a3), (2, .int a2), (1, .int a1), (0, .ref h0)]) (fun (x3 : Int32) => [.int x3]) hl hH (fun x3 σ4 ls H locs hl hw hH => ?_) (fun jn7 => ?_)
  · have hw := hK6 x3 σ4 hw
    have hl : lv_has ls 10 [(3, .long a3), (2, .int a2), (1, .int a1), (0, .ref h0)] := hl
    refine lv_istore (lv' := [(5, .int x3), (3, .long a3), (2, .int a2), (1, .int a1), (0, .ref h0)]) hx hb dX12_rename_13 hl (by decide) rfl (fun ls hl => ?_)
    refine lv_aload_n hx hb dX12_rename_15 rfl (lv_at hl 4 rfl) ?_
    refine lv_iload_n hx hb dX12_rename_16 rfl (lv_at hl 2 rfl) ?_
    refine lv_bipush (v := 16) hx hb dX12_rename_17 (by decide) ?_
    refine lv_iadd hx hb dX12_rename_19 ?_
    refine w_nmi hw (fun z8 hw => ?_)
    refine lv_iconst (v := 4) hx hb dX12_rename_20 (by decide) ?_
    refine w_cVl (As := [.int z8, .int 4]) (rest := []) hF hH hA mv_X12_364 (fun sz => c_X12_number l D t h0 L _ hH.2 z8 4 _ hw sz) dX12_rename_21 rfl rfl (by decide) rfl hl.1 (Nat.le_of_ble_eq_true rfl) (by decide) rfl (fun z10 σ9 H locs hw hH => ?_)
    refine lv_lstore (lv' := [(6, .long z10), (5, .int x3), (3, .long a3), (2, .int a2), (1, .int a1), (0, .ref h0)]) hx hb dX12_rename_24 hl (by decide) rfl (fun ls hl => ?_)
    refine lv_lload hx hb dX12_rename_26 (lv_at hl 0 rfl) ?_
    refine lv_lload_n hx hb dX12_rename_28 rfl (lv_at hl 2 rfl) ?_
    refine lv_ldc2 (v := 20) hx hb hF.1.2.2.2.1 (hF.1.2.2.2.2 _ (wc_57 18 rfl)) dX12_rename_29 ?_
    refine lv_lsub hx hb dX12_rename_32 ?_
    refine w_nml hw (fun z11 hw => ?_)
    refine w_lif_le (tgt := 41) hF dX12_rename_33 dX12_rename_34 rfl hw (fun hw => ?_) (fun hw => ?_)
    · refine lv_aload_n hx hb dX12_rename_41 rfl (lv_at hl 5 rfl) ?_
      refine lv_iload_n hx hb dX12_rename_42 rfl (lv_at hl 3 rfl) ?_
      refine lv_bipush (v := 20) hx hb dX12_rename_43 (by decide) ?_
      refine lv_iadd hx hb dX12_rename_45 ?_
      refine w_nmi hw (fun z12 hw => ?_)
      refine lv_lload hx hb dX12_rename_46 (lv_at hl 0 rfl) ?_
      refine w_cVi (As := [.int z12, .long z10]) (rest := []) hF hH hA mv_X12_669 (fun sz => c_X12_readPath l D t h0 L _ hH.2 z12 z10 _ hw sz) dX12_rename_48 rfl rfl (by decide) rfl hl.1 (Nat.le_of_ble_eq_true rfl) (by decide) rfl (fun z14 σ13 H locs hw hH => ?_)
      refine w_if_ne (tgt := 58) hF dX12_rename_51 rfl hw (fun hw => ?_) (fun hw => ?_)
      · refine lv_aload_n hx hb dX12_rename_58 rfl (lv_at hl 5 rfl) ?_
        refine lv_aload_n hx hb dX12_rename_59 rfl (lv_at hl 5 rfl) ?_
        refine w_getA 11 hF hH fk_X12_47 dX12_rename_60 (by decide) rfl ?_
        refine lv_aload_n hx hb dX12_rename_63 rfl (lv_at hl 5 rfl) ?_
        refine w_getA 40 hF hH fk_X12_136 dX12_rename_64 (by decide) rfl ?_
        refine lv_aload_n hx hb dX12_rename_67 rfl (lv_at hl 5 rfl) ?_
        refine w_getI hF hH fk_X12_498 dX12_rename_68 hw (fun z15 hw => ?_)
        refine w_iald 40 16 hF hH dX12_rename_71 (by decide) rfl rfl hw (fun z16 hw => ?_)
        refine w_iald 11 4 hF hH dX12_rename_72 (by decide) rfl rfl hw (fun z17 hw => ?_)
        refine w_cVi (As := [.int z17]) (rest := []) hF hH hA mv_X12_674 (fun sz => c_X12_goes l D t h0 L _ hH.2 z17 _ hw sz) dX12_rename_73 rfl rfl (by decide) rfl hl.1 (Nat.le_of_ble_eq_true rfl) (by decide) rfl (fun z19 σ18 H locs hw hH => ?_)
        refine w_if_ne (tgt := 83) hF dX12_rename_76 rfl hw (fun hw => ?_) (fun hw => ?_)
        · refine lv_aload_n hx hb dX12_rename_83 rfl (lv_at hl 5 rfl) ?_
          refine w_getI hF hH fk_X12_619 dX12_rename_84 hw (fun z20 hw => ?_)
          obtain ⟨K23, hK24, hw⟩ := jn_open hw
          refine w_join (K := K23) 99 (fun (x21 : Unit) => []) (fun (x21 : Unit) => []) hl hH (fun x21 σ22 ls H locs hl hw hH => ?_) (fun jn25 => ?_)
          · have hw := hK24 x21 σ22 hw
            have hl : lv_has ls 10 [] := hl
            refine lv_ldc2 (v := 3221225506) hx hb hF.1.2.2.2.1 (hF.1.2.2.2.2 _ (wc_53 35 rfl)) dX12_rename_99 ?_
            exact w_retl hF hH hr hlk dX12_rename_102 hw
          · skip
            refine w_if_eq (tgt := 99) hF dX12_rename_87 rfl hw (fun hw => ?_) (fun hw => ?_)
            · have hl : lv_has ls 10 [] := lv_sub hl [] rfl
              exact jn25 () σ18 ls _ _ hl hw hH
            · refine lv_aload_n hx hb dX12_rename_90 rfl (lv_at hl 5 rfl) ?_
              refine w_getA 2 hF hH fk_X12_17 dX12_rename_91 (by decide) rfl ?_
              refine lv_iload_n hx hb dX12_rename_94 rfl (lv_at hl 4 rfl) ?_
              refine w_iald 2 160 hF hH dX12_rename_95 (by decide) rfl rfl hw (fun z26 hw => ?_)
              refine w_if_ge (tgt := 103) hF dX12_rename_96 rfl hw (fun hw => ?_) (fun hw => ?_)
              · refine lv_aload_n hx hb dX12_rename_103 rfl (lv_at hl 5 rfl) ?_
                refine w_getA 3 hF hH fk_X12_21 dX12_rename_104 (by decide) rfl ?_
                refine lv_iload_n hx hb dX12_rename_107 rfl (lv_at hl 4 rfl) ?_
                refine w_zald 3 160 hF hH dX12_rename_108 (by decide) rfl rfl hw (fun z27 hw => ?_)
                obtain ⟨K30, hK31, hw⟩ := jn_open hw
                refine w_join (K := K30) 128 (fun (x28 : Unit) => [(5, .int x3), (1, .int a1), (0, .ref h0)]) (fun (x28 : Unit) => []) hl hH (fun x28 σ29 ls H locs hl hw hH => ?_) (fun jn32 => ?_)
                · have hw := hK31 x28 σ29 hw
                  have hl : lv_has ls 10 [(5, .int x3), (1, .int a1), (0, .ref h0)] := hl
                  refine lv_iconst (v := 0) hx hb dX12_rename_128 (by decide) ?_
                  refine lv_istore (lv' := [(8, .int 0), (5, .int x3), (1, .int a1), (0, .ref h0)]) hx hb dX12_rename_129 hl (by decide) rfl (fun ls hl => ?_)
                  refine w_loop (β := Int32) (fun x33 => [(8, .int x33), (5, .int x3), (1, .int a1), (0, .ref h0)]) 0 hl hw hH (fun K35 x33 σ34 ls H locs hl hw hH ih36 => ?_)
                  have hl : lv_has ls 10 [(8, .int x33), (5, .int x3), (1, .int a1), (0, .ref h0)] := hl
                  refine lv_iload hx hb dX12_rename_131 (lv_at hl 0 rfl) ?_
                  refine lv_bipush (v := 40) hx hb dX12_rename_133 (by decide) ?_
                  obtain ⟨K39, hK40, hw⟩ := jn_open hw
                  refine w_join (K := K39) 195 (fun (x37 : Unit) => [(5, .int x3), (1, .int a1), (0, .ref h0)]) (fun (x37 : Unit) => []) hl hH (fun x37 σ38 ls H locs hl hw hH => ?_) (fun jn41 => ?_)
                  · have hw := hK40 x37 σ38 hw
                    have hl : lv_has ls 10 [(5, .int x3), (1, .int a1), (0, .ref h0)] := hl
                    refine lv_aload_n hx hb dX12_rename_195 rfl (lv_at hl 2 rfl) ?_
                    refine w_getI hF hH fk_X12_628 dX12_rename_196 hw (fun z42 hw => ?_)
                    refine lv_istore (lv' := [(8, .int z42), (5, .int x3), (1, .int a1), (0, .ref h0)]) hx hb dX12_rename_199 hl (by decide) rfl (fun ls hl => ?_)
                    refine lv_iload hx hb dX12_rename_201 (lv_at hl 0 rfl) ?_
                    obtain ⟨K45, hK46, hw⟩ := jn_open hw
                    refine w_join (K := K45) 268 (fun (x43 : Unit) => [(1, .int a1), (0, .ref h0)]) (fun (x43 : Unit) => []) hl hH (fun x43 σ44 ls H locs hl hw hH => ?_) (fun jn47 => ?_)
                    · have hw := hK46 x43 σ44 hw
                      have hl : lv_has ls 10 [(1, .int a1), (0, .ref h0)] := hl
                      refine lv_aload_n hx hb dX12_rename_268 rfl (lv_at hl 1 rfl) ?_
                      refine lv_iconst (v := 4) hx hb dX12_rename_269 (by decide) ?_
                      refine lv_iload_n hx hb dX12_rename_270 rfl (lv_at hl 0 rfl) ?_
                      refine w_cVi (As := [.int 4, .int a1]) (rest := []) hF hH hA mv_X12_734 (fun sz => c_X12_record l D t h0 L _ hH.2 4 a1 _ hw sz) dX12_rename_271 rfl rfl (by decide) rfl hl.1 (Nat.le_of_ble_eq_true rfl) (by decide) rfl (fun z49 σ48 H locs hw hH => ?_)
                      refine lv_istore (lv' := [(9, .int z49), (1, .int a1), (0, .ref h0)]) hx hb dX12_rename_274 hl (by decide) rfl (fun ls hl => ?_)
                      refine lv_aload_n hx hb dX12_rename_276 rfl (lv_at hl 2 rfl) ?_
                      refine w_getA 16 hF hH fk_X12_62 dX12_rename_277 (by decide) rfl ?_
                      refine lv_iload hx hb dX12_rename_280 (lv_at hl 0 rfl) ?_
                      refine lv_aload_n hx hb dX12_rename_282 rfl (lv_at hl 2 rfl) ?_
                      refine w_getI hF hH fk_X12_625 dX12_rename_283 hw (fun z50 hw => ?_)
                      refine w_iast 16 9 hF hH dX12_rename_286 (by decide) rfl rfl hw (fun σ51 H locs hw hH => ?_)
                      refine lv_aload_n hx hb dX12_rename_287 rfl (lv_at hl 2 rfl) ?_
                      refine lv_iload hx hb dX12_rename_288 (lv_at hl 0 rfl) ?_
                      refine lv_aload_n hx hb dX12_rename_290 rfl (lv_at hl 2 rfl) ?_
                      refine w_getI hF hH fk_X12_619 dX12_rename_291 hw (fun z52 hw => ?_)
                      refine lv_iconst (v := 1) hx hb dX12_rename_294 (by decide) ?_
                      refine lv_isub hx hb dX12_rename_295 ?_
                      refine w_nmi hw (fun z53 hw => ?_)
                      refine w_cVv (As := [.int z49, .int z53]) (rest := []) hF hH hA mv_X12_743 (fun sz => c_X12_nameIt l D t h0 L _ hH.2 z49 z53 _ hw sz) dX12_rename_296 rfl rfl (by decide) rfl hl.1 (Nat.le_of_ble_eq_true rfl) (by decide) rfl (fun σ54 H locs hw hH => ?_)
                      refine lv_aload_n hx hb dX12_rename_299 rfl (lv_at hl 2 rfl) ?_
                      refine w_getA 21 hF hH fk_X12_77 dX12_rename_300 (by decide) rfl ?_
                      refine lv_iconst (v := 4) hx hb dX12_rename_303 (by decide) ?_
                      refine lv_iload hx hb dX12_rename_304 (lv_at hl 0 rfl) ?_
                      refine lv_imul hx hb dX12_rename_306 ?_
                      refine w_nmi hw (fun z56 hw => ?_)
                      refine lv_iconst (v := 3) hx hb dX12_rename_307 (by decide) ?_
                      refine lv_iadd hx hb dX12_rename_308 ?_
                      refine w_nmi hw (fun z57 hw => ?_)
                      refine lv_aload_n hx hb dX12_rename_309 rfl (lv_at hl 2 rfl) ?_
                      refine w_getJ hF hH fk_X12_322 dX12_rename_310 hw (fun z58 hw => ?_)
                      refine w_last 21 36 hF hH dX12_rename_313 (by decide) rfl rfl hw (fun σ59 H locs hw hH => ?_)
                      refine lv_aload_n hx hb dX12_rename_314 rfl (lv_at hl 2 rfl) ?_
                      refine w_cVv (As := []) (rest := []) hF hH hA mv_X12_737 (fun sz => c_X12_done l D t h0 L _ hH.2  _ hw sz) dX12_rename_315 rfl rfl (by decide) rfl hl.1 (Nat.le_of_ble_eq_true rfl) (by decide) rfl (fun σ60 H locs hw hH => ?_)
                      refine lv_lconst (v := 0) hx hb dX12_rename_318 (by decide) ?_
                      exact w_retl hF hH hr hlk dX12_rename_319 hw
                    · skip
                      refine w_if_lt (tgt := 268) hF dX12_rename_203 rfl hw (fun hw => ?_) (fun hw => ?_)
                      · have hl : lv_has ls 10 [(1, .int a1), (0, .ref h0)] := lv_sub hl [2, 3] rfl
                        exact jn47 () σ38 ls _ _ hl hw hH
                      · refine lv_iload hx hb dX12_rename_206 (lv_at hl 0 rfl) ?_
                        refine lv_iload_n hx hb dX12_rename_208 rfl (lv_at hl 2 rfl) ?_
                        refine w_icmp_eq (tgt := 268) hF dX12_rename_209 rfl hw (fun hw => ?_) (fun hw => ?_)
                        · have hl : lv_has ls 10 [(1, .int a1), (0, .ref h0)] := lv_sub hl [2, 3] rfl
                          exact jn47 () σ38 ls _ _ hl hw hH
                        · refine lv_iload hx hb dX12_rename_212 (lv_at hl 1 rfl) ?_
                          refine w_if_ne (tgt := 221) hF dX12_rename_214 rfl hw (fun hw => ?_) (fun hw => ?_)
                          · refine lv_aload_n hx hb dX12_rename_221 rfl (lv_at hl 3 rfl) ?_
                            refine w_getA 3 hF hH fk_X12_21 dX12_rename_222 (by decide) rfl ?_
                            refine lv_iload hx hb dX12_rename_225 (lv_at hl 0 rfl) ?_
                            refine w_zald 3 160 hF hH dX12_rename_227 (by decide) rfl rfl hw (fun z62 hw => ?_)
                            obtain ⟨K65, hK66, hw⟩ := jn_open hw
                            refine w_join (K := K65) 252 (fun (x63 : Unit) => []) (fun (x63 : Unit) => []) hl hH (fun x63 σ64 ls H locs hl hw hH => ?_) (fun jn67 => ?_)
                            · have hw := hK66 x63 σ64 hw
                              have hl : lv_has ls 10 [] := hl
                              refine lv_ldc2 (v := 3221225506) hx hb hF.1.2.2.2.1 (hF.1.2.2.2.2 _ (wc_53 35 rfl)) dX12_rename_252 ?_
                              exact w_retl hF hH hr hlk dX12_rename_255 hw
                            · skip
                              refine w_if_ne (tgt := 252) hF dX12_rename_228 rfl hw (fun hw => ?_) (fun hw => ?_)
                              · have hl : lv_has ls 10 [] := lv_sub hl [] rfl
                                exact jn67 () σ38 ls _ _ hl hw hH
                              · refine lv_aload_n hx hb dX12_rename_231 rfl (lv_at hl 3 rfl) ?_
                                refine lv_iload hx hb dX12_rename_232 (lv_at hl 0 rfl) ?_
                                refine w_cVi (As := [.int z42]) (rest := []) hF hH hA mv_X12_746 (fun sz => c_X12_isOpened l D t h0 L _ hH.2 z42 _ hw sz) dX12_rename_234 rfl rfl (by decide) rfl hl.1 (Nat.le_of_ble_eq_true rfl) (by decide) rfl (fun z69 σ68 H locs hw hH => ?_)
                                refine w_if_ne (tgt := 252) hF dX12_rename_237 rfl hw (fun hw => ?_) (fun hw => ?_)
                                · have hl : lv_has ls 10 [] := lv_sub hl [] rfl
                                  exact jn67 () σ68 ls _ _ hl hw hH
                                · refine lv_aload_n hx hb dX12_rename_240 rfl (lv_at hl 3 rfl) ?_
                                  refine w_getA 6 hF hH fk_X12_30 dX12_rename_241 (by decide) rfl ?_
                                  refine lv_iload hx hb dX12_rename_244 (lv_at hl 0 rfl) ?_
                                  refine w_iald 6 160 hF hH dX12_rename_246 (by decide) rfl rfl hw (fun z70 hw => ?_)
                                  refine lv_iconst (v := 1) hx hb dX12_rename_247 (by decide) ?_
                                  refine lv_iand hx hb dX12_rename_248 ?_
                                  refine w_nmi hw (fun z71 hw => ?_)
                                  refine w_if_eq (tgt := 256) hF dX12_rename_249 rfl hw (fun hw => ?_) (fun hw => ?_)
                                  · refine lv_aload_n hx hb dX12_rename_256 rfl (lv_at hl 3 rfl) ?_
                                    refine lv_iconst (v := 5) hx hb dX12_rename_257 (by decide) ?_
                                    refine lv_iload hx hb dX12_rename_258 (lv_at hl 0 rfl) ?_
                                    refine w_cVi (As := [.int 5, .int z42]) (rest := []) hF hH hA mv_X12_734 (fun sz => c_X12_record l D t h0 L _ hH.2 5 z42 _ hw sz) dX12_rename_260 rfl rfl (by decide) rfl hl.1 (Nat.le_of_ble_eq_true rfl) (by decide) rfl (fun z73 σ72 H locs hw hH => ?_)
                                    refine lv_pop hx hb dX12_rename_263 rfl ?_
                                    refine lv_aload_n hx hb dX12_rename_264 rfl (lv_at hl 3 rfl) ?_
                                    refine w_cVv (As := []) (rest := []) hF hH hA mv_X12_737 (fun sz => c_X12_done l D t h0 L _ hH.2  _ hw sz) dX12_rename_265 rfl rfl (by decide) rfl hl.1 (Nat.le_of_ble_eq_true rfl) (by decide) rfl (fun σ74 H locs hw hH => ?_)
                                    have hl : lv_has ls 10 [(1, .int a1), (0, .ref h0)] := lv_sub hl [2, 3] rfl
                                    exact jn47 () σ74 ls _ _ hl hw hH
                                  · have hl : lv_has ls 10 [] := lv_sub hl [] rfl
                                    exact jn67 () σ68 ls _ _ hl hw hH
                          · refine lv_ldc2 (v := 3221225525) hx hb hF.1.2.2.2.1 (hF.1.2.2.2.2 _ (wc_54 32 rfl)) dX12_rename_217 ?_
                            exact w_retl hF hH hr hlk dX12_rename_220 hw
                  · skip
                    refine w_icmp_ge (tgt := 195) hF dX12_rename_135 rfl hw (fun hw => ?_) (fun hw => ?_)
                    · have hl : lv_has ls 10 [(5, .int x3), (1, .int a1), (0, .ref h0)] := lv_sub hl [1, 2, 3] rfl
                      exact jn41 () σ34 ls _ _ hl hw hH
                    · refine lv_aload_n hx hb dX12_rename_138 rfl (lv_at hl 3 rfl) ?_
                      refine w_getA 3 hF hH fk_X12_21 dX12_rename_139 (by decide) rfl ?_
                      refine lv_iload_n hx hb dX12_rename_142 rfl (lv_at hl 2 rfl) ?_
                      refine w_zald 3 160 hF hH dX12_rename_143 (by decide) rfl rfl hw (fun z76 hw => ?_)
                      refine w_if_eq (tgt := 195) hF dX12_rename_144 rfl hw (fun hw => ?_) (fun hw => ?_)
                      · have hl : lv_has ls 10 [(5, .int x3), (1, .int a1), (0, .ref h0)] := lv_sub hl [1, 2, 3] rfl
                        exact jn41 () σ34 ls _ _ hl hw hH
                      · refine lv_aload_n hx hb dX12_rename_147 rfl (lv_at hl 3 rfl) ?_
                        refine w_getA 41 hF hH fk_X12_139 dX12_rename_148 (by decide) rfl ?_
                        refine lv_iload hx hb dX12_rename_151 (lv_at hl 0 rfl) ?_
                        refine w_lald 41 40 hF hH dX12_rename_153 (by decide) rfl rfl hw (fun z77 hw => ?_)
                        refine lv_lconst (v := 0) hx hb dX12_rename_154 (by decide) ?_
                        obtain ⟨K80, hK81, hw⟩ := jn_open hw
                        refine w_join (K := K80) 189 (fun (x78 : Unit) => [(8, .int x33), (5, .int x3), (1, .int a1), (0, .ref h0)]) (fun (x78 : Unit) => []) hl hH (fun x78 σ79 ls H locs hl hw hH => ?_) (fun jn82 => ?_)
                        · have hw := hK81 x78 σ79 hw
                          have hl : lv_has ls 10 [(8, .int x33), (5, .int x3), (1, .int a1), (0, .ref h0)] := hl
                          obtain ⟨z83, ez83⟩ : ∃ z : Int32, z = x33 + 1 := ⟨_, rfl⟩
                          have hw := hw z83 ez83
                          refine lv_iinc (lv' := [(8, .int z83), (5, .int x3), (1, .int a1), (0, .ref h0)]) (k := 0) (v := z83) hx hb dX12_rename_189 hl rfl ez83.symm (by decide) rfl (fun ls hl => ?_)
                          refine lv_goto (tgt := 131) hx hb dX12_rename_192 rfl ?_
                          exact ih36 z83 σ79 ls _ _ hl hw hH
                        · skip
                          refine w_lif_le (tgt := 189) hF dX12_rename_155 dX12_rename_156 rfl hw (fun hw => ?_) (fun hw => ?_)
                          · exact jn82 () σ34 ls _ _ hl hw hH
                          · refine lv_aload_n hx hb dX12_rename_159 rfl (lv_at hl 3 rfl) ?_
                            refine w_getA 43 hF hH fk_X12_145 dX12_rename_160 (by decide) rfl ?_
                            refine lv_iload hx hb dX12_rename_163 (lv_at hl 0 rfl) ?_
                            refine w_iald 43 40 hF hH dX12_rename_165 (by decide) rfl rfl hw (fun z84 hw => ?_)
                            refine lv_iload_n hx hb dX12_rename_166 rfl (lv_at hl 2 rfl) ?_
                            refine w_icmp_eq (tgt := 189) hF dX12_rename_167 rfl hw (fun hw => ?_) (fun hw => ?_)
                            · exact jn82 () σ34 ls _ _ hl hw hH
                            · refine lv_aload_n hx hb dX12_rename_170 rfl (lv_at hl 3 rfl) ?_
                              refine lv_aload_n hx hb dX12_rename_171 rfl (lv_at hl 3 rfl) ?_
                              refine w_getA 43 hF hH fk_X12_145 dX12_rename_172 (by decide) rfl ?_
                              refine lv_iload hx hb dX12_rename_175 (lv_at hl 0 rfl) ?_
                              refine w_iald 43 40 hF hH dX12_rename_177 (by decide) rfl rfl hw (fun z85 hw => ?_)
                              refine lv_iload_n hx hb dX12_rename_178 rfl (lv_at hl 2 rfl) ?_
                              refine w_cVi (As := [.int z85, .int a1]) (rest := []) hF hH hA mv_X12_859 (fun sz => c_X12_isBelow l D t h0 L _ hH.2 z85 a1 _ hw sz) dX12_rename_179 rfl rfl (by decide) rfl hl.1 (Nat.le_of_ble_eq_true rfl) (by decide) rfl (fun z87 σ86 H locs hw hH => ?_)
                              refine w_if_eq (tgt := 189) hF dX12_rename_182 rfl hw (fun hw => ?_) (fun hw => ?_)
                              · exact jn82 () σ86 ls _ _ hl hw hH
                              · refine lv_ldc2 (v := 3221225506) hx hb hF.1.2.2.2.1 (hF.1.2.2.2.2 _ (wc_53 35 rfl)) dX12_rename_185 ?_
                                exact w_retl hF hH hr hlk dX12_rename_188 hw
                · skip
                  refine w_if_eq (tgt := 128) hF dX12_rename_109 rfl hw (fun hw => ?_) (fun hw => ?_)
                  · have hl : lv_has ls 10 [(5, .int x3), (1, .int a1), (0, .ref h0)] := lv_sub hl [1, 4, 5] rfl
                    exact jn32 () σ18 ls _ _ hl hw hH
                  · refine lv_aload_n hx hb dX12_rename_112 rfl (lv_at hl 5 rfl) ?_
                    refine lv_aload_n hx hb dX12_rename_113 rfl (lv_at hl 5 rfl) ?_
                    refine w_getI hF hH fk_X12_625 dX12_rename_114 hw (fun z88 hw => ?_)
                    refine lv_iload_n hx hb dX12_rename_117 rfl (lv_at hl 4 rfl) ?_
                    refine w_cVi (As := [.int z88, .int a1]) (rest := []) hF hH hA mv_X12_859 (fun sz => c_X12_isBelow l D t h0 L _ hH.2 z88 a1 _ hw sz) dX12_rename_118 rfl rfl (by decide) rfl hl.1 (Nat.le_of_ble_eq_true rfl) (by decide) rfl (fun z90 σ89 H locs hw hH => ?_)
                    refine w_if_eq (tgt := 128) hF dX12_rename_121 rfl hw (fun hw => ?_) (fun hw => ?_)
                    · have hl : lv_has ls 10 [(5, .int x3), (1, .int a1), (0, .ref h0)] := lv_sub hl [1, 4, 5] rfl
                      exact jn32 () σ89 ls _ _ hl hw hH
                    · refine lv_ldc2 (v := 3221225485) hx hb hF.1.2.2.2.1 (hF.1.2.2.2.2 _ (wc_47 33 rfl)) dX12_rename_124 ?_
                      exact w_retl hF hH hr hlk dX12_rename_127 hw
              · have hl : lv_has ls 10 [] := lv_sub hl [] rfl
                exact jn25 () σ18 ls _ _ hl hw hH
        · refine lv_ldc2 (v := 3221225530) hx hb hF.1.2.2.2.1 (hF.1.2.2.2.2 _ (wc_54 3 rfl)) dX12_rename_79 ?_
          exact w_retl hF hH hr hlk dX12_rename_82 hw
      · refine lv_ldc2 (v := 3221225523) hx hb hF.1.2.2.2.1 (hF.1.2.2.2.2 _ (wc_53 39 rfl)) dX12_rename_54 ?_
        exact w_retl hF hH hr hlk dX12_rename_57 hw
    · refine lv_ldc2 (v := 3221225476) hx hb hF.1.2.2.2.1 (hF.1.2.2.2.2 _ (wc_56 34 rfl)) dX12_rename_37 ?_
      exact w_retl hF hH hr hlk dX12_rename_40 hw
  · skip
    refine w_if_eq (tgt := 12) hF dX12_rename_5 rfl hw (fun hw => ?_) (fun hw => ?_)
    · refine lv_iconst (v := 0) hx hb dX12_rename_12 (by decide) ?_
      have hl : lv_has ls 10 [(3, .long a3), (2, .int a2), (1, .int a1), (0, .ref h0)] := lv_sub hl [3, 2, 1, 0] rfl
      exact jn7 0 σ1 ls _ _ hl hw hH
    · refine lv_iconst (v := 1) hx hb dX12_rename_8 (by decide) ?_
      refine lv_goto (tgt := 13) hx hb dX12_rename_9 rfl ?_
      have hl : lv_has ls 10 [(3, .long a3), (2, .int a2), (1, .int a1), (0, .ref h0)] := lv_sub hl [3, 2, 1, 0] rfl
      exact jn7 1 σ1 ls _ _ hl hw hH

/-! the reference, lifted: 14 -/
def F_X12_drop (h0 : Nat) (L : Nat → Nat) (a1 : Int32) (post : Int32 → HS → Prop) (σ : HS) : Prop := F_X12_isLine h0 L a1 (fun (z2 : Int32) (σ1 : HS) => ((¬ z2.toInt = 0) → (0 ≤ a1.toInt ∧ a1.toInt < 6) ∧ ∀ z3 : Int32, z3 = sI σ1 (L 28) a1.toInt.toNat → (0 ≤ a1.toInt ∧ a1.toInt < 6) ∧ ∀ σ4 : HS, σ4 = h_uI σ1 (L 28) a1.toInt.toNat 0 → post z3 σ4) ∧ ((z2.toInt = 0) → post (-1) σ1)) σ
theorem dX12_drop_0 : decode cX12_drop 0 = .ok (.iload_n 1, 1) := by decide +kernel
theorem dX12_drop_1 : decode cX12_drop 1 = .ok (.invokestatic 325, 3) := by decide +kernel
theorem dX12_drop_4 : decode cX12_drop 4 = .ok (.ifCond .ne 5, 3) := by decide +kernel
theorem dX12_drop_7 : decode cX12_drop 7 = .ok (.iconst (-1), 1) := by decide +kernel
theorem dX12_drop_8 : decode cX12_drop 8 = .ok (.ireturn, 1) := by decide +kernel
theorem dX12_drop_9 : decode cX12_drop 9 = .ok (.aload_n 0, 1) := by decide +kernel
theorem dX12_drop_10 : decode cX12_drop 10 = .ok (.getfield 99, 3) := by decide +kernel
theorem dX12_drop_13 : decode cX12_drop 13 = .ok (.iload_n 1, 1) := by decide +kernel
theorem dX12_drop_14 : decode cX12_drop 14 = .ok (.iaload, 1) := by decide +kernel
theorem dX12_drop_15 : decode cX12_drop 15 = .ok (.istore_n 2, 1) := by decide +kernel
theorem dX12_drop_16 : decode cX12_drop 16 = .ok (.aload_n 0, 1) := by decide +kernel
theorem dX12_drop_17 : decode cX12_drop 17 = .ok (.getfield 99, 3) := by decide +kernel
theorem dX12_drop_20 : decode cX12_drop 20 = .ok (.iload_n 1, 1) := by decide +kernel
theorem dX12_drop_21 : decode cX12_drop 21 = .ok (.iconst 0, 1) := by decide +kernel
theorem dX12_drop_22 : decode cX12_drop 22 = .ok (.iastore, 1) := by decide +kernel
theorem dX12_drop_23 : decode cX12_drop 23 = .ok (.iload_n 2, 1) := by decide +kernel
theorem dX12_drop_24 : decode cX12_drop 24 = .ok (.ireturn, 1) := by decide +kernel
set_option maxRecDepth 100000 in
set_option maxHeartbeats 4000000 in
theorem c_X12_drop (l : Launch) (D : va_G) (t : Nat → ClassId) (h0 : Nat) (L : Nat → Nat) (σ : HS) (hM : MdI h0 L σ) (a1 : Int32) (post : Int32 → HS → Prop) (hw : F_X12_drop h0 L a1 post σ) (sz : Nat) : RMi l D t yX12_drop cX12_drop 3 (some .int) ({ frames := 1, cells := 0, slots := 0, locals := 20 }) h0 L σ sz [.ref h0, .int a1] post := by
  refine h_go (τ := τT) okT (by decide) (Nat.le_of_ble_eq_true rfl) ?_
  intro p e s m below meth c ls A hF hr hlk hAe hH0 hA hl
  unfold hB
  rw [hAe]
  clear hAe
  have hF : FX p m c cX12_drop 3 s _ RX12 D t := hF
  have hx := hF.1.1
  have hb := hF.1.2.1
  have hH : RT D t A s.heap h0 L σ s.heap [] := ⟨hH0, hM⟩
  have hl : lv_has ls 3 [(0, .ref h0), (1, .int a1)] := hl
  unfold F_X12_drop at hw
  refine lv_iload_n hx hb dX12_drop_0 rfl (lv_at hl 1 rfl) ?_
  refine w_cSi (As := [.int a1]) (rest := []) hF hH hA ms_X12_325 (fun sz => c_X12_isLine l D t h0 L _ hH.2 a1 _ hw sz) dX12_drop_1 rfl rfl (by decide) rfl hl.1 (Nat.le_of_ble_eq_true rfl) (by decide) rfl (fun z2 σ1 H locs hw hH => ?_)
  refine w_if_ne (tgt := 9) hF dX12_drop_4 rfl hw (fun hw => ?_) (fun hw => ?_)
  · refine lv_aload_n hx hb dX12_drop_9 rfl (lv_at hl 0 rfl) ?_
    refine w_getA 28 hF hH fk_X12_99 dX12_drop_10 (by decide) rfl ?_
    refine lv_iload_n hx hb dX12_drop_13 rfl (lv_at hl 1 rfl) ?_
    refine w_iald 28 6 hF hH dX12_drop_14 (by decide) rfl rfl hw (fun z3 hw => ?_)
    refine lv_istore_n (lv' := [(2, .int z3), (0, .ref h0), (1, .int a1)]) hx hb dX12_drop_15 rfl hl (by decide) rfl (fun ls hl => ?_)
    refine lv_aload_n hx hb dX12_drop_16 rfl (lv_at hl 1 rfl) ?_
    refine w_getA 28 hF hH fk_X12_99 dX12_drop_17 (by decide) rfl ?_
    refine lv_iload_n hx hb dX12_drop_20 rfl (lv_at hl 2 rfl) ?_
    refine lv_iconst (v := 0) hx hb dX12_drop_21 (by decide) ?_
    refine w_iast 28 6 hF hH dX12_drop_22 (by decide) rfl rfl hw (fun σ4 H locs hw hH => ?_)
    refine lv_iload_n hx hb dX12_drop_23 rfl (lv_at hl 0 rfl) ?_
    exact w_reti hF hH hr hlk rfl dX12_drop_24 hw
  · refine lv_iconst (v := (-1)) hx hb dX12_drop_7 (by decide) ?_
    exact w_reti hF hH hr hlk rfl dX12_drop_8 hw
def F_X12_told (h0 : Nat) (L : Nat → Nat) (a1 : Int32) (post : Int32 → HS → Prop) (σ : HS) : Prop := ((a1.toInt < 0 ∨ 8 < a1.toInt) → post (-1) σ) ∧ ((a1.toInt = 0) → ∀ z1 : Int64, z1 = sJ σ h0 2 → ∀ z2 : Int32, z2 = (z1 : Int64).toInt32 → post z2 σ) ∧ ((a1.toInt = 1) → ∀ z3 : Int32, z3 = sI σ h0 16 → post z3 σ) ∧ ((a1.toInt = 2) → F_X12_nodes h0 L 0 (fun (z5 : Int32) (σ4 : HS) => post z5 σ4) σ) ∧ ((a1.toInt = 3) → F_X12_count h0 L 41 40 (fun (z7 : Int32) (σ6 : HS) => post z7 σ6) σ) ∧ ((a1.toInt = 4) → ∀ z8 : Int32, z8 = sI σ h0 63 → post z8 σ) ∧ ((a1.toInt = 5) → ∀ z9 : Int32, z9 = sI σ h0 69 → post z9 σ) ∧ ((a1.toInt = 6) → F_X12_count h0 L 34 8 (fun (z11 : Int32) (σ10 : HS) => post z11 σ10) σ) ∧ ((a1.toInt = 7) → F_X12_count h0 L 38 16 (fun (z13 : Int32) (σ12 : HS) => post z13 σ12) σ) ∧ ((a1.toInt = 8) → F_X12_nodes h0 L 80 (fun (z15 : Int32) (σ14 : HS) => post z15 σ14) σ)
theorem dX12_told_0 : decode cX12_told 0 = .ok (.iload_n 1, 1) := by decide +kernel
theorem dX12_told_1 : decode cX12_told 1 = .ok (.tableswitch 112 0 8 #[51, 57, 62, 68, 77, 82, 87, 96, 105], 51) := by decide +kernel
theorem dX12_told_52 : decode cX12_told 52 = .ok (.aload_n 0, 1) := by decide +kernel
theorem dX12_told_53 : decode cX12_told 53 = .ok (.getfield 322, 3) := by decide +kernel
theorem dX12_told_56 : decode cX12_told 56 = .ok (.l2i, 1) := by decide +kernel
theorem dX12_told_57 : decode cX12_told 57 = .ok (.ireturn, 1) := by decide +kernel
theorem dX12_told_58 : decode cX12_told 58 = .ok (.aload_n 0, 1) := by decide +kernel
theorem dX12_told_59 : decode cX12_told 59 = .ok (.getfield 271, 3) := by decide +kernel
theorem dX12_told_62 : decode cX12_told 62 = .ok (.ireturn, 1) := by decide +kernel
theorem dX12_told_63 : decode cX12_told 63 = .ok (.aload_n 0, 1) := by decide +kernel
theorem dX12_told_64 : decode cX12_told 64 = .ok (.iconst 0, 1) := by decide +kernel
theorem dX12_told_65 : decode cX12_told 65 = .ok (.invokevirtual 315, 3) := by decide +kernel
theorem dX12_told_68 : decode cX12_told 68 = .ok (.ireturn, 1) := by decide +kernel
theorem dX12_told_69 : decode cX12_told 69 = .ok (.aload_n 0, 1) := by decide +kernel
theorem dX12_told_70 : decode cX12_told 70 = .ok (.aload_n 0, 1) := by decide +kernel
theorem dX12_told_71 : decode cX12_told 71 = .ok (.getfield 139, 3) := by decide +kernel
theorem dX12_told_74 : decode cX12_told 74 = .ok (.invokevirtual 688, 3) := by decide +kernel
theorem dX12_told_77 : decode cX12_told 77 = .ok (.ireturn, 1) := by decide +kernel
theorem dX12_told_78 : decode cX12_told 78 = .ok (.aload_n 0, 1) := by decide +kernel
theorem dX12_told_79 : decode cX12_told 79 = .ok (.getfield 289, 3) := by decide +kernel
theorem dX12_told_82 : decode cX12_told 82 = .ok (.ireturn, 1) := by decide +kernel
theorem dX12_told_83 : decode cX12_told 83 = .ok (.aload_n 0, 1) := by decide +kernel
theorem dX12_told_84 : decode cX12_told 84 = .ok (.getfield 292, 3) := by decide +kernel
theorem dX12_told_87 : decode cX12_told 87 = .ok (.ireturn, 1) := by decide +kernel
theorem dX12_told_88 : decode cX12_told 88 = .ok (.aload_n 0, 1) := by decide +kernel
theorem dX12_told_89 : decode cX12_told 89 = .ok (.aload_n 0, 1) := by decide +kernel
theorem dX12_told_90 : decode cX12_told 90 = .ok (.getfield 118, 3) := by decide +kernel
theorem dX12_told_93 : decode cX12_told 93 = .ok (.invokevirtual 688, 3) := by decide +kernel
theorem dX12_told_96 : decode cX12_told 96 = .ok (.ireturn, 1) := by decide +kernel
theorem dX12_told_97 : decode cX12_told 97 = .ok (.aload_n 0, 1) := by decide +kernel
theorem dX12_told_98 : decode cX12_told 98 = .ok (.aload_n 0, 1) := by decide +kernel
theorem dX12_told_99 : decode cX12_told 99 = .ok (.getfield 130, 3) := by decide +kernel
theorem dX12_told_102 : decode cX12_told 102 = .ok (.invokevirtual 688, 3) := by decide +kernel
theorem dX12_told_105 : decode cX12_told 105 = .ok (.ireturn, 1) := by decide +kernel
theorem dX12_told_106 : decode cX12_told 106 = .ok (.aload_n 0, 1) := by decide +kernel
theorem dX12_told_107 : decode cX12_told 107 = .ok (.bipush 80, 2) := by decide +kernel
theorem dX12_told_109 : decode cX12_told 109 = .ok (.invokevirtual 315, 3) := by decide +kernel
theorem dX12_told_112 : decode cX12_told 112 = .ok (.ireturn, 1) := by decide +kernel
theorem dX12_told_113 : decode cX12_told 113 = .ok (.iconst (-1), 1) := by decide +kernel
theorem dX12_told_114 : decode cX12_told 114 = .ok (.ireturn, 1) := by decide +kernel
set_option maxRecDepth 100000 in
set_option maxHeartbeats 4000000 in
theorem c_X12_told (l : Launch) (D : va_G) (t : Nat → ClassId) (h0 : Nat) (L : Nat → Nat) (σ : HS) (hM : MdI h0 L σ) (a1 : Int32) (post : Int32 → HS → Prop) (hw : F_X12_told h0 L a1 post σ) (sz : Nat) : RMi l D t yX12_told cX12_told 2 (some .int) ({ frames := 1, cells := 0, slots := 0, locals := 23 }) h0 L σ sz [.ref h0, .int a1] post := by
  refine h_go (τ := τT) okT (by decide) (Nat.le_of_ble_eq_true rfl) ?_
  intro p e s m below meth c ls A hF hr hlk hAe hH0 hA hl
  unfold hB
  rw [hAe]
  clear hAe
  have hF : FX p m c cX12_told 2 s _ RX12 D t := hF
  have hx := hF.1.1
  have hb := hF.1.2.1
  have hH : RT D t A s.heap h0 L σ s.heap [] := ⟨hH0, hM⟩
  have hl : lv_has ls 2 [(0, .ref h0), (1, .int a1)] := hl
  unfold F_X12_told at hw
  refine lv_iload_n hx hb dX12_told_0 rfl (lv_at hl 1 rfl) ?_
  by_cases ho : a1.toInt < 0 ∨ 8 < a1.toInt
  · have hw := hw.1 ho
    refine lv_tableOut (tgt := 113) hx hb dX12_told_1 ho rfl ?_
    refine lv_iconst (v := (-1)) hx hb dX12_told_113 (by decide) ?_
    exact w_reti hF hH hr hlk rfl dX12_told_114 hw
  · rcases (show a1.toInt = 0 ∨ a1.toInt = 1 ∨ a1.toInt = 2 ∨ a1.toInt = 3 ∨ a1.toInt = 4 ∨ a1.toInt = 5 ∨ a1.toInt = 6 ∨ a1.toInt = 7 ∨ a1.toInt = 8 by omega) with zt | zt | zt | zt | zt | zt | zt | zt | zt
    · have hw := hw.2.1 zt
      have hoff : (#[51, 57, 62, 68, 77, 82, 87, 96, 105] : Array Int)[(a1.toInt - 0).toNat]? = some 51 := by rw [zt]; rfl
      refine lv_tableIn (off := 51) (tgt := 52) hx hb dX12_told_1 (fun q => ho (Or.inl q)) (fun q => ho (Or.inr q)) hoff rfl ?_
      refine lv_aload_n hx hb dX12_told_52 rfl (lv_at hl 0 rfl) ?_
      refine w_getJ hF hH fk_X12_322 dX12_told_53 hw (fun z1 hw => ?_)
      refine lv_l2i hx hb dX12_told_56 rfl ?_
      refine w_nmi hw (fun z2 hw => ?_)
      exact w_reti hF hH hr hlk rfl dX12_told_57 hw
    · have hw := hw.2.2.1 zt
      have hoff : (#[51, 57, 62, 68, 77, 82, 87, 96, 105] : Array Int)[(a1.toInt - 0).toNat]? = some 57 := by rw [zt]; rfl
      refine lv_tableIn (off := 57) (tgt := 58) hx hb dX12_told_1 (fun q => ho (Or.inl q)) (fun q => ho (Or.inr q)) hoff rfl ?_
      refine lv_aload_n hx hb dX12_told_58 rfl (lv_at hl 0 rfl) ?_
      refine w_getI hF hH fk_X12_271 dX12_told_59 hw (fun z3 hw => ?_)
      exact w_reti hF hH hr hlk rfl dX12_told_62 hw
    · have hw := hw.2.2.2.1 zt
      have hoff : (#[51, 57, 62, 68, 77, 82, 87, 96, 105] : Array Int)[(a1.toInt - 0).toNat]? = some 62 := by rw [zt]; rfl
      refine lv_tableIn (off := 62) (tgt := 63) hx hb dX12_told_1 (fun q => ho (Or.inl q)) (fun q => ho (Or.inr q)) hoff rfl ?_
      refine lv_aload_n hx hb dX12_told_63 rfl (lv_at hl 0 rfl) ?_
      refine lv_iconst (v := 0) hx hb dX12_told_64 (by decide) ?_
      refine w_cVi (As := [.int 0]) (rest := []) hF hH hA mv_X12_315 (fun sz => c_X12_nodes l D t h0 L _ hH.2 0 _ hw sz) dX12_told_65 rfl rfl (by decide) rfl hl.1 (Nat.le_of_ble_eq_true rfl) (by decide) rfl (fun z5 σ4 H locs hw hH => ?_)
      exact w_reti hF hH hr hlk rfl dX12_told_68 hw
    · have hw := hw.2.2.2.2.1 zt
      have hoff : (#[51, 57, 62, 68, 77, 82, 87, 96, 105] : Array Int)[(a1.toInt - 0).toNat]? = some 68 := by rw [zt]; rfl
      refine lv_tableIn (off := 68) (tgt := 69) hx hb dX12_told_1 (fun q => ho (Or.inl q)) (fun q => ho (Or.inr q)) hoff rfl ?_
      refine lv_aload_n hx hb dX12_told_69 rfl (lv_at hl 0 rfl) ?_
      refine lv_aload_n hx hb dX12_told_70 rfl (lv_at hl 0 rfl) ?_
      refine w_getA 41 hF hH fk_X12_139 dX12_told_71 (by decide) rfl ?_
      refine w_cVi (As := [.ref (L 41)]) (rest := []) hF hH hA mv_X12_688 (fun sz => c_X12_count l D t h0 L _ hH.2 41 40 (by decide) rfl rfl (by decide) _ hw sz) dX12_told_74 rfl rfl (by decide) rfl hl.1 (Nat.le_of_ble_eq_true rfl) (by decide) rfl (fun z7 σ6 H locs hw hH => ?_)
      exact w_reti hF hH hr hlk rfl dX12_told_77 hw
    · have hw := hw.2.2.2.2.2.1 zt
      have hoff : (#[51, 57, 62, 68, 77, 82, 87, 96, 105] : Array Int)[(a1.toInt - 0).toNat]? = some 77 := by rw [zt]; rfl
      refine lv_tableIn (off := 77) (tgt := 78) hx hb dX12_told_1 (fun q => ho (Or.inl q)) (fun q => ho (Or.inr q)) hoff rfl ?_
      refine lv_aload_n hx hb dX12_told_78 rfl (lv_at hl 0 rfl) ?_
      refine w_getI hF hH fk_X12_289 dX12_told_79 hw (fun z8 hw => ?_)
      exact w_reti hF hH hr hlk rfl dX12_told_82 hw
    · have hw := hw.2.2.2.2.2.2.1 zt
      have hoff : (#[51, 57, 62, 68, 77, 82, 87, 96, 105] : Array Int)[(a1.toInt - 0).toNat]? = some 82 := by rw [zt]; rfl
      refine lv_tableIn (off := 82) (tgt := 83) hx hb dX12_told_1 (fun q => ho (Or.inl q)) (fun q => ho (Or.inr q)) hoff rfl ?_
      refine lv_aload_n hx hb dX12_told_83 rfl (lv_at hl 0 rfl) ?_
      refine w_getI hF hH fk_X12_292 dX12_told_84 hw (fun z9 hw => ?_)
      exact w_reti hF hH hr hlk rfl dX12_told_87 hw
    · have hw := hw.2.2.2.2.2.2.2.1 zt
      have hoff : (#[51, 57, 62, 68, 77, 82, 87, 96, 105] : Array Int)[(a1.toInt - 0).toNat]? = some 87 := by rw [zt]; rfl
      refine lv_tableIn (off := 87) (tgt := 88) hx hb dX12_told_1 (fun q => ho (Or.inl q)) (fun q => ho (Or.inr q)) hoff rfl ?_
      refine lv_aload_n hx hb dX12_told_88 rfl (lv_at hl 0 rfl) ?_
      refine lv_aload_n hx hb dX12_told_89 rfl (lv_at hl 0 rfl) ?_
      refine w_getA 34 hF hH fk_X12_118 dX12_told_90 (by decide) rfl ?_
      refine w_cVi (As := [.ref (L 34)]) (rest := []) hF hH hA mv_X12_688 (fun sz => c_X12_count l D t h0 L _ hH.2 34 8 (by decide) rfl rfl (by decide) _ hw sz) dX12_told_93 rfl rfl (by decide) rfl hl.1 (Nat.le_of_ble_eq_true rfl) (by decide) rfl (fun z11 σ10 H locs hw hH => ?_)
      exact w_reti hF hH hr hlk rfl dX12_told_96 hw
    · have hw := hw.2.2.2.2.2.2.2.2.1 zt
      have hoff : (#[51, 57, 62, 68, 77, 82, 87, 96, 105] : Array Int)[(a1.toInt - 0).toNat]? = some 96 := by rw [zt]; rfl
      refine lv_tableIn (off := 96) (tgt := 97) hx hb dX12_told_1 (fun q => ho (Or.inl q)) (fun q => ho (Or.inr q)) hoff rfl ?_
      refine lv_aload_n hx hb dX12_told_97 rfl (lv_at hl 0 rfl) ?_
      refine lv_aload_n hx hb dX12_told_98 rfl (lv_at hl 0 rfl) ?_
      refine w_getA 38 hF hH fk_X12_130 dX12_told_99 (by decide) rfl ?_
      refine w_cVi (As := [.ref (L 38)]) (rest := []) hF hH hA mv_X12_688 (fun sz => c_X12_count l D t h0 L _ hH.2 38 16 (by decide) rfl rfl (by decide) _ hw sz) dX12_told_102 rfl rfl (by decide) rfl hl.1 (Nat.le_of_ble_eq_true rfl) (by decide) rfl (fun z13 σ12 H locs hw hH => ?_)
      exact w_reti hF hH hr hlk rfl dX12_told_105 hw
    · have hw := hw.2.2.2.2.2.2.2.2.2 zt
      have hoff : (#[51, 57, 62, 68, 77, 82, 87, 96, 105] : Array Int)[(a1.toInt - 0).toNat]? = some 105 := by rw [zt]; rfl
      refine lv_tableIn (off := 105) (tgt := 106) hx hb dX12_told_1 (fun q => ho (Or.inl q)) (fun q => ho (Or.inr q)) hoff rfl ?_
      refine lv_aload_n hx hb dX12_told_106 rfl (lv_at hl 0 rfl) ?_
      refine lv_bipush (v := 80) hx hb dX12_told_107 (by decide) ?_
      refine w_cVi (As := [.int 80]) (rest := []) hF hH hA mv_X12_315 (fun sz => c_X12_nodes l D t h0 L _ hH.2 80 _ hw sz) dX12_told_109 rfl rfl (by decide) rfl hl.1 (Nat.le_of_ble_eq_true rfl) (by decide) rfl (fun z15 σ14 H locs hw hH => ?_)
      exact w_reti hF hH hr hlk rfl dX12_told_112 hw

/-! the reference, lifted: 4 -/
def F_X12_waitFor (h0 : Nat) (L : Nat → Nat) (a1 : Int32) (a2 : Int64) (post : Int32 → HS → Prop) (σ : HS) : Prop := ∀ z1 : Int32, z1 = sI σ h0 69 → ∀ z2 : Int32, z2 = sI σ h0 69 → ∀ z3 : Int32, z3 = z2 + 1 → ∀ σ4 : HS, σ4 = h_uI σ h0 69 z3 → ∀ z5 : Int64, z5 = sJ σ4 h0 62 → ∀ z6 : Int64, z6 = z5 + 1 → ∀ σ7 : HS, σ7 = h_uJ σ4 h0 62 z6 → ∀ z8 : Int32, z8 = sI σ7 h0 88 → (0 ≤ z1.toInt ∧ z1.toInt < 16) ∧ ∀ σ9 : HS, σ9 = h_uI σ7 (L 61) z1.toInt.toNat z8 → ∀ z10 : Int32, z10 = sI σ9 h0 93 → (0 ≤ z1.toInt ∧ z1.toInt < 16) ∧ ∀ σ11 : HS, σ11 = h_uI σ9 (L 62) z1.toInt.toNat z10 → F_X12_number2 h0 L 6 (fun (z13 : Int32) (σ12 : HS) => (0 ≤ z1.toInt ∧ z1.toInt < 16) ∧ ∀ σ14 : HS, σ14 = h_uI σ12 (L 63) z1.toInt.toNat z13 → ∀ z15 : Int32, z15 = sI σ14 h0 94 → (0 ≤ z1.toInt ∧ z1.toInt < 16) ∧ ∀ σ16 : HS, σ16 = h_uI σ14 (L 64) z1.toInt.toNat (vp_nar .boolean z15) → F_X12_number h0 L 24 8 (fun (z18 : Int64) (σ17 : HS) => (0 ≤ z1.toInt ∧ z1.toInt < 16) ∧ ∀ σ19 : HS, σ19 = h_uJ σ17 (L 65) z1.toInt.toNat z18 → ∀ z20 : Int64, z20 = sJ σ19 h0 62 → (0 ≤ z1.toInt ∧ z1.toInt < 16) ∧ ∀ σ21 : HS, σ21 = h_uJ σ19 (L 66) z1.toInt.toNat z20 → ∀ z22 : Int32, z22 = sI σ21 h0 98 → (0 ≤ z1.toInt ∧ z1.toInt < 16) ∧ ∀ σ23 : HS, σ23 = h_uI σ21 (L 67) z1.toInt.toNat z22 → ∀ z24 : Int32, z24 = sI σ23 h0 99 → (0 ≤ z1.toInt ∧ z1.toInt < 16) ∧ ∀ σ25 : HS, σ25 = h_uI σ23 (L 68) z1.toInt.toNat z24 → (0 ≤ z1.toInt ∧ z1.toInt < 16) ∧ ∀ σ26 : HS, σ26 = h_uJ σ25 (L 69) z1.toInt.toNat a2 → (0 ≤ z1.toInt ∧ z1.toInt < 16) ∧ ∀ σ27 : HS, σ27 = h_uI σ26 (L 70) z1.toInt.toNat a1 → (0 ≤ z1.toInt ∧ z1.toInt < 16) ∧ ∀ σ28 : HS, σ28 = h_uI σ27 (L 74) z1.toInt.toNat 0 → (0 ≤ (1 : Int32).toInt ∧ (1 : Int32).toInt ≤ 1) ∧ ∀ σ29 : HS, σ29 = h_uI σ28 h0 109 1 → post z1 σ29) σ16) σ11
theorem dX12_waitFor_0 : decode cX12_waitFor 0 = .ok (.aload_n 0, 1) := by decide +kernel
theorem dX12_waitFor_1 : decode cX12_waitFor 1 = .ok (.getfield 292, 3) := by decide +kernel
theorem dX12_waitFor_4 : decode cX12_waitFor 4 = .ok (.istore 4, 2) := by decide +kernel
theorem dX12_waitFor_6 : decode cX12_waitFor 6 = .ok (.aload_n 0, 1) := by decide +kernel
theorem dX12_waitFor_7 : decode cX12_waitFor 7 = .ok (.dup, 1) := by decide +kernel
theorem dX12_waitFor_8 : decode cX12_waitFor 8 = .ok (.getfield 292, 3) := by decide +kernel
theorem dX12_waitFor_11 : decode cX12_waitFor 11 = .ok (.iconst 1, 1) := by decide +kernel
theorem dX12_waitFor_12 : decode cX12_waitFor 12 = .ok (.iadd, 1) := by decide +kernel
theorem dX12_waitFor_13 : decode cX12_waitFor 13 = .ok (.putfield 292, 3) := by decide +kernel
theorem dX12_waitFor_16 : decode cX12_waitFor 16 = .ok (.aload_n 0, 1) := by decide +kernel
theorem dX12_waitFor_17 : decode cX12_waitFor 17 = .ok (.dup, 1) := by decide +kernel
theorem dX12_waitFor_18 : decode cX12_waitFor 18 = .ok (.getfield 305, 3) := by decide +kernel
theorem dX12_waitFor_21 : decode cX12_waitFor 21 = .ok (.lconst 1, 1) := by decide +kernel
theorem dX12_waitFor_22 : decode cX12_waitFor 22 = .ok (.ladd, 1) := by decide +kernel
theorem dX12_waitFor_23 : decode cX12_waitFor 23 = .ok (.putfield 305, 3) := by decide +kernel
theorem dX12_waitFor_26 : decode cX12_waitFor 26 = .ok (.aload_n 0, 1) := by decide +kernel
theorem dX12_waitFor_27 : decode cX12_waitFor 27 = .ok (.getfield 199, 3) := by decide +kernel
theorem dX12_waitFor_30 : decode cX12_waitFor 30 = .ok (.iload 4, 2) := by decide +kernel
theorem dX12_waitFor_32 : decode cX12_waitFor 32 = .ok (.aload_n 0, 1) := by decide +kernel
theorem dX12_waitFor_33 : decode cX12_waitFor 33 = .ok (.getfield 382, 3) := by decide +kernel
theorem dX12_waitFor_36 : decode cX12_waitFor 36 = .ok (.iastore, 1) := by decide +kernel
theorem dX12_waitFor_37 : decode cX12_waitFor 37 = .ok (.aload_n 0, 1) := by decide +kernel
theorem dX12_waitFor_38 : decode cX12_waitFor 38 = .ok (.getfield 202, 3) := by decide +kernel
theorem dX12_waitFor_41 : decode cX12_waitFor 41 = .ok (.iload 4, 2) := by decide +kernel
theorem dX12_waitFor_43 : decode cX12_waitFor 43 = .ok (.aload_n 0, 1) := by decide +kernel
theorem dX12_waitFor_44 : decode cX12_waitFor 44 = .ok (.getfield 418, 3) := by decide +kernel
theorem dX12_waitFor_47 : decode cX12_waitFor 47 = .ok (.iastore, 1) := by decide +kernel
theorem dX12_waitFor_48 : decode cX12_waitFor 48 = .ok (.aload_n 0, 1) := by decide +kernel
theorem dX12_waitFor_49 : decode cX12_waitFor 49 = .ok (.getfield 205, 3) := by decide +kernel
theorem dX12_waitFor_52 : decode cX12_waitFor 52 = .ok (.iload 4, 2) := by decide +kernel
theorem dX12_waitFor_54 : decode cX12_waitFor 54 = .ok (.aload_n 0, 1) := by decide +kernel
theorem dX12_waitFor_55 : decode cX12_waitFor 55 = .ok (.bipush 6, 2) := by decide +kernel
theorem dX12_waitFor_57 : decode cX12_waitFor 57 = .ok (.invokevirtual 415, 3) := by decide +kernel
theorem dX12_waitFor_60 : decode cX12_waitFor 60 = .ok (.iastore, 1) := by decide +kernel
theorem dX12_waitFor_61 : decode cX12_waitFor 61 = .ok (.aload_n 0, 1) := by decide +kernel
theorem dX12_waitFor_62 : decode cX12_waitFor 62 = .ok (.getfield 208, 3) := by decide +kernel
theorem dX12_waitFor_65 : decode cX12_waitFor 65 = .ok (.iload 4, 2) := by decide +kernel
theorem dX12_waitFor_67 : decode cX12_waitFor 67 = .ok (.aload_n 0, 1) := by decide +kernel
theorem dX12_waitFor_68 : decode cX12_waitFor 68 = .ok (.getfield 412, 3) := by decide +kernel
theorem dX12_waitFor_71 : decode cX12_waitFor 71 = .ok (.bastore, 1) := by decide +kernel
theorem dX12_waitFor_72 : decode cX12_waitFor 72 = .ok (.aload_n 0, 1) := by decide +kernel
theorem dX12_waitFor_73 : decode cX12_waitFor 73 = .ok (.getfield 211, 3) := by decide +kernel
theorem dX12_waitFor_76 : decode cX12_waitFor 76 = .ok (.iload 4, 2) := by decide +kernel
theorem dX12_waitFor_78 : decode cX12_waitFor 78 = .ok (.aload_n 0, 1) := by decide +kernel
theorem dX12_waitFor_79 : decode cX12_waitFor 79 = .ok (.bipush 24, 2) := by decide +kernel
theorem dX12_waitFor_81 : decode cX12_waitFor 81 = .ok (.bipush 8, 2) := by decide +kernel
theorem dX12_waitFor_83 : decode cX12_waitFor 83 = .ok (.invokevirtual 364, 3) := by decide +kernel
theorem dX12_waitFor_86 : decode cX12_waitFor 86 = .ok (.lastore, 1) := by decide +kernel
theorem dX12_waitFor_87 : decode cX12_waitFor 87 = .ok (.aload_n 0, 1) := by decide +kernel
theorem dX12_waitFor_88 : decode cX12_waitFor 88 = .ok (.getfield 214, 3) := by decide +kernel
theorem dX12_waitFor_91 : decode cX12_waitFor 91 = .ok (.iload 4, 2) := by decide +kernel
theorem dX12_waitFor_93 : decode cX12_waitFor 93 = .ok (.aload_n 0, 1) := by decide +kernel
theorem dX12_waitFor_94 : decode cX12_waitFor 94 = .ok (.getfield 305, 3) := by decide +kernel
theorem dX12_waitFor_97 : decode cX12_waitFor 97 = .ok (.lastore, 1) := by decide +kernel
theorem dX12_waitFor_98 : decode cX12_waitFor 98 = .ok (.aload_n 0, 1) := by decide +kernel
theorem dX12_waitFor_99 : decode cX12_waitFor 99 = .ok (.getfield 217, 3) := by decide +kernel
theorem dX12_waitFor_102 : decode cX12_waitFor 102 = .ok (.iload 4, 2) := by decide +kernel
theorem dX12_waitFor_104 : decode cX12_waitFor 104 = .ok (.aload_n 0, 1) := by decide +kernel
theorem dX12_waitFor_105 : decode cX12_waitFor 105 = .ok (.getfield 492, 3) := by decide +kernel
theorem dX12_waitFor_108 : decode cX12_waitFor 108 = .ok (.iastore, 1) := by decide +kernel
theorem dX12_waitFor_109 : decode cX12_waitFor 109 = .ok (.aload_n 0, 1) := by decide +kernel
theorem dX12_waitFor_110 : decode cX12_waitFor 110 = .ok (.getfield 220, 3) := by decide +kernel
theorem dX12_waitFor_113 : decode cX12_waitFor 113 = .ok (.iload 4, 2) := by decide +kernel
theorem dX12_waitFor_115 : decode cX12_waitFor 115 = .ok (.aload_n 0, 1) := by decide +kernel
theorem dX12_waitFor_116 : decode cX12_waitFor 116 = .ok (.getfield 498, 3) := by decide +kernel
theorem dX12_waitFor_119 : decode cX12_waitFor 119 = .ok (.iastore, 1) := by decide +kernel
theorem dX12_waitFor_120 : decode cX12_waitFor 120 = .ok (.aload_n 0, 1) := by decide +kernel
theorem dX12_waitFor_121 : decode cX12_waitFor 121 = .ok (.getfield 223, 3) := by decide +kernel
theorem dX12_waitFor_124 : decode cX12_waitFor 124 = .ok (.iload 4, 2) := by decide +kernel
theorem dX12_waitFor_126 : decode cX12_waitFor 126 = .ok (.lload_n 2, 1) := by decide +kernel
theorem dX12_waitFor_127 : decode cX12_waitFor 127 = .ok (.lastore, 1) := by decide +kernel
theorem dX12_waitFor_128 : decode cX12_waitFor 128 = .ok (.aload_n 0, 1) := by decide +kernel
theorem dX12_waitFor_129 : decode cX12_waitFor 129 = .ok (.getfield 226, 3) := by decide +kernel
theorem dX12_waitFor_132 : decode cX12_waitFor 132 = .ok (.iload 4, 2) := by decide +kernel
theorem dX12_waitFor_134 : decode cX12_waitFor 134 = .ok (.iload_n 1, 1) := by decide +kernel
theorem dX12_waitFor_135 : decode cX12_waitFor 135 = .ok (.iastore, 1) := by decide +kernel
theorem dX12_waitFor_136 : decode cX12_waitFor 136 = .ok (.aload_n 0, 1) := by decide +kernel
theorem dX12_waitFor_137 : decode cX12_waitFor 137 = .ok (.getfield 238, 3) := by decide +kernel
theorem dX12_waitFor_140 : decode cX12_waitFor 140 = .ok (.iload 4, 2) := by decide +kernel
theorem dX12_waitFor_142 : decode cX12_waitFor 142 = .ok (.iconst 0, 1) := by decide +kernel
theorem dX12_waitFor_143 : decode cX12_waitFor 143 = .ok (.iastore, 1) := by decide +kernel
theorem dX12_waitFor_144 : decode cX12_waitFor 144 = .ok (.aload_n 0, 1) := by decide +kernel
theorem dX12_waitFor_145 : decode cX12_waitFor 145 = .ok (.iconst 1, 1) := by decide +kernel
theorem dX12_waitFor_146 : decode cX12_waitFor 146 = .ok (.putfield 446, 3) := by decide +kernel
theorem dX12_waitFor_149 : decode cX12_waitFor 149 = .ok (.iload 4, 2) := by decide +kernel
theorem dX12_waitFor_151 : decode cX12_waitFor 151 = .ok (.ireturn, 1) := by decide +kernel
set_option maxRecDepth 100000 in
set_option maxHeartbeats 4000000 in
theorem c_X12_waitFor (l : Launch) (D : va_G) (t : Nat → ClassId) (h0 : Nat) (L : Nat → Nat) (σ : HS) (hM : MdI h0 L σ) (a1 : Int32) (a2 : Int64) (post : Int32 → HS → Prop) (hw : F_X12_waitFor h0 L a1 a2 post σ) (sz : Nat) : RMi l D t yX12_waitFor cX12_waitFor 5 (some .int) ({ frames := 2, cells := 0, slots := 0, locals := 46 }) h0 L σ sz [.ref h0, .int a1, .long a2] post := by
  refine h_go (τ := τT) okT (by decide) (Nat.le_of_ble_eq_true rfl) ?_
  intro p e s m below meth c ls A hF hr hlk hAe hH0 hA hl
  unfold hB
  rw [hAe]
  clear hAe
  have hF : FX p m c cX12_waitFor 5 s _ RX12 D t := hF
  have hx := hF.1.1
  have hb := hF.1.2.1
  have hH : RT D t A s.heap h0 L σ s.heap [] := ⟨hH0, hM⟩
  have hl : lv_has ls 5 [(0, .ref h0), (1, .int a1), (2, .long a2)] := hl
  unfold F_X12_waitFor at hw
  refine lv_aload_n hx hb dX12_waitFor_0 rfl (lv_at hl 0 rfl) ?_
  refine w_getI hF hH fk_X12_292 dX12_waitFor_1 hw (fun z1 hw => ?_)
  refine lv_istore (lv' := [(4, .int z1), (0, .ref h0), (1, .int a1), (2, .long a2)]) hx hb dX12_waitFor_4 hl (by decide) rfl (fun ls hl => ?_)
  refine lv_aload_n hx hb dX12_waitFor_6 rfl (lv_at hl 1 rfl) ?_
  refine lv_dup hx hb dX12_waitFor_7 rfl ?_
  refine w_getI hF hH fk_X12_292 dX12_waitFor_8 hw (fun z2 hw => ?_)
  refine lv_iconst (v := 1) hx hb dX12_waitFor_11 (by decide) ?_
  refine lv_iadd hx hb dX12_waitFor_12 ?_
  refine w_nmi hw (fun z3 hw => ?_)
  refine w_putI hF hH fk_X12_292 dX12_waitFor_13 rfl rfl rfl hw (fun σ4 H locs hw hH => ?_)
  refine lv_aload_n hx hb dX12_waitFor_16 rfl (lv_at hl 1 rfl) ?_
  refine lv_dup hx hb dX12_waitFor_17 rfl ?_
  refine w_getJ hF hH fk_X12_305 dX12_waitFor_18 hw (fun z5 hw => ?_)
  refine lv_lconst (v := 1) hx hb dX12_waitFor_21 (by decide) ?_
  refine lv_ladd hx hb dX12_waitFor_22 ?_
  refine w_nml hw (fun z6 hw => ?_)
  refine w_putJ hF hH fk_X12_305 dX12_waitFor_23 rfl rfl rfl hw (fun σ7 H locs hw hH => ?_)
  refine lv_aload_n hx hb dX12_waitFor_26 rfl (lv_at hl 1 rfl) ?_
  refine w_getA 61 hF hH fk_X12_199 dX12_waitFor_27 (by decide) rfl ?_
  refine lv_iload hx hb dX12_waitFor_30 (lv_at hl 0 rfl) ?_
  refine lv_aload_n hx hb dX12_waitFor_32 rfl (lv_at hl 1 rfl) ?_
  refine w_getI hF hH fk_X12_382 dX12_waitFor_33 hw (fun z8 hw => ?_)
  refine w_iast 61 16 hF hH dX12_waitFor_36 (by decide) rfl rfl hw (fun σ9 H locs hw hH => ?_)
  refine lv_aload_n hx hb dX12_waitFor_37 rfl (lv_at hl 1 rfl) ?_
  refine w_getA 62 hF hH fk_X12_202 dX12_waitFor_38 (by decide) rfl ?_
  refine lv_iload hx hb dX12_waitFor_41 (lv_at hl 0 rfl) ?_
  refine lv_aload_n hx hb dX12_waitFor_43 rfl (lv_at hl 1 rfl) ?_
  refine w_getI hF hH fk_X12_418 dX12_waitFor_44 hw (fun z10 hw => ?_)
  refine w_iast 62 16 hF hH dX12_waitFor_47 (by decide) rfl rfl hw (fun σ11 H locs hw hH => ?_)
  refine lv_aload_n hx hb dX12_waitFor_48 rfl (lv_at hl 1 rfl) ?_
  refine w_getA 63 hF hH fk_X12_205 dX12_waitFor_49 (by decide) rfl ?_
  refine lv_iload hx hb dX12_waitFor_52 (lv_at hl 0 rfl) ?_
  refine lv_aload_n hx hb dX12_waitFor_54 rfl (lv_at hl 1 rfl) ?_
  refine lv_bipush (v := 6) hx hb dX12_waitFor_55 (by decide) ?_
  refine w_cVi (As := [.int 6]) (rest := [.int z1, .ref (L 63)]) hF hH hA mv_X12_415 (fun sz => c_X12_number2 l D t h0 L _ hH.2 6 _ hw sz) dX12_waitFor_57 rfl rfl (by decide) rfl hl.1 (Nat.le_of_ble_eq_true rfl) (by decide) rfl (fun z13 σ12 H locs hw hH => ?_)
  refine w_iast 63 16 hF hH dX12_waitFor_60 (by decide) rfl rfl hw (fun σ14 H locs hw hH => ?_)
  refine lv_aload_n hx hb dX12_waitFor_61 rfl (lv_at hl 1 rfl) ?_
  refine w_getA 64 hF hH fk_X12_208 dX12_waitFor_62 (by decide) rfl ?_
  refine lv_iload hx hb dX12_waitFor_65 (lv_at hl 0 rfl) ?_
  refine lv_aload_n hx hb dX12_waitFor_67 rfl (lv_at hl 1 rfl) ?_
  refine w_getI hF hH fk_X12_412 dX12_waitFor_68 hw (fun z15 hw => ?_)
  refine w_zast 64 16 hF hH dX12_waitFor_71 (by decide) rfl rfl hw (fun σ16 H locs hw hH => ?_)
  refine lv_aload_n hx hb dX12_waitFor_72 rfl (lv_at hl 1 rfl) ?_
  refine w_getA 65 hF hH fk_X12_211 dX12_waitFor_73 (by decide) rfl ?_
  refine lv_iload hx hb dX12_waitFor_76 (lv_at hl 0 rfl) ?_
  refine lv_aload_n hx hb dX12_waitFor_78 rfl (lv_at hl 1 rfl) ?_
  refine lv_bipush (v := 24) hx hb dX12_waitFor_79 (by decide) ?_
  refine lv_bipush (v := 8) hx hb dX12_waitFor_81 (by decide) ?_
  refine w_cVl (As := [.int 24, .int 8]) (rest := [.int z1, .ref (L 65)]) hF hH hA mv_X12_364 (fun sz => c_X12_number l D t h0 L _ hH.2 24 8 _ hw sz) dX12_waitFor_83 rfl rfl (by decide) rfl hl.1 (Nat.le_of_ble_eq_true rfl) (by decide) rfl (fun z18 σ17 H locs hw hH => ?_)
  refine w_last 65 16 hF hH dX12_waitFor_86 (by decide) rfl rfl hw (fun σ19 H locs hw hH => ?_)
  refine lv_aload_n hx hb dX12_waitFor_87 rfl (lv_at hl 1 rfl) ?_
  refine w_getA 66 hF hH fk_X12_214 dX12_waitFor_88 (by decide) rfl ?_
  refine lv_iload hx hb dX12_waitFor_91 (lv_at hl 0 rfl) ?_
  refine lv_aload_n hx hb dX12_waitFor_93 rfl (lv_at hl 1 rfl) ?_
  refine w_getJ hF hH fk_X12_305 dX12_waitFor_94 hw (fun z20 hw => ?_)
  refine w_last 66 16 hF hH dX12_waitFor_97 (by decide) rfl rfl hw (fun σ21 H locs hw hH => ?_)
  refine lv_aload_n hx hb dX12_waitFor_98 rfl (lv_at hl 1 rfl) ?_
  refine w_getA 67 hF hH fk_X12_217 dX12_waitFor_99 (by decide) rfl ?_
  refine lv_iload hx hb dX12_waitFor_102 (lv_at hl 0 rfl) ?_
  refine lv_aload_n hx hb dX12_waitFor_104 rfl (lv_at hl 1 rfl) ?_
  refine w_getI hF hH fk_X12_492 dX12_waitFor_105 hw (fun z22 hw => ?_)
  refine w_iast 67 16 hF hH dX12_waitFor_108 (by decide) rfl rfl hw (fun σ23 H locs hw hH => ?_)
  refine lv_aload_n hx hb dX12_waitFor_109 rfl (lv_at hl 1 rfl) ?_
  refine w_getA 68 hF hH fk_X12_220 dX12_waitFor_110 (by decide) rfl ?_
  refine lv_iload hx hb dX12_waitFor_113 (lv_at hl 0 rfl) ?_
  refine lv_aload_n hx hb dX12_waitFor_115 rfl (lv_at hl 1 rfl) ?_
  refine w_getI hF hH fk_X12_498 dX12_waitFor_116 hw (fun z24 hw => ?_)
  refine w_iast 68 16 hF hH dX12_waitFor_119 (by decide) rfl rfl hw (fun σ25 H locs hw hH => ?_)
  refine lv_aload_n hx hb dX12_waitFor_120 rfl (lv_at hl 1 rfl) ?_
  refine w_getA 69 hF hH fk_X12_223 dX12_waitFor_121 (by decide) rfl ?_
  refine lv_iload hx hb dX12_waitFor_124 (lv_at hl 0 rfl) ?_
  refine lv_lload_n hx hb dX12_waitFor_126 rfl (lv_at hl 3 rfl) ?_
  refine w_last 69 16 hF hH dX12_waitFor_127 (by decide) rfl rfl hw (fun σ26 H locs hw hH => ?_)
  refine lv_aload_n hx hb dX12_waitFor_128 rfl (lv_at hl 1 rfl) ?_
  refine w_getA 70 hF hH fk_X12_226 dX12_waitFor_129 (by decide) rfl ?_
  refine lv_iload hx hb dX12_waitFor_132 (lv_at hl 0 rfl) ?_
  refine lv_iload_n hx hb dX12_waitFor_134 rfl (lv_at hl 2 rfl) ?_
  refine w_iast 70 16 hF hH dX12_waitFor_135 (by decide) rfl rfl hw (fun σ27 H locs hw hH => ?_)
  refine lv_aload_n hx hb dX12_waitFor_136 rfl (lv_at hl 1 rfl) ?_
  refine w_getA 74 hF hH fk_X12_238 dX12_waitFor_137 (by decide) rfl ?_
  refine lv_iload hx hb dX12_waitFor_140 (lv_at hl 0 rfl) ?_
  refine lv_iconst (v := 0) hx hb dX12_waitFor_142 (by decide) ?_
  refine w_iast 74 16 hF hH dX12_waitFor_143 (by decide) rfl rfl hw (fun σ28 H locs hw hH => ?_)
  refine lv_aload_n hx hb dX12_waitFor_144 rfl (lv_at hl 1 rfl) ?_
  refine lv_iconst (v := 1) hx hb dX12_waitFor_145 (by decide) ?_
  refine w_putZ hF hH fk_X12_446 dX12_waitFor_146 rfl rfl hw (fun σ29 H locs hw hH => ?_)
  refine lv_iload hx hb dX12_waitFor_149 (lv_at hl 0 rfl) ?_
  exact w_reti hF hH hr hlk rfl dX12_waitFor_151 hw
def F_X12_waitsFor (h0 : Nat) (L : Nat → Nat) (a1 : Int32) (a2 : Int32) (post : Int64 → HS → Prop) (σ : HS) : Prop := ((a1.toInt < 0) → ∀ z1 : Int32, z1 = sI σ h0 95 → ((¬ z1.toInt = 0) → ∀ z2 : Int32, z2 = sI σ h0 69 → ((¬ z2.toInt = (16 : Int32).toInt) → F_X12_waitFor h0 L a2 0 (fun (z4 : Int32) (σ3 : HS) => ∀ z5 : Int32, z5 = sI σ3 h0 87 → (0 ≤ z4.toInt ∧ z4.toInt < 16) ∧ ∀ σ6 : HS, σ6 = h_uI σ3 (L 74) z4.toInt.toNat z5 → lw (fun (K9 : Int32 → HS → Prop) (x7 : Int32) (σ8 : HS) => ∀ z11 : Int32, z11 = sI σ8 h0 87 → ((z11.toInt ≤ x7.toInt) → post 259 σ8) ∧ ((x7.toInt < z11.toInt) → ∀ z12 : Int32, z12 = 4000 * z4 → ∀ z13 : Int32, z13 = z12 + x7 → ∀ z14 : Option Nat, z14 = sP σ8 h0 85 → ∀ z15 : Int32, z15 = sI σ8 h0 86 → ∀ z16 : Int32, z16 = z15 + x7 → ∃ j : Nat, (j = 29 ∨ j = 75) ∧ z14 = some (L j) ∧ (0 ≤ z16.toInt ∧ z16.toInt < (lnL.getD j 0 : Int)) ∧ ∀ z17 : Int32, z17 = sI σ8 (L j) z16.toInt.toNat → (0 ≤ z13.toInt ∧ z13.toInt < 64000) ∧ ∀ σ18 : HS, σ18 = h_uI σ8 (L 75) z13.toInt.toNat (vp_nar .byte z17) → ∀ z19 : Int32, z19 = x7 + 1 → K9 z19 σ18)) 0 σ6) σ) ∧ ((z2.toInt = (16 : Int32).toInt) → post 3221225626 σ)) ∧ ((z1.toInt = 0) → post 3221225539 σ)) ∧ ((0 ≤ a1.toInt) → (0 ≤ a1.toInt ∧ a1.toInt < 16) ∧ ∀ σ20 : HS, σ20 = h_uI σ (L 70) a1.toInt.toNat a2 → post 259 σ20)
theorem dX12_waitsFor_0 : decode cX12_waitsFor 0 = .ok (.iload_n 1, 1) := by decide +kernel
theorem dX12_waitsFor_1 : decode cX12_waitsFor 1 = .ok (.ifCond .lt 14, 3) := by decide +kernel
theorem dX12_waitsFor_4 : decode cX12_waitsFor 4 = .ok (.aload_n 0, 1) := by decide +kernel
theorem dX12_waitsFor_5 : decode cX12_waitsFor 5 = .ok (.getfield 226, 3) := by decide +kernel
theorem dX12_waitsFor_8 : decode cX12_waitsFor 8 = .ok (.iload_n 1, 1) := by decide +kernel
theorem dX12_waitsFor_9 : decode cX12_waitsFor 9 = .ok (.iload_n 2, 1) := by decide +kernel
theorem dX12_waitsFor_10 : decode cX12_waitsFor 10 = .ok (.iastore, 1) := by decide +kernel
theorem dX12_waitsFor_11 : decode cX12_waitsFor 11 = .ok (.ldc2_w 592, 3) := by decide +kernel
theorem dX12_waitsFor_14 : decode cX12_waitsFor 14 = .ok (.lreturn, 1) := by decide +kernel
theorem dX12_waitsFor_15 : decode cX12_waitsFor 15 = .ok (.aload_n 0, 1) := by decide +kernel
theorem dX12_waitsFor_16 : decode cX12_waitsFor 16 = .ok (.getfield 407, 3) := by decide +kernel
theorem dX12_waitsFor_19 : decode cX12_waitsFor 19 = .ok (.ifCond .ne 7, 3) := by decide +kernel
theorem dX12_waitsFor_22 : decode cX12_waitsFor 22 = .ok (.ldc2_w 652, 3) := by decide +kernel
theorem dX12_waitsFor_25 : decode cX12_waitsFor 25 = .ok (.lreturn, 1) := by decide +kernel
theorem dX12_waitsFor_26 : decode cX12_waitsFor 26 = .ok (.aload_n 0, 1) := by decide +kernel
theorem dX12_waitsFor_27 : decode cX12_waitsFor 27 = .ok (.getfield 292, 3) := by decide +kernel
theorem dX12_waitsFor_30 : decode cX12_waitsFor 30 = .ok (.bipush 16, 2) := by decide +kernel
theorem dX12_waitsFor_32 : decode cX12_waitsFor 32 = .ok (.if_icmp .ne 7, 3) := by decide +kernel
theorem dX12_waitsFor_35 : decode cX12_waitsFor 35 = .ok (.ldc2_w 607, 3) := by decide +kernel
theorem dX12_waitsFor_38 : decode cX12_waitsFor 38 = .ok (.lreturn, 1) := by decide +kernel
theorem dX12_waitsFor_39 : decode cX12_waitsFor 39 = .ok (.aload_n 0, 1) := by decide +kernel
theorem dX12_waitsFor_40 : decode cX12_waitsFor 40 = .ok (.iload_n 2, 1) := by decide +kernel
theorem dX12_waitsFor_41 : decode cX12_waitsFor 41 = .ok (.lconst 0, 1) := by decide +kernel
theorem dX12_waitsFor_42 : decode cX12_waitsFor 42 = .ok (.invokevirtual 654, 3) := by decide +kernel
theorem dX12_waitsFor_45 : decode cX12_waitsFor 45 = .ok (.istore_n 3, 1) := by decide +kernel
theorem dX12_waitsFor_46 : decode cX12_waitsFor 46 = .ok (.aload_n 0, 1) := by decide +kernel
theorem dX12_waitsFor_47 : decode cX12_waitsFor 47 = .ok (.getfield 238, 3) := by decide +kernel
theorem dX12_waitsFor_50 : decode cX12_waitsFor 50 = .ok (.iload_n 3, 1) := by decide +kernel
theorem dX12_waitsFor_51 : decode cX12_waitsFor 51 = .ok (.aload_n 0, 1) := by decide +kernel
theorem dX12_waitsFor_52 : decode cX12_waitsFor 52 = .ok (.getfield 404, 3) := by decide +kernel
theorem dX12_waitsFor_55 : decode cX12_waitsFor 55 = .ok (.iastore, 1) := by decide +kernel
theorem dX12_waitsFor_56 : decode cX12_waitsFor 56 = .ok (.iconst 0, 1) := by decide +kernel
theorem dX12_waitsFor_57 : decode cX12_waitsFor 57 = .ok (.istore 4, 2) := by decide +kernel
theorem dX12_waitsFor_59 : decode cX12_waitsFor 59 = .ok (.iload 4, 2) := by decide +kernel
theorem dX12_waitsFor_61 : decode cX12_waitsFor 61 = .ok (.aload_n 0, 1) := by decide +kernel
theorem dX12_waitsFor_62 : decode cX12_waitsFor 62 = .ok (.getfield 404, 3) := by decide +kernel
theorem dX12_waitsFor_65 : decode cX12_waitsFor 65 = .ok (.if_icmp .ge 34, 3) := by decide +kernel
theorem dX12_waitsFor_68 : decode cX12_waitsFor 68 = .ok (.aload_n 0, 1) := by decide +kernel
theorem dX12_waitsFor_69 : decode cX12_waitsFor 69 = .ok (.getfield 242, 3) := by decide +kernel
theorem dX12_waitsFor_72 : decode cX12_waitsFor 72 = .ok (.sipush 4000, 3) := by decide +kernel
theorem dX12_waitsFor_75 : decode cX12_waitsFor 75 = .ok (.iload_n 3, 1) := by decide +kernel
theorem dX12_waitsFor_76 : decode cX12_waitsFor 76 = .ok (.imul, 1) := by decide +kernel
theorem dX12_waitsFor_77 : decode cX12_waitsFor 77 = .ok (.iload 4, 2) := by decide +kernel
theorem dX12_waitsFor_79 : decode cX12_waitsFor 79 = .ok (.iadd, 1) := by decide +kernel
theorem dX12_waitsFor_80 : decode cX12_waitsFor 80 = .ok (.aload_n 0, 1) := by decide +kernel
theorem dX12_waitsFor_81 : decode cX12_waitsFor 81 = .ok (.getfield 356, 3) := by decide +kernel
theorem dX12_waitsFor_84 : decode cX12_waitsFor 84 = .ok (.aload_n 0, 1) := by decide +kernel
theorem dX12_waitsFor_85 : decode cX12_waitsFor 85 = .ok (.getfield 359, 3) := by decide +kernel
theorem dX12_waitsFor_88 : decode cX12_waitsFor 88 = .ok (.iload 4, 2) := by decide +kernel
theorem dX12_waitsFor_90 : decode cX12_waitsFor 90 = .ok (.iadd, 1) := by decide +kernel
theorem dX12_waitsFor_91 : decode cX12_waitsFor 91 = .ok (.baload, 1) := by decide +kernel
theorem dX12_waitsFor_92 : decode cX12_waitsFor 92 = .ok (.bastore, 1) := by decide +kernel
theorem dX12_waitsFor_93 : decode cX12_waitsFor 93 = .ok (.iinc 4 1, 3) := by decide +kernel
theorem dX12_waitsFor_96 : decode cX12_waitsFor 96 = .ok (.goto (-37), 3) := by decide +kernel
theorem dX12_waitsFor_99 : decode cX12_waitsFor 99 = .ok (.ldc2_w 592, 3) := by decide +kernel
theorem dX12_waitsFor_102 : decode cX12_waitsFor 102 = .ok (.lreturn, 1) := by decide +kernel
set_option maxRecDepth 100000 in
set_option maxHeartbeats 4000000 in
theorem c_X12_waitsFor (l : Launch) (D : va_G) (t : Nat → ClassId) (h0 : Nat) (L : Nat → Nat) (σ : HS) (hM : MdI h0 L σ) (a1 : Int32) (a2 : Int32) (post : Int64 → HS → Prop) (hw : F_X12_waitsFor h0 L a1 a2 post σ) (sz : Nat) : RMl l D t yX12_waitsFor cX12_waitsFor 5 (some .long) ({ frames := 3, cells := 0, slots := 0, locals := 70 }) h0 L σ sz [.ref h0, .int a1, .int a2] post := by
  refine h_go (τ := τT) okT (by decide) (Nat.le_of_ble_eq_true rfl) ?_
  intro p e s m below meth c ls A hF hr hlk hAe hH0 hA hl
  unfold hB
  rw [hAe]
  clear hAe
  have hF : FX p m c cX12_waitsFor 5 s _ RX12 D t := hF
  have hx := hF.1.1
  have hb := hF.1.2.1
  have hH : RT D t A s.heap h0 L σ s.heap [] := ⟨hH0, hM⟩
  have hl : lv_has ls 5 [(0, .ref h0), (1, .int a1), (2, .int a2)] := hl
  unfold F_X12_waitsFor at hw
  refine lv_iload_n hx hb dX12_waitsFor_0 rfl (lv_at hl 1 rfl) ?_
  refine w_if_lt (tgt := 15) hF dX12_waitsFor_1 rfl hw (fun hw => ?_) (fun hw => ?_)
  · refine lv_aload_n hx hb dX12_waitsFor_15 rfl (lv_at hl 0 rfl) ?_
    refine w_getI hF hH fk_X12_407 dX12_waitsFor_16 hw (fun z1 hw => ?_)
    refine w_if_ne (tgt := 26) hF dX12_waitsFor_19 rfl hw (fun hw => ?_) (fun hw => ?_)
    · refine lv_aload_n hx hb dX12_waitsFor_26 rfl (lv_at hl 0 rfl) ?_
      refine w_getI hF hH fk_X12_292 dX12_waitsFor_27 hw (fun z2 hw => ?_)
      refine lv_bipush (v := 16) hx hb dX12_waitsFor_30 (by decide) ?_
      refine w_icmp_ne (tgt := 39) hF dX12_waitsFor_32 rfl hw (fun hw => ?_) (fun hw => ?_)
      · refine lv_aload_n hx hb dX12_waitsFor_39 rfl (lv_at hl 0 rfl) ?_
        refine lv_iload_n hx hb dX12_waitsFor_40 rfl (lv_at hl 2 rfl) ?_
        refine lv_lconst (v := 0) hx hb dX12_waitsFor_41 (by decide) ?_
        refine w_cVi (As := [.int a2, .long 0]) (rest := []) hF hH hA mv_X12_654 (fun sz => c_X12_waitFor l D t h0 L _ hH.2 a2 0 _ hw sz) dX12_waitsFor_42 rfl rfl (by decide) rfl hl.1 (Nat.le_of_ble_eq_true rfl) (by decide) rfl (fun z4 σ3 H locs hw hH => ?_)
        refine lv_istore_n (lv' := [(3, .int z4), (0, .ref h0), (1, .int a1), (2, .int a2)]) hx hb dX12_waitsFor_45 rfl hl (by decide) rfl (fun ls hl => ?_)
        refine lv_aload_n hx hb dX12_waitsFor_46 rfl (lv_at hl 1 rfl) ?_
        refine w_getA 74 hF hH fk_X12_238 dX12_waitsFor_47 (by decide) rfl ?_
        refine lv_iload_n hx hb dX12_waitsFor_50 rfl (lv_at hl 0 rfl) ?_
        refine lv_aload_n hx hb dX12_waitsFor_51 rfl (lv_at hl 1 rfl) ?_
        refine w_getI hF hH fk_X12_404 dX12_waitsFor_52 hw (fun z5 hw => ?_)
        refine w_iast 74 16 hF hH dX12_waitsFor_55 (by decide) rfl rfl hw (fun σ6 H locs hw hH => ?_)
        refine lv_iconst (v := 0) hx hb dX12_waitsFor_56 (by decide) ?_
        refine lv_istore (lv' := [(4, .int 0), (3, .int z4), (0, .ref h0), (1, .int a1), (2, .int a2)]) hx hb dX12_waitsFor_57 hl (by decide) rfl (fun ls hl => ?_)
        have hl : lv_has ls 5 [(4, .int 0), (3, .int z4), (0, .ref h0)] := lv_sub hl [0, 1, 2] rfl
        refine w_loop (β := Int32) (fun x7 => [(4, .int x7), (3, .int z4), (0, .ref h0)]) 0 hl hw hH (fun K9 x7 σ8 ls H locs hl hw hH ih10 => ?_)
        have hl : lv_has ls 5 [(4, .int x7), (3, .int z4), (0, .ref h0)] := hl
        refine lv_iload hx hb dX12_waitsFor_59 (lv_at hl 0 rfl) ?_
        refine lv_aload_n hx hb dX12_waitsFor_61 rfl (lv_at hl 2 rfl) ?_
        refine w_getI hF hH fk_X12_404 dX12_waitsFor_62 hw (fun z11 hw => ?_)
        refine w_icmp_ge (tgt := 99) hF dX12_waitsFor_65 rfl hw (fun hw => ?_) (fun hw => ?_)
        · refine lv_ldc2 (v := 259) hx hb hF.1.2.2.2.1 (hF.1.2.2.2.2 _ (wc_52 38 rfl)) dX12_waitsFor_99 ?_
          exact w_retl hF hH hr hlk dX12_waitsFor_102 hw
        · refine lv_aload_n hx hb dX12_waitsFor_68 rfl (lv_at hl 2 rfl) ?_
          refine w_getA 75 hF hH fk_X12_242 dX12_waitsFor_69 (by decide) rfl ?_
          refine lv_sipush (v := 4000) hx hb dX12_waitsFor_72 (by decide) ?_
          refine lv_iload_n hx hb dX12_waitsFor_75 rfl (lv_at hl 1 rfl) ?_
          refine lv_imul hx hb dX12_waitsFor_76 ?_
          refine w_nmi hw (fun z12 hw => ?_)
          refine lv_iload hx hb dX12_waitsFor_77 (lv_at hl 0 rfl) ?_
          refine lv_iadd hx hb dX12_waitsFor_79 ?_
          refine w_nmi hw (fun z13 hw => ?_)
          refine lv_aload_n hx hb dX12_waitsFor_80 rfl (lv_at hl 2 rfl) ?_
          refine w_getQ hF hH fk_X12_356 dX12_waitsFor_81 hw (fun z14 hw => ?_)
          refine lv_aload_n hx hb dX12_waitsFor_84 rfl (lv_at hl 2 rfl) ?_
          refine w_getI hF hH fk_X12_359 dX12_waitsFor_85 hw (fun z15 hw => ?_)
          refine lv_iload hx hb dX12_waitsFor_88 (lv_at hl 0 rfl) ?_
          refine lv_iadd hx hb dX12_waitsFor_90 ?_
          refine w_nmi hw (fun z16 hw => ?_)
          refine w_inald hF hH dX12_waitsFor_91 hw (fun z17 hw => ?_)
          refine w_bast 75 64000 hF hH dX12_waitsFor_92 (by decide) rfl rfl hw (fun σ18 H locs hw hH => ?_)
          obtain ⟨z19, ez19⟩ : ∃ z : Int32, z = x7 + 1 := ⟨_, rfl⟩
          have hw := hw z19 ez19
          refine lv_iinc (lv' := [(4, .int z19), (3, .int z4), (0, .ref h0)]) (k := 0) (v := z19) hx hb dX12_waitsFor_93 hl rfl ez19.symm (by decide) rfl (fun ls hl => ?_)
          refine lv_goto (tgt := 59) hx hb dX12_waitsFor_96 rfl ?_
          exact ih10 z19 σ18 ls _ _ hl hw hH
      · refine lv_ldc2 (v := 3221225626) hx hb hF.1.2.2.2.1 (hF.1.2.2.2.2 _ (wc_53 8 rfl)) dX12_waitsFor_35 ?_
        exact w_retl hF hH hr hlk dX12_waitsFor_38 hw
    · refine lv_ldc2 (v := 3221225539) hx hb hF.1.2.2.2.1 (hF.1.2.2.2.2 _ (wc_53 31 rfl)) dX12_waitsFor_22 ?_
      exact w_retl hF hH hr hlk dX12_waitsFor_25 hw
  · refine lv_aload_n hx hb dX12_waitsFor_4 rfl (lv_at hl 0 rfl) ?_
    refine w_getA 70 hF hH fk_X12_226 dX12_waitsFor_5 (by decide) rfl ?_
    refine lv_iload_n hx hb dX12_waitsFor_8 rfl (lv_at hl 1 rfl) ?_
    refine lv_iload_n hx hb dX12_waitsFor_9 rfl (lv_at hl 2 rfl) ?_
    refine w_iast 70 16 hF hH dX12_waitsFor_10 (by decide) rfl rfl hw (fun σ20 H locs hw hH => ?_)
    refine lv_ldc2 (v := 259) hx hb hF.1.2.2.2.1 (hF.1.2.2.2.2 _ (wc_52 38 rfl)) dX12_waitsFor_11 ?_
    exact w_retl hF hH hr hlk dX12_waitsFor_14 hw
def F_X12_tellBreak (h0 : Nat) (L : Nat → Nat) (a1 : Int32) (a2 : Int32) (post : HS → Prop) (σ : HS) : Prop := ∀ z1 : Int32, z1 = sI σ h0 90 → ∀ z2 : Int32, z2 = sI σ h0 91 → ∀ σ3 : HS, σ3 = h_uI σ h0 90 85000 → F_X12_body h0 L 24 (fun (σ4 : HS) => F_X12_set h0 L 64 2 24 (fun (σ6 : HS) => ∀ z8 : Int64, z8 = (a2 : Int32).toInt64 → F_X12_set h0 L 66 1 z8 (fun (σ9 : HS) => (0 ≤ a1.toInt ∧ a1.toInt < 40) ∧ ∀ z11 : Int64, z11 = sJ σ9 (L 41) a1.toInt.toNat → F_X12_set h0 L 72 8 z11 (fun (σ12 : HS) => (0 ≤ a1.toInt ∧ a1.toInt < 40) ∧ ∀ z14 : Int64, z14 = sJ σ12 (L 41) a1.toInt.toNat → F_X12_set h0 L 80 8 z14 (fun (σ15 : HS) => ∀ z17 : Int32, z17 = sI σ15 h0 91 → F_X12_header h0 L 0 18 0 0 1 (-1) 0 0 (fun (σ18 : HS) => (0 ≤ a1.toInt ∧ a1.toInt < 40) ∧ ∀ z20 : Int32, z20 = sI σ18 (L 42) a1.toInt.toNat → (0 ≤ z20.toInt ∧ z20.toInt < 16) ∧ ∀ z21 : Int32, z21 = sI σ18 (L 39) z20.toInt.toNat → (0 ≤ z21.toInt ∧ z21.toInt < 8) ∧ ∀ z22 : Int32, z22 = sI σ18 (L 35) z21.toInt.toNat → ∀ z23 : Int32, z23 = sI σ18 h0 90 → F_X12_send h0 L z22 z23 z17 (fun (σ24 : HS) => ∀ σ26 : HS, σ26 = h_uI σ24 h0 90 z1 → ∀ σ27 : HS, σ27 = h_uI σ26 h0 91 z2 → post σ27) σ18) σ15) σ12) σ9) σ6) σ4) σ3
theorem dX12_tellBreak_0 : decode cX12_tellBreak 0 = .ok (.aload_n 0, 1) := by decide +kernel
theorem dX12_tellBreak_1 : decode cX12_tellBreak 1 = .ok (.getfield 368, 3) := by decide +kernel
theorem dX12_tellBreak_4 : decode cX12_tellBreak 4 = .ok (.istore_n 3, 1) := by decide +kernel
theorem dX12_tellBreak_5 : decode cX12_tellBreak 5 = .ok (.aload_n 0, 1) := by decide +kernel
theorem dX12_tellBreak_6 : decode cX12_tellBreak 6 = .ok (.getfield 371, 3) := by decide +kernel
theorem dX12_tellBreak_9 : decode cX12_tellBreak 9 = .ok (.istore 4, 2) := by decide +kernel
theorem dX12_tellBreak_11 : decode cX12_tellBreak 11 = .ok (.aload_n 0, 1) := by decide +kernel
theorem dX12_tellBreak_12 : decode cX12_tellBreak 12 = .ok (.ldc_w 575, 3) := by decide +kernel
theorem dX12_tellBreak_15 : decode cX12_tellBreak 15 = .ok (.putfield 368, 3) := by decide +kernel
theorem dX12_tellBreak_18 : decode cX12_tellBreak 18 = .ok (.aload_n 0, 1) := by decide +kernel
theorem dX12_tellBreak_19 : decode cX12_tellBreak 19 = .ok (.bipush 24, 2) := by decide +kernel
theorem dX12_tellBreak_21 : decode cX12_tellBreak 21 = .ok (.invokevirtual 456, 3) := by decide +kernel
theorem dX12_tellBreak_24 : decode cX12_tellBreak 24 = .ok (.aload_n 0, 1) := by decide +kernel
theorem dX12_tellBreak_25 : decode cX12_tellBreak 25 = .ok (.bipush 64, 2) := by decide +kernel
theorem dX12_tellBreak_27 : decode cX12_tellBreak 27 = .ok (.iconst 2, 1) := by decide +kernel
theorem dX12_tellBreak_28 : decode cX12_tellBreak 28 = .ok (.ldc2_w 579, 3) := by decide +kernel
theorem dX12_tellBreak_31 : decode cX12_tellBreak 31 = .ok (.invokevirtual 376, 3) := by decide +kernel
theorem dX12_tellBreak_34 : decode cX12_tellBreak 34 = .ok (.aload_n 0, 1) := by decide +kernel
theorem dX12_tellBreak_35 : decode cX12_tellBreak 35 = .ok (.bipush 66, 2) := by decide +kernel
theorem dX12_tellBreak_37 : decode cX12_tellBreak 37 = .ok (.iconst 1, 1) := by decide +kernel
theorem dX12_tellBreak_38 : decode cX12_tellBreak 38 = .ok (.iload_n 2, 1) := by decide +kernel
theorem dX12_tellBreak_39 : decode cX12_tellBreak 39 = .ok (.i2l, 1) := by decide +kernel
theorem dX12_tellBreak_40 : decode cX12_tellBreak 40 = .ok (.invokevirtual 376, 3) := by decide +kernel
theorem dX12_tellBreak_43 : decode cX12_tellBreak 43 = .ok (.aload_n 0, 1) := by decide +kernel
theorem dX12_tellBreak_44 : decode cX12_tellBreak 44 = .ok (.bipush 72, 2) := by decide +kernel
theorem dX12_tellBreak_46 : decode cX12_tellBreak 46 = .ok (.bipush 8, 2) := by decide +kernel
theorem dX12_tellBreak_48 : decode cX12_tellBreak 48 = .ok (.aload_n 0, 1) := by decide +kernel
theorem dX12_tellBreak_49 : decode cX12_tellBreak 49 = .ok (.getfield 139, 3) := by decide +kernel
theorem dX12_tellBreak_52 : decode cX12_tellBreak 52 = .ok (.iload_n 1, 1) := by decide +kernel
theorem dX12_tellBreak_53 : decode cX12_tellBreak 53 = .ok (.laload, 1) := by decide +kernel
theorem dX12_tellBreak_54 : decode cX12_tellBreak 54 = .ok (.invokevirtual 376, 3) := by decide +kernel
theorem dX12_tellBreak_57 : decode cX12_tellBreak 57 = .ok (.aload_n 0, 1) := by decide +kernel
theorem dX12_tellBreak_58 : decode cX12_tellBreak 58 = .ok (.bipush 80, 2) := by decide +kernel
theorem dX12_tellBreak_60 : decode cX12_tellBreak 60 = .ok (.bipush 8, 2) := by decide +kernel
theorem dX12_tellBreak_62 : decode cX12_tellBreak 62 = .ok (.aload_n 0, 1) := by decide +kernel
theorem dX12_tellBreak_63 : decode cX12_tellBreak 63 = .ok (.getfield 139, 3) := by decide +kernel
theorem dX12_tellBreak_66 : decode cX12_tellBreak 66 = .ok (.iload_n 1, 1) := by decide +kernel
theorem dX12_tellBreak_67 : decode cX12_tellBreak 67 = .ok (.laload, 1) := by decide +kernel
theorem dX12_tellBreak_68 : decode cX12_tellBreak 68 = .ok (.invokevirtual 376, 3) := by decide +kernel
theorem dX12_tellBreak_71 : decode cX12_tellBreak 71 = .ok (.aload_n 0, 1) := by decide +kernel
theorem dX12_tellBreak_72 : decode cX12_tellBreak 72 = .ok (.getfield 371, 3) := by decide +kernel
theorem dX12_tellBreak_75 : decode cX12_tellBreak 75 = .ok (.istore 5, 2) := by decide +kernel
theorem dX12_tellBreak_77 : decode cX12_tellBreak 77 = .ok (.aload_n 0, 1) := by decide +kernel
theorem dX12_tellBreak_78 : decode cX12_tellBreak 78 = .ok (.lconst 0, 1) := by decide +kernel
theorem dX12_tellBreak_79 : decode cX12_tellBreak 79 = .ok (.bipush 18, 2) := by decide +kernel
theorem dX12_tellBreak_81 : decode cX12_tellBreak 81 = .ok (.iconst 0, 1) := by decide +kernel
theorem dX12_tellBreak_82 : decode cX12_tellBreak 82 = .ok (.iconst 0, 1) := by decide +kernel
theorem dX12_tellBreak_83 : decode cX12_tellBreak 83 = .ok (.lconst 1, 1) := by decide +kernel
theorem dX12_tellBreak_84 : decode cX12_tellBreak 84 = .ok (.ldc2_w 520, 3) := by decide +kernel
theorem dX12_tellBreak_87 : decode cX12_tellBreak 87 = .ok (.lconst 0, 1) := by decide +kernel
theorem dX12_tellBreak_88 : decode cX12_tellBreak 88 = .ok (.lconst 0, 1) := by decide +kernel
theorem dX12_tellBreak_89 : decode cX12_tellBreak 89 = .ok (.invokevirtual 467, 3) := by decide +kernel
theorem dX12_tellBreak_92 : decode cX12_tellBreak 92 = .ok (.aload_n 0, 1) := by decide +kernel
theorem dX12_tellBreak_93 : decode cX12_tellBreak 93 = .ok (.aload_n 0, 1) := by decide +kernel
theorem dX12_tellBreak_94 : decode cX12_tellBreak 94 = .ok (.getfield 121, 3) := by decide +kernel
theorem dX12_tellBreak_97 : decode cX12_tellBreak 97 = .ok (.aload_n 0, 1) := by decide +kernel
theorem dX12_tellBreak_98 : decode cX12_tellBreak 98 = .ok (.getfield 133, 3) := by decide +kernel
theorem dX12_tellBreak_101 : decode cX12_tellBreak 101 = .ok (.aload_n 0, 1) := by decide +kernel
theorem dX12_tellBreak_102 : decode cX12_tellBreak 102 = .ok (.getfield 142, 3) := by decide +kernel
theorem dX12_tellBreak_105 : decode cX12_tellBreak 105 = .ok (.iload_n 1, 1) := by decide +kernel
theorem dX12_tellBreak_106 : decode cX12_tellBreak 106 = .ok (.iaload, 1) := by decide +kernel
theorem dX12_tellBreak_107 : decode cX12_tellBreak 107 = .ok (.iaload, 1) := by decide +kernel
theorem dX12_tellBreak_108 : decode cX12_tellBreak 108 = .ok (.iaload, 1) := by decide +kernel
theorem dX12_tellBreak_109 : decode cX12_tellBreak 109 = .ok (.aload_n 0, 1) := by decide +kernel
theorem dX12_tellBreak_110 : decode cX12_tellBreak 110 = .ok (.getfield 368, 3) := by decide +kernel
theorem dX12_tellBreak_113 : decode cX12_tellBreak 113 = .ok (.iload 5, 2) := by decide +kernel
theorem dX12_tellBreak_115 : decode cX12_tellBreak 115 = .ok (.invokevirtual 429, 3) := by decide +kernel
theorem dX12_tellBreak_118 : decode cX12_tellBreak 118 = .ok (.aload_n 0, 1) := by decide +kernel
theorem dX12_tellBreak_119 : decode cX12_tellBreak 119 = .ok (.iload_n 3, 1) := by decide +kernel
theorem dX12_tellBreak_120 : decode cX12_tellBreak 120 = .ok (.putfield 368, 3) := by decide +kernel
theorem dX12_tellBreak_123 : decode cX12_tellBreak 123 = .ok (.aload_n 0, 1) := by decide +kernel
theorem dX12_tellBreak_124 : decode cX12_tellBreak 124 = .ok (.iload 4, 2) := by decide +kernel
theorem dX12_tellBreak_126 : decode cX12_tellBreak 126 = .ok (.putfield 371, 3) := by decide +kernel
theorem dX12_tellBreak_129 : decode cX12_tellBreak 129 = .ok (.return_, 1) := by decide +kernel
set_option maxRecDepth 100000 in
set_option maxHeartbeats 4000000 in
theorem c_X12_tellBreak (l : Launch) (D : va_G) (t : Nat → ClassId) (h0 : Nat) (L : Nat → Nat) (σ : HS) (hM : MdI h0 L σ) (a1 : Int32) (a2 : Int32) (post : HS → Prop) (hw : F_X12_tellBreak h0 L a1 a2 post σ) (sz : Nat) : RMv l D t yX12_tellBreak cX12_tellBreak 6 ({ frames := 2, cells := 0, slots := 0, locals := 59 }) h0 L σ sz [.ref h0, .int a1, .int a2] post := by
  refine h_go (τ := τT) okT (by decide) (Nat.le_of_ble_eq_true rfl) ?_
  intro p e s m below meth c ls A hF hr hlk hAe hH0 hA hl
  unfold hB
  rw [hAe]
  clear hAe
  have hF : FX p m c cX12_tellBreak 6 s _ RX12 D t := hF
  have hx := hF.1.1
  have hb := hF.1.2.1
  have hH : RT D t A s.heap h0 L σ s.heap [] := ⟨hH0, hM⟩
  have hl : lv_has ls 6 [(0, .ref h0), (1, .int a1), (2, .int a2)] := hl
  unfold F_X12_tellBreak at hw
  refine lv_aload_n hx hb dX12_tellBreak_0 rfl (lv_at hl 0 rfl) ?_
  refine w_getI hF hH fk_X12_368 dX12_tellBreak_1 hw (fun z1 hw => ?_)
  refine lv_istore_n (lv' := [(3, .int z1), (0, .ref h0), (1, .int a1), (2, .int a2)]) hx hb dX12_tellBreak_4 rfl hl (by decide) rfl (fun ls hl => ?_)
  refine lv_aload_n hx hb dX12_tellBreak_5 rfl (lv_at hl 1 rfl) ?_
  refine w_getI hF hH fk_X12_371 dX12_tellBreak_6 hw (fun z2 hw => ?_)
  refine lv_istore (lv' := [(4, .int z2), (3, .int z1), (0, .ref h0), (1, .int a1), (2, .int a2)]) hx hb dX12_tellBreak_9 hl (by decide) rfl (fun ls hl => ?_)
  refine lv_aload_n hx hb dX12_tellBreak_11 rfl (lv_at hl 2 rfl) ?_
  refine lv_ldcw (v := 85000) hx hb hF.1.2.2.2.1 (hF.1.2.2.2.2 _ (wc_48 2 rfl)) dX12_tellBreak_12 ?_
  refine w_putI hF hH fk_X12_368 dX12_tellBreak_15 rfl rfl rfl hw (fun σ3 H locs hw hH => ?_)
  refine lv_aload_n hx hb dX12_tellBreak_18 rfl (lv_at hl 2 rfl) ?_
  refine lv_bipush (v := 24) hx hb dX12_tellBreak_19 (by decide) ?_
  refine w_cVv (As := [.int 24]) (rest := []) hF hH hA mv_X12_456 (fun sz => c_X12_body l D t h0 L _ hH.2 24 _ hw sz) dX12_tellBreak_21 rfl rfl (by decide) rfl hl.1 (Nat.le_of_ble_eq_true rfl) (by decide) rfl (fun σ4 H locs hw hH => ?_)
  refine lv_aload_n hx hb dX12_tellBreak_24 rfl (lv_at hl 2 rfl) ?_
  refine lv_bipush (v := 64) hx hb dX12_tellBreak_25 (by decide) ?_
  refine lv_iconst (v := 2) hx hb dX12_tellBreak_27 (by decide) ?_
  refine lv_ldc2 (v := 24) hx hb hF.1.2.2.2.1 (hF.1.2.2.2.2 _ (wc_52 34 rfl)) dX12_tellBreak_28 ?_
  refine w_cVv (As := [.int 64, .int 2, .long 24]) (rest := []) hF hH hA mv_X12_376 (fun sz => c_X12_set l D t h0 L _ hH.2 64 2 24 _ hw sz) dX12_tellBreak_31 rfl rfl (by decide) rfl hl.1 (Nat.le_of_ble_eq_true rfl) (by decide) rfl (fun σ6 H locs hw hH => ?_)
  refine lv_aload_n hx hb dX12_tellBreak_34 rfl (lv_at hl 2 rfl) ?_
  refine lv_bipush (v := 66) hx hb dX12_tellBreak_35 (by decide) ?_
  refine lv_iconst (v := 1) hx hb dX12_tellBreak_37 (by decide) ?_
  refine lv_iload_n hx hb dX12_tellBreak_38 rfl (lv_at hl 4 rfl) ?_
  refine lv_i2l hx hb dX12_tellBreak_39 rfl ?_
  refine w_nml hw (fun z8 hw => ?_)
  refine w_cVv (As := [.int 66, .int 1, .long z8]) (rest := []) hF hH hA mv_X12_376 (fun sz => c_X12_set l D t h0 L _ hH.2 66 1 z8 _ hw sz) dX12_tellBreak_40 rfl rfl (by decide) rfl hl.1 (Nat.le_of_ble_eq_true rfl) (by decide) rfl (fun σ9 H locs hw hH => ?_)
  refine lv_aload_n hx hb dX12_tellBreak_43 rfl (lv_at hl 2 rfl) ?_
  refine lv_bipush (v := 72) hx hb dX12_tellBreak_44 (by decide) ?_
  refine lv_bipush (v := 8) hx hb dX12_tellBreak_46 (by decide) ?_
  refine lv_aload_n hx hb dX12_tellBreak_48 rfl (lv_at hl 2 rfl) ?_
  refine w_getA 41 hF hH fk_X12_139 dX12_tellBreak_49 (by decide) rfl ?_
  refine lv_iload_n hx hb dX12_tellBreak_52 rfl (lv_at hl 3 rfl) ?_
  refine w_lald 41 40 hF hH dX12_tellBreak_53 (by decide) rfl rfl hw (fun z11 hw => ?_)
  refine w_cVv (As := [.int 72, .int 8, .long z11]) (rest := []) hF hH hA mv_X12_376 (fun sz => c_X12_set l D t h0 L _ hH.2 72 8 z11 _ hw sz) dX12_tellBreak_54 rfl rfl (by decide) rfl hl.1 (Nat.le_of_ble_eq_true rfl) (by decide) rfl (fun σ12 H locs hw hH => ?_)
  refine lv_aload_n hx hb dX12_tellBreak_57 rfl (lv_at hl 2 rfl) ?_
  refine lv_bipush (v := 80) hx hb dX12_tellBreak_58 (by decide) ?_
  refine lv_bipush (v := 8) hx hb dX12_tellBreak_60 (by decide) ?_
  refine lv_aload_n hx hb dX12_tellBreak_62 rfl (lv_at hl 2 rfl) ?_
  refine w_getA 41 hF hH fk_X12_139 dX12_tellBreak_63 (by decide) rfl ?_
  refine lv_iload_n hx hb dX12_tellBreak_66 rfl (lv_at hl 3 rfl) ?_
  refine w_lald 41 40 hF hH dX12_tellBreak_67 (by decide) rfl rfl hw (fun z14 hw => ?_)
  refine w_cVv (As := [.int 80, .int 8, .long z14]) (rest := []) hF hH hA mv_X12_376 (fun sz => c_X12_set l D t h0 L _ hH.2 80 8 z14 _ hw sz) dX12_tellBreak_68 rfl rfl (by decide) rfl hl.1 (Nat.le_of_ble_eq_true rfl) (by decide) rfl (fun σ15 H locs hw hH => ?_)
  refine lv_aload_n hx hb dX12_tellBreak_71 rfl (lv_at hl 2 rfl) ?_
  refine w_getI hF hH fk_X12_371 dX12_tellBreak_72 hw (fun z17 hw => ?_)
  refine lv_istore (lv' := [(5, .int z17), (4, .int z2), (3, .int z1), (0, .ref h0), (1, .int a1), (2, .int a2)]) hx hb dX12_tellBreak_75 hl (by decide) rfl (fun ls hl => ?_)
  refine lv_aload_n hx hb dX12_tellBreak_77 rfl (lv_at hl 3 rfl) ?_
  refine lv_lconst (v := 0) hx hb dX12_tellBreak_78 (by decide) ?_
  refine lv_bipush (v := 18) hx hb dX12_tellBreak_79 (by decide) ?_
  refine lv_iconst (v := 0) hx hb dX12_tellBreak_81 (by decide) ?_
  refine lv_iconst (v := 0) hx hb dX12_tellBreak_82 (by decide) ?_
  refine lv_lconst (v := 1) hx hb dX12_tellBreak_83 (by decide) ?_
  refine lv_ldc2 (v := (-1)) hx hb hF.1.2.2.2.1 (hF.1.2.2.2.2 _ (wc_47 34 rfl)) dX12_tellBreak_84 ?_
  refine lv_lconst (v := 0) hx hb dX12_tellBreak_87 (by decide) ?_
  refine lv_lconst (v := 0) hx hb dX12_tellBreak_88 (by decide) ?_
  refine w_cVv (As := [.long 0, .int 18, .int 0, .int 0, .long 1, .long (-1), .long 0, .long 0]) (rest := []) hF hH hA mv_X12_467 (fun sz => c_X12_header l D t h0 L _ hH.2 0 18 0 0 1 (-1) 0 0 _ hw sz) dX12_tellBreak_89 rfl rfl (by decide) rfl hl.1 (Nat.le_of_ble_eq_true rfl) (by decide) rfl (fun σ18 H locs hw hH => ?_)
  refine lv_aload_n hx hb dX12_tellBreak_92 rfl (lv_at hl 3 rfl) ?_
  refine lv_aload_n hx hb dX12_tellBreak_93 rfl (lv_at hl 3 rfl) ?_
  refine w_getA 35 hF hH fk_X12_121 dX12_tellBreak_94 (by decide) rfl ?_
  refine lv_aload_n hx hb dX12_tellBreak_97 rfl (lv_at hl 3 rfl) ?_
  refine w_getA 39 hF hH fk_X12_133 dX12_tellBreak_98 (by decide) rfl ?_
  refine lv_aload_n hx hb dX12_tellBreak_101 rfl (lv_at hl 3 rfl) ?_
  refine w_getA 42 hF hH fk_X12_142 dX12_tellBreak_102 (by decide) rfl ?_
  refine lv_iload_n hx hb dX12_tellBreak_105 rfl (lv_at hl 4 rfl) ?_
  refine w_iald 42 40 hF hH dX12_tellBreak_106 (by decide) rfl rfl hw (fun z20 hw => ?_)
  refine w_iald 39 16 hF hH dX12_tellBreak_107 (by decide) rfl rfl hw (fun z21 hw => ?_)
  refine w_iald 35 8 hF hH dX12_tellBreak_108 (by decide) rfl rfl hw (fun z22 hw => ?_)
  refine lv_aload_n hx hb dX12_tellBreak_109 rfl (lv_at hl 3 rfl) ?_
  refine w_getI hF hH fk_X12_368 dX12_tellBreak_110 hw (fun z23 hw => ?_)
  refine lv_iload hx hb dX12_tellBreak_113 (lv_at hl 0 rfl) ?_
  refine w_cVv (As := [.int z22, .int z23, .int z17]) (rest := []) hF hH hA mv_X12_429 (fun sz => c_X12_send l D t h0 L _ hH.2 z22 z23 z17 _ hw sz) dX12_tellBreak_115 rfl rfl (by decide) rfl hl.1 (Nat.le_of_ble_eq_true rfl) (by decide) rfl (fun σ24 H locs hw hH => ?_)
  refine lv_aload_n hx hb dX12_tellBreak_118 rfl (lv_at hl 3 rfl) ?_
  refine lv_iload_n hx hb dX12_tellBreak_119 rfl (lv_at hl 2 rfl) ?_
  refine w_putI hF hH fk_X12_368 dX12_tellBreak_120 rfl rfl rfl hw (fun σ26 H locs hw hH => ?_)
  refine lv_aload_n hx hb dX12_tellBreak_123 rfl (lv_at hl 3 rfl) ?_
  refine lv_iload hx hb dX12_tellBreak_124 (lv_at hl 1 rfl) ?_
  refine w_putI hF hH fk_X12_371 dX12_tellBreak_126 rfl rfl rfl hw (fun σ27 H locs hw hH => ?_)
  exact w_retv hF hH hr hlk dX12_tellBreak_129 hw
def F_X12_breaks (h0 : Nat) (L : Nat → Nat) (a1 : Int32) (a2 : Int32) (post : HS → Prop) (σ : HS) : Prop := (0 ≤ a1.toInt ∧ a1.toInt < 40) ∧ ∀ σ1 : HS, σ1 = h_uI σ (L 47) a1.toInt.toNat (vp_nar .boolean 1) → (0 ≤ a1.toInt ∧ a1.toInt < 40) ∧ ∀ σ2 : HS, σ2 = h_uI σ1 (L 48) a1.toInt.toNat a2 → ∀ z3 : Int64, z3 = sJ σ2 h0 2 → (0 ≤ a1.toInt ∧ a1.toInt < 40) ∧ ∀ σ4 : HS, σ4 = h_uJ σ2 (L 49) a1.toInt.toNat z3 → F_X12_tellBreak h0 L a1 a2 (fun (σ5 : HS) => post σ5) σ4
theorem dX12_breaks_0 : decode cX12_breaks 0 = .ok (.aload_n 0, 1) := by decide +kernel
theorem dX12_breaks_1 : decode cX12_breaks 1 = .ok (.getfield 157, 3) := by decide +kernel
theorem dX12_breaks_4 : decode cX12_breaks 4 = .ok (.iload_n 1, 1) := by decide +kernel
theorem dX12_breaks_5 : decode cX12_breaks 5 = .ok (.iconst 1, 1) := by decide +kernel
theorem dX12_breaks_6 : decode cX12_breaks 6 = .ok (.bastore, 1) := by decide +kernel
theorem dX12_breaks_7 : decode cX12_breaks 7 = .ok (.aload_n 0, 1) := by decide +kernel
theorem dX12_breaks_8 : decode cX12_breaks 8 = .ok (.getfield 160, 3) := by decide +kernel
theorem dX12_breaks_11 : decode cX12_breaks 11 = .ok (.iload_n 1, 1) := by decide +kernel
theorem dX12_breaks_12 : decode cX12_breaks 12 = .ok (.iload_n 2, 1) := by decide +kernel
theorem dX12_breaks_13 : decode cX12_breaks 13 = .ok (.iastore, 1) := by decide +kernel
theorem dX12_breaks_14 : decode cX12_breaks 14 = .ok (.aload_n 0, 1) := by decide +kernel
theorem dX12_breaks_15 : decode cX12_breaks 15 = .ok (.getfield 163, 3) := by decide +kernel
theorem dX12_breaks_18 : decode cX12_breaks 18 = .ok (.iload_n 1, 1) := by decide +kernel
theorem dX12_breaks_19 : decode cX12_breaks 19 = .ok (.aload_n 0, 1) := by decide +kernel
theorem dX12_breaks_20 : decode cX12_breaks 20 = .ok (.getfield 322, 3) := by decide +kernel
theorem dX12_breaks_23 : decode cX12_breaks 23 = .ok (.lastore, 1) := by decide +kernel
theorem dX12_breaks_24 : decode cX12_breaks 24 = .ok (.aload_n 0, 1) := by decide +kernel
theorem dX12_breaks_25 : decode cX12_breaks 25 = .ok (.iload_n 1, 1) := by decide +kernel
theorem dX12_breaks_26 : decode cX12_breaks 26 = .ok (.iload_n 2, 1) := by decide +kernel
theorem dX12_breaks_27 : decode cX12_breaks 27 = .ok (.invokevirtual 581, 3) := by decide +kernel
theorem dX12_breaks_30 : decode cX12_breaks 30 = .ok (.return_, 1) := by decide +kernel
set_option maxRecDepth 100000 in
set_option maxHeartbeats 4000000 in
theorem c_X12_breaks (l : Launch) (D : va_G) (t : Nat → ClassId) (h0 : Nat) (L : Nat → Nat) (σ : HS) (hM : MdI h0 L σ) (a1 : Int32) (a2 : Int32) (post : HS → Prop) (hw : F_X12_breaks h0 L a1 a2 post σ) (sz : Nat) : RMv l D t yX12_breaks cX12_breaks 3 ({ frames := 3, cells := 0, slots := 0, locals := 84 }) h0 L σ sz [.ref h0, .int a1, .int a2] post := by
  refine h_go (τ := τT) okT (by decide) (Nat.le_of_ble_eq_true rfl) ?_
  intro p e s m below meth c ls A hF hr hlk hAe hH0 hA hl
  unfold hB
  rw [hAe]
  clear hAe
  have hF : FX p m c cX12_breaks 3 s _ RX12 D t := hF
  have hx := hF.1.1
  have hb := hF.1.2.1
  have hH : RT D t A s.heap h0 L σ s.heap [] := ⟨hH0, hM⟩
  have hl : lv_has ls 3 [(0, .ref h0), (1, .int a1), (2, .int a2)] := hl
  unfold F_X12_breaks at hw
  refine lv_aload_n hx hb dX12_breaks_0 rfl (lv_at hl 0 rfl) ?_
  refine w_getA 47 hF hH fk_X12_157 dX12_breaks_1 (by decide) rfl ?_
  refine lv_iload_n hx hb dX12_breaks_4 rfl (lv_at hl 1 rfl) ?_
  refine lv_iconst (v := 1) hx hb dX12_breaks_5 (by decide) ?_
  refine w_zast 47 40 hF hH dX12_breaks_6 (by decide) rfl rfl hw (fun σ1 H locs hw hH => ?_)
  refine lv_aload_n hx hb dX12_breaks_7 rfl (lv_at hl 0 rfl) ?_
  refine w_getA 48 hF hH fk_X12_160 dX12_breaks_8 (by decide) rfl ?_
  refine lv_iload_n hx hb dX12_breaks_11 rfl (lv_at hl 1 rfl) ?_
  refine lv_iload_n hx hb dX12_breaks_12 rfl (lv_at hl 2 rfl) ?_
  refine w_iast 48 40 hF hH dX12_breaks_13 (by decide) rfl rfl hw (fun σ2 H locs hw hH => ?_)
  refine lv_aload_n hx hb dX12_breaks_14 rfl (lv_at hl 0 rfl) ?_
  refine w_getA 49 hF hH fk_X12_163 dX12_breaks_15 (by decide) rfl ?_
  refine lv_iload_n hx hb dX12_breaks_18 rfl (lv_at hl 1 rfl) ?_
  refine lv_aload_n hx hb dX12_breaks_19 rfl (lv_at hl 0 rfl) ?_
  refine w_getJ hF hH fk_X12_322 dX12_breaks_20 hw (fun z3 hw => ?_)
  refine w_last 49 40 hF hH dX12_breaks_23 (by decide) rfl rfl hw (fun σ4 H locs hw hH => ?_)
  refine lv_aload_n hx hb dX12_breaks_24 rfl (lv_at hl 0 rfl) ?_
  refine lv_iload_n hx hb dX12_breaks_25 rfl (lv_at hl 1 rfl) ?_
  refine lv_iload_n hx hb dX12_breaks_26 rfl (lv_at hl 2 rfl) ?_
  refine w_cVv (As := [.int a1, .int a2]) (rest := []) hF hH hA mv_X12_581 (fun sz => c_X12_tellBreak l D t h0 L _ hH.2 a1 a2 _ hw sz) dX12_breaks_27 rfl rfl (by decide) rfl hl.1 (Nat.le_of_ble_eq_true rfl) (by decide) rfl (fun σ5 H locs hw hH => ?_)
  exact w_retv hF hH hr hlk dX12_breaks_30 hw
def F_X12_wants (h0 : Nat) (L : Nat → Nat) (a0 : Int32) (post : Int32 → HS → Prop) (σ : HS) : Prop := ∀ z1 : Int32, z1 = a0 &&& 33 → jn (fun (K4 : Int32 → HS → Prop) => ((z1.toInt = 0) → K4 0 σ) ∧ ((¬ z1.toInt = 0) → K4 1 σ)) (fun (x2 : Int32) (σ3 : HS) => ∀ z7 : Int32, z7 = a0 &&& 6 → jn (fun (K10 : Int32 → HS → Prop) => ((z7.toInt = 0) → K10 0 σ3) ∧ ((¬ z7.toInt = 0) → K10 2 σ3)) (fun (x8 : Int32) (σ9 : HS) => ∀ z13 : Int32, z13 = x2 ||| x8 → ∀ z14 : Int32, z14 = a0 &&& 65536 → jn (fun (K17 : Int32 → HS → Prop) => ((z14.toInt = 0) → K17 0 σ9) ∧ ((¬ z14.toInt = 0) → K17 4 σ9)) (fun (x15 : Int32) (σ16 : HS) => ∀ z20 : Int32, z20 = z13 ||| x15 → post z20 σ16)))
theorem dX12_wants_0 : decode cX12_wants 0 = .ok (.iload_n 0, 1) := by decide +kernel
theorem dX12_wants_1 : decode cX12_wants 1 = .ok (.bipush 33, 2) := by decide +kernel
theorem dX12_wants_3 : decode cX12_wants 3 = .ok (.iand, 1) := by decide +kernel
theorem dX12_wants_4 : decode cX12_wants 4 = .ok (.ifCond .eq 7, 3) := by decide +kernel
theorem dX12_wants_7 : decode cX12_wants 7 = .ok (.iconst 1, 1) := by decide +kernel
theorem dX12_wants_8 : decode cX12_wants 8 = .ok (.goto 4, 3) := by decide +kernel
theorem dX12_wants_11 : decode cX12_wants 11 = .ok (.iconst 0, 1) := by decide +kernel
theorem dX12_wants_12 : decode cX12_wants 12 = .ok (.iload_n 0, 1) := by decide +kernel
theorem dX12_wants_13 : decode cX12_wants 13 = .ok (.bipush 6, 2) := by decide +kernel
theorem dX12_wants_15 : decode cX12_wants 15 = .ok (.iand, 1) := by decide +kernel
theorem dX12_wants_16 : decode cX12_wants 16 = .ok (.ifCond .eq 7, 3) := by decide +kernel
theorem dX12_wants_19 : decode cX12_wants 19 = .ok (.iconst 2, 1) := by decide +kernel
theorem dX12_wants_20 : decode cX12_wants 20 = .ok (.goto 4, 3) := by decide +kernel
theorem dX12_wants_23 : decode cX12_wants 23 = .ok (.iconst 0, 1) := by decide +kernel
theorem dX12_wants_24 : decode cX12_wants 24 = .ok (.ior, 1) := by decide +kernel
theorem dX12_wants_25 : decode cX12_wants 25 = .ok (.iload_n 0, 1) := by decide +kernel
theorem dX12_wants_26 : decode cX12_wants 26 = .ok (.ldc_w 648, 3) := by decide +kernel
theorem dX12_wants_29 : decode cX12_wants 29 = .ok (.iand, 1) := by decide +kernel
theorem dX12_wants_30 : decode cX12_wants 30 = .ok (.ifCond .eq 7, 3) := by decide +kernel
theorem dX12_wants_33 : decode cX12_wants 33 = .ok (.iconst 4, 1) := by decide +kernel
theorem dX12_wants_34 : decode cX12_wants 34 = .ok (.goto 4, 3) := by decide +kernel
theorem dX12_wants_37 : decode cX12_wants 37 = .ok (.iconst 0, 1) := by decide +kernel
theorem dX12_wants_38 : decode cX12_wants 38 = .ok (.ior, 1) := by decide +kernel
theorem dX12_wants_39 : decode cX12_wants 39 = .ok (.ireturn, 1) := by decide +kernel
set_option maxRecDepth 100000 in
set_option maxHeartbeats 4000000 in
theorem c_X12_wants (l : Launch) (D : va_G) (t : Nat → ClassId) (h0 : Nat) (L : Nat → Nat) (σ : HS) (hM : MdI h0 L σ) (a0 : Int32) (post : Int32 → HS → Prop) (hw : F_X12_wants h0 L a0 post σ) (sz : Nat) : RMi l D t yX12_wants cX12_wants 1 (some .int) ({ frames := 0, cells := 0, slots := 0, locals := 0 }) h0 L σ sz [.int a0] post := by
  refine h_go (τ := τT) okT (by decide) (Nat.le_of_ble_eq_true rfl) ?_
  intro p e s m below meth c ls A hF hr hlk hAe hH0 hA hl
  unfold hB
  rw [hAe]
  clear hAe
  have hF : FX p m c cX12_wants 1 s _ RX12 D t := hF
  have hx := hF.1.1
  have hb := hF.1.2.1
  have hH : RT D t A s.heap h0 L σ s.heap [] := ⟨hH0, hM⟩
  have hl : lv_has ls 1 [(0, .int a0)] := hl
  unfold F_X12_wants at hw
  refine lv_iload_n hx hb dX12_wants_0 rfl (lv_at hl 0 rfl) ?_
  refine lv_bipush (v := 33) hx hb dX12_wants_1 (by decide) ?_
  refine lv_iand hx hb dX12_wants_3 ?_
  refine w_nmi hw (fun z1 hw => ?_)
  obtain ⟨K4, hK5, hw⟩ := jn_open hw
  refine w_join (K := K4) 12 (fun (x2 : Int32) => [(0, .int a0)]) (fun (x2 : Int32) => [.int x2]) hl hH (fun x2 σ3 ls H locs hl hw hH => ?_) (fun jn6 => ?_)
  · have hw := hK5 x2 σ3 hw
    have hl : lv_has ls 1 [(0, .int a0)] := hl
    refine lv_iload_n hx hb dX12_wants_12 rfl (lv_at hl 0 rfl) ?_
    refine lv_bipush (v := 6) hx hb dX12_wants_13 (by decide) ?_
    refine lv_iand hx hb dX12_wants_15 ?_
    refine w_nmi hw (fun z7 hw => ?_)
    obtain ⟨K10, hK11, hw⟩ := jn_open hw
    refine w_join (K := K10) 24 (fun (x8 : Int32) => [(0, .int a0)]) (fun (x8 : Int32) => [.int x8, .int x2]) hl hH (fun x8 σ9 ls H locs hl hw hH => ?_) (fun jn12 => ?_)
    · have hw := hK11 x8 σ9 hw
      have hl : lv_has ls 1 [(0, .int a0)] := hl
      refine lv_ior hx hb dX12_wants_24 ?_
      refine w_nmi hw (fun z13 hw => ?_)
      refine lv_iload_n hx hb dX12_wants_25 rfl (lv_at hl 0 rfl) ?_
      refine lv_ldcw (v := 65536) hx hb hF.1.2.2.2.1 (hF.1.2.2.2.2 _ (wc_53 27 rfl)) dX12_wants_26 ?_
      refine lv_iand hx hb dX12_wants_29 ?_
      refine w_nmi hw (fun z14 hw => ?_)
      obtain ⟨K17, hK18, hw⟩ := jn_open hw
      refine w_join (K := K17) 38 (fun (x15 : Int32) => []) (fun (x15 : Int32) => [.int x15, .int z13]) hl hH (fun x15 σ16 ls H locs hl hw hH => ?_) (fun jn19 => ?_)
      · have hw := hK18 x15 σ16 hw
        have hl : lv_has ls 1 [] := hl
        refine lv_ior hx hb dX12_wants_38 ?_
        refine w_nmi hw (fun z20 hw => ?_)
        exact w_reti hF hH hr hlk rfl dX12_wants_39 hw
      · skip
        refine w_if_eq (tgt := 37) hF dX12_wants_30 rfl hw (fun hw => ?_) (fun hw => ?_)
        · refine lv_iconst (v := 0) hx hb dX12_wants_37 (by decide) ?_
          have hl : lv_has ls 1 [] := lv_sub hl [] rfl
          exact jn19 0 σ9 ls _ _ hl hw hH
        · refine lv_iconst (v := 4) hx hb dX12_wants_33 (by decide) ?_
          refine lv_goto (tgt := 38) hx hb dX12_wants_34 rfl ?_
          have hl : lv_has ls 1 [] := lv_sub hl [] rfl
          exact jn19 4 σ9 ls _ _ hl hw hH
    · skip
      refine w_if_eq (tgt := 23) hF dX12_wants_16 rfl hw (fun hw => ?_) (fun hw => ?_)
      · refine lv_iconst (v := 0) hx hb dX12_wants_23 (by decide) ?_
        exact jn12 0 σ3 ls _ _ hl hw hH
      · refine lv_iconst (v := 2) hx hb dX12_wants_19 (by decide) ?_
        refine lv_goto (tgt := 24) hx hb dX12_wants_20 rfl ?_
        exact jn12 2 σ3 ls _ _ hl hw hH
  · skip
    refine w_if_eq (tgt := 11) hF dX12_wants_4 rfl hw (fun hw => ?_) (fun hw => ?_)
    · refine lv_iconst (v := 0) hx hb dX12_wants_11 (by decide) ?_
      exact jn6 0 σ ls _ _ hl hw hH
    · refine lv_iconst (v := 1) hx hb dX12_wants_7 (by decide) ?_
      refine lv_goto (tgt := 12) hx hb dX12_wants_8 rfl ?_
      exact jn6 1 σ ls _ _ hl hw hH
def F_X12_isShared (h0 : Nat) (L : Nat → Nat) (a1 : Int32) (a2 : Int32) (a3 : Int32) (post : Int32 → HS → Prop) (σ : HS) : Prop := F_X12_wants h0 L a2 (fun (z2 : Int32) (σ1 : HS) => lw (fun (K5 : (Int32 × Int32) → HS → Prop) (x3 : Int32 × Int32) (σ4 : HS) => jn (fun (K9 : Unit → HS → Prop) => (((40 : Int32).toInt ≤ x3.1.toInt) → K9 () σ4) ∧ ((x3.1.toInt < (40 : Int32).toInt) → ((z2.toInt = 0) → K9 () σ4) ∧ ((¬ z2.toInt = 0) → (0 ≤ x3.1.toInt ∧ x3.1.toInt < 40) ∧ ∀ z12 : Int64, z12 = sJ σ4 (L 41) x3.1.toInt.toNat → jn (fun (K15 : Int32 → HS → Prop) => ((z12.toInt ≤ (0 : Int64).toInt) → K15 x3.2 σ4) ∧ (((0 : Int64).toInt < z12.toInt) → (0 ≤ x3.1.toInt ∧ x3.1.toInt < 40) ∧ ∀ z19 : Int32, z19 = sI σ4 (L 43) x3.1.toInt.toNat → ((¬ z19.toInt = a1.toInt) → K15 x3.2 σ4) ∧ ((z19.toInt = a1.toInt) → (0 ≤ x3.1.toInt ∧ x3.1.toInt < 40) ∧ ∀ z20 : Int32, z20 = sI σ4 (L 44) x3.1.toInt.toNat → F_X12_wants h0 L z20 (fun (z22 : Int32) (σ21 : HS) => jn (fun (K25 : Int32 → HS → Prop) => jn (fun (K30 : Unit → HS → Prop) => ((x3.2.toInt = 0) → K30 () σ21) ∧ ((¬ x3.2.toInt = 0) → jn (fun (K35 : Unit → HS → Prop) => ((z22.toInt = 0) → K35 () σ21) ∧ ((¬ z22.toInt = 0) → (0 ≤ x3.1.toInt ∧ x3.1.toInt < 40) ∧ ∀ z38 : Int32, z38 = sI σ21 (L 45) x3.1.toInt.toNat → ∀ z39 : Int32, z39 = z38 ^^^ (-1) → ∀ z40 : Int32, z40 = z2 &&& z39 → ((¬ z40.toInt = 0) → K30 () σ21) ∧ ((z40.toInt = 0) → ∀ z41 : Int32, z41 = a3 ^^^ (-1) → ∀ z42 : Int32, z42 = z22 &&& z41 → ((¬ z42.toInt = 0) → K30 () σ21) ∧ ((z42.toInt = 0) → K35 () σ21)))) (fun (x33 : Unit) (σ34 : HS) => K25 1 σ34))) (fun (x28 : Unit) (σ29 : HS) => K25 0 σ29)) (fun (x23 : Int32) (σ24 : HS) => K15 x23 σ24)) σ4))) (fun (x13 : Int32) (σ14 : HS) => ∀ z18 : Int32, z18 = x3.1 + 1 → K5 (z18, x13) σ14)))) (fun (x7 : Unit) (σ8 : HS) => (0 ≤ x3.2.toInt ∧ x3.2.toInt ≤ 1) ∧ post x3.2 σ8)) (0, 1) σ1) σ
theorem dX12_isShared_0 : decode cX12_isShared 0 = .ok (.iconst 1, 1) := by decide +kernel
theorem dX12_isShared_1 : decode cX12_isShared 1 = .ok (.istore 4, 2) := by decide +kernel
theorem dX12_isShared_3 : decode cX12_isShared 3 = .ok (.iload_n 2, 1) := by decide +kernel
theorem dX12_isShared_4 : decode cX12_isShared 4 = .ok (.invokestatic 649, 3) := by decide +kernel
theorem dX12_isShared_7 : decode cX12_isShared 7 = .ok (.istore 5, 2) := by decide +kernel
theorem dX12_isShared_9 : decode cX12_isShared 9 = .ok (.iconst 0, 1) := by decide +kernel
theorem dX12_isShared_10 : decode cX12_isShared 10 = .ok (.istore 6, 2) := by decide +kernel
theorem dX12_isShared_12 : decode cX12_isShared 12 = .ok (.iload 6, 2) := by decide +kernel
theorem dX12_isShared_14 : decode cX12_isShared 14 = .ok (.bipush 40, 2) := by decide +kernel
theorem dX12_isShared_16 : decode cX12_isShared 16 = .ok (.if_icmp .ge 90, 3) := by decide +kernel
theorem dX12_isShared_19 : decode cX12_isShared 19 = .ok (.iload 5, 2) := by decide +kernel
theorem dX12_isShared_21 : decode cX12_isShared 21 = .ok (.ifCond .eq 85, 3) := by decide +kernel
theorem dX12_isShared_24 : decode cX12_isShared 24 = .ok (.aload_n 0, 1) := by decide +kernel
theorem dX12_isShared_25 : decode cX12_isShared 25 = .ok (.getfield 139, 3) := by decide +kernel
theorem dX12_isShared_28 : decode cX12_isShared 28 = .ok (.iload 6, 2) := by decide +kernel
theorem dX12_isShared_30 : decode cX12_isShared 30 = .ok (.laload, 1) := by decide +kernel
theorem dX12_isShared_31 : decode cX12_isShared 31 = .ok (.lconst 0, 1) := by decide +kernel
theorem dX12_isShared_32 : decode cX12_isShared 32 = .ok (.lcmp, 1) := by decide +kernel
theorem dX12_isShared_33 : decode cX12_isShared 33 = .ok (.ifCond .le 67, 3) := by decide +kernel
theorem dX12_isShared_36 : decode cX12_isShared 36 = .ok (.aload_n 0, 1) := by decide +kernel
theorem dX12_isShared_37 : decode cX12_isShared 37 = .ok (.getfield 145, 3) := by decide +kernel
theorem dX12_isShared_40 : decode cX12_isShared 40 = .ok (.iload 6, 2) := by decide +kernel
theorem dX12_isShared_42 : decode cX12_isShared 42 = .ok (.iaload, 1) := by decide +kernel
theorem dX12_isShared_43 : decode cX12_isShared 43 = .ok (.iload_n 1, 1) := by decide +kernel
theorem dX12_isShared_44 : decode cX12_isShared 44 = .ok (.if_icmp .ne 56, 3) := by decide +kernel
theorem dX12_isShared_47 : decode cX12_isShared 47 = .ok (.aload_n 0, 1) := by decide +kernel
theorem dX12_isShared_48 : decode cX12_isShared 48 = .ok (.getfield 148, 3) := by decide +kernel
theorem dX12_isShared_51 : decode cX12_isShared 51 = .ok (.iload 6, 2) := by decide +kernel
theorem dX12_isShared_53 : decode cX12_isShared 53 = .ok (.iaload, 1) := by decide +kernel
theorem dX12_isShared_54 : decode cX12_isShared 54 = .ok (.invokestatic 649, 3) := by decide +kernel
theorem dX12_isShared_57 : decode cX12_isShared 57 = .ok (.istore 7, 2) := by decide +kernel
theorem dX12_isShared_59 : decode cX12_isShared 59 = .ok (.iload 4, 2) := by decide +kernel
theorem dX12_isShared_61 : decode cX12_isShared 61 = .ok (.ifCond .eq 36, 3) := by decide +kernel
theorem dX12_isShared_64 : decode cX12_isShared 64 = .ok (.iload 7, 2) := by decide +kernel
theorem dX12_isShared_66 : decode cX12_isShared 66 = .ok (.ifCond .eq 27, 3) := by decide +kernel
theorem dX12_isShared_69 : decode cX12_isShared 69 = .ok (.iload 5, 2) := by decide +kernel
theorem dX12_isShared_71 : decode cX12_isShared 71 = .ok (.aload_n 0, 1) := by decide +kernel
theorem dX12_isShared_72 : decode cX12_isShared 72 = .ok (.getfield 151, 3) := by decide +kernel
theorem dX12_isShared_75 : decode cX12_isShared 75 = .ok (.iload 6, 2) := by decide +kernel
theorem dX12_isShared_77 : decode cX12_isShared 77 = .ok (.iaload, 1) := by decide +kernel
theorem dX12_isShared_78 : decode cX12_isShared 78 = .ok (.iconst (-1), 1) := by decide +kernel
theorem dX12_isShared_79 : decode cX12_isShared 79 = .ok (.ixor, 1) := by decide +kernel
theorem dX12_isShared_80 : decode cX12_isShared 80 = .ok (.iand, 1) := by decide +kernel
theorem dX12_isShared_81 : decode cX12_isShared 81 = .ok (.ifCond .ne 16, 3) := by decide +kernel
theorem dX12_isShared_84 : decode cX12_isShared 84 = .ok (.iload 7, 2) := by decide +kernel
theorem dX12_isShared_86 : decode cX12_isShared 86 = .ok (.iload_n 3, 1) := by decide +kernel
theorem dX12_isShared_87 : decode cX12_isShared 87 = .ok (.iconst (-1), 1) := by decide +kernel
theorem dX12_isShared_88 : decode cX12_isShared 88 = .ok (.ixor, 1) := by decide +kernel
theorem dX12_isShared_89 : decode cX12_isShared 89 = .ok (.iand, 1) := by decide +kernel
theorem dX12_isShared_90 : decode cX12_isShared 90 = .ok (.ifCond .ne 7, 3) := by decide +kernel
theorem dX12_isShared_93 : decode cX12_isShared 93 = .ok (.iconst 1, 1) := by decide +kernel
theorem dX12_isShared_94 : decode cX12_isShared 94 = .ok (.goto 4, 3) := by decide +kernel
theorem dX12_isShared_97 : decode cX12_isShared 97 = .ok (.iconst 0, 1) := by decide +kernel
theorem dX12_isShared_98 : decode cX12_isShared 98 = .ok (.istore 4, 2) := by decide +kernel
theorem dX12_isShared_100 : decode cX12_isShared 100 = .ok (.iinc 6 1, 3) := by decide +kernel
theorem dX12_isShared_103 : decode cX12_isShared 103 = .ok (.goto (-91), 3) := by decide +kernel
theorem dX12_isShared_106 : decode cX12_isShared 106 = .ok (.iload 4, 2) := by decide +kernel
theorem dX12_isShared_108 : decode cX12_isShared 108 = .ok (.ireturn, 1) := by decide +kernel
set_option maxRecDepth 100000 in
set_option maxHeartbeats 4000000 in
theorem c_X12_isShared (l : Launch) (D : va_G) (t : Nat → ClassId) (h0 : Nat) (L : Nat → Nat) (σ : HS) (hM : MdI h0 L σ) (a1 : Int32) (a2 : Int32) (a3 : Int32) (post : Int32 → HS → Prop) (hw : F_X12_isShared h0 L a1 a2 a3 post σ) (sz : Nat) : RMi l D t yX12_isShared cX12_isShared 8 (some .boolean) ({ frames := 1, cells := 0, slots := 0, locals := 20 }) h0 L σ sz [.ref h0, .int a1, .int a2, .int a3] post := by
  refine h_go (τ := τT) okT (by decide) (Nat.le_of_ble_eq_true rfl) ?_
  intro p e s m below meth c ls A hF hr hlk hAe hH0 hA hl
  unfold hB
  rw [hAe]
  clear hAe
  have hF : FX p m c cX12_isShared 8 s _ RX12 D t := hF
  have hx := hF.1.1
  have hb := hF.1.2.1
  have hH : RT D t A s.heap h0 L σ s.heap [] := ⟨hH0, hM⟩
  have hl : lv_has ls 8 [(0, .ref h0), (1, .int a1), (2, .int a2), (3, .int a3)] := hl
  unfold F_X12_isShared at hw
  refine lv_iconst (v := 1) hx hb dX12_isShared_0 (by decide) ?_
  refine lv_istore (lv' := [(4, .int 1), (0, .ref h0), (1, .int a1), (2, .int a2), (3, .int a3)]) hx hb dX12_isShared_1 hl (by decide) rfl (fun ls hl => ?_)
  refine lv_iload_n hx hb dX12_isShared_3 rfl (lv_at hl 3 rfl) ?_
  refine w_cSi (As := [.int a2]) (rest := []) hF hH hA ms_X12_649 (fun sz => c_X12_wants l D t h0 L _ hH.2 a2 _ hw sz) dX12_isShared_4 rfl rfl (by decide) rfl hl.1 (Nat.le_of_ble_eq_true rfl) (by decide) rfl (fun z2 σ1 H locs hw hH => ?_)
  refine lv_istore (lv' := [(5, .int z2), (4, .int 1), (0, .ref h0), (1, .int a1), (2, .int a2), (3, .int a3)]) hx hb dX12_isShared_7 hl (by decide) rfl (fun ls hl => ?_)
  refine lv_iconst (v := 0) hx hb dX12_isShared_9 (by decide) ?_
  refine lv_istore (lv' := [(6, .int 0), (5, .int z2), (4, .int 1), (0, .ref h0), (1, .int a1), (2, .int a2), (3, .int a3)]) hx hb dX12_isShared_10 hl (by decide) rfl (fun ls hl => ?_)
  have hl : lv_has ls 8 [(6, .int 0), (5, .int z2), (4, .int 1), (3, .int a3), (1, .int a1), (0, .ref h0)] := lv_sub hl [0, 1, 2, 6, 4, 3] rfl
  refine w_loop (β := Int32 × Int32) (fun x3 => [(6, .int x3.1), (5, .int z2), (4, .int x3.2), (3, .int a3), (1, .int a1), (0, .ref h0)]) (0, 1) hl hw hH (fun K5 x3 σ4 ls H locs hl hw hH ih6 => ?_)
  have hl : lv_has ls 8 [(6, .int x3.1), (5, .int z2), (4, .int x3.2), (3, .int a3), (1, .int a1), (0, .ref h0)] := hl
  refine lv_iload hx hb dX12_isShared_12 (lv_at hl 0 rfl) ?_
  refine lv_bipush (v := 40) hx hb dX12_isShared_14 (by decide) ?_
  obtain ⟨K9, hK10, hw⟩ := jn_open hw
  refine w_join (K := K9) 106 (fun (x7 : Unit) => [(4, .int x3.2)]) (fun (x7 : Unit) => []) hl hH (fun x7 σ8 ls H locs hl hw hH => ?_) (fun jn11 => ?_)
  · have hw := hK10 x7 σ8 hw
    have hl : lv_has ls 8 [(4, .int x3.2)] := hl
    refine lv_iload hx hb dX12_isShared_106 (lv_at hl 0 rfl) ?_
    exact w_retz hF hH hr hlk dX12_isShared_108 hw
  · skip
    refine w_icmp_ge (tgt := 106) hF dX12_isShared_16 rfl hw (fun hw => ?_) (fun hw => ?_)
    · have hl : lv_has ls 8 [(4, .int x3.2)] := lv_sub hl [2] rfl
      exact jn11 () σ4 ls _ _ hl hw hH
    · refine lv_iload hx hb dX12_isShared_19 (lv_at hl 1 rfl) ?_
      refine w_if_eq (tgt := 106) hF dX12_isShared_21 rfl hw (fun hw => ?_) (fun hw => ?_)
      · have hl : lv_has ls 8 [(4, .int x3.2)] := lv_sub hl [2] rfl
        exact jn11 () σ4 ls _ _ hl hw hH
      · refine lv_aload_n hx hb dX12_isShared_24 rfl (lv_at hl 5 rfl) ?_
        refine w_getA 41 hF hH fk_X12_139 dX12_isShared_25 (by decide) rfl ?_
        refine lv_iload hx hb dX12_isShared_28 (lv_at hl 0 rfl) ?_
        refine w_lald 41 40 hF hH dX12_isShared_30 (by decide) rfl rfl hw (fun z12 hw => ?_)
        refine lv_lconst (v := 0) hx hb dX12_isShared_31 (by decide) ?_
        obtain ⟨K15, hK16, hw⟩ := jn_open hw
        refine w_join (K := K15) 100 (fun (x13 : Int32) => [(6, .int x3.1), (5, .int z2), (4, .int x13), (3, .int a3), (1, .int a1), (0, .ref h0)]) (fun (x13 : Int32) => []) hl hH (fun x13 σ14 ls H locs hl hw hH => ?_) (fun jn17 => ?_)
        · have hw := hK16 x13 σ14 hw
          have hl : lv_has ls 8 [(6, .int x3.1), (5, .int z2), (4, .int x13), (3, .int a3), (1, .int a1), (0, .ref h0)] := hl
          obtain ⟨z18, ez18⟩ : ∃ z : Int32, z = x3.1 + 1 := ⟨_, rfl⟩
          have hw := hw z18 ez18
          refine lv_iinc (lv' := [(6, .int z18), (5, .int z2), (4, .int x13), (3, .int a3), (1, .int a1), (0, .ref h0)]) (k := 0) (v := z18) hx hb dX12_isShared_100 hl rfl ez18.symm (by decide) rfl (fun ls hl => ?_)
          refine lv_goto (tgt := 12) hx hb dX12_isShared_103 rfl ?_
          exact ih6 (z18, x13) σ14 ls _ _ hl hw hH
        · skip
          refine w_lif_le (tgt := 100) hF dX12_isShared_32 dX12_isShared_33 rfl hw (fun hw => ?_) (fun hw => ?_)
          · exact jn17 x3.2 σ4 ls _ _ hl hw hH
          · refine lv_aload_n hx hb dX12_isShared_36 rfl (lv_at hl 5 rfl) ?_
            refine w_getA 43 hF hH fk_X12_145 dX12_isShared_37 (by decide) rfl ?_
            refine lv_iload hx hb dX12_isShared_40 (lv_at hl 0 rfl) ?_
            refine w_iald 43 40 hF hH dX12_isShared_42 (by decide) rfl rfl hw (fun z19 hw => ?_)
            refine lv_iload_n hx hb dX12_isShared_43 rfl (lv_at hl 4 rfl) ?_
            refine w_icmp_ne (tgt := 100) hF dX12_isShared_44 rfl hw (fun hw => ?_) (fun hw => ?_)
            · exact jn17 x3.2 σ4 ls _ _ hl hw hH
            · refine lv_aload_n hx hb dX12_isShared_47 rfl (lv_at hl 5 rfl) ?_
              refine w_getA 44 hF hH fk_X12_148 dX12_isShared_48 (by decide) rfl ?_
              refine lv_iload hx hb dX12_isShared_51 (lv_at hl 0 rfl) ?_
              refine w_iald 44 40 hF hH dX12_isShared_53 (by decide) rfl rfl hw (fun z20 hw => ?_)
              refine w_cSi (As := [.int z20]) (rest := []) hF hH hA ms_X12_649 (fun sz => c_X12_wants l D t h0 L _ hH.2 z20 _ hw sz) dX12_isShared_54 rfl rfl (by decide) rfl hl.1 (Nat.le_of_ble_eq_true rfl) (by decide) rfl (fun z22 σ21 H locs hw hH => ?_)
              refine lv_istore (lv' := [(7, .int z22), (6, .int x3.1), (5, .int z2), (4, .int x3.2), (3, .int a3), (1, .int a1), (0, .ref h0)]) hx hb dX12_isShared_57 hl (by decide) rfl (fun ls hl => ?_)
              refine lv_iload hx hb dX12_isShared_59 (lv_at hl 3 rfl) ?_
              obtain ⟨K25, hK26, hw⟩ := jn_open hw
              refine w_join (K := K25) 98 (fun (x23 : Int32) => [(6, .int x3.1), (5, .int z2), (3, .int a3), (1, .int a1), (0, .ref h0)]) (fun (x23 : Int32) => [.int x23]) hl hH (fun x23 σ24 ls H locs hl hw hH => ?_) (fun jn27 => ?_)
              · have hw := hK26 x23 σ24 hw
                have hl : lv_has ls 8 [(6, .int x3.1), (5, .int z2), (3, .int a3), (1, .int a1), (0, .ref h0)] := hl
                refine lv_istore (lv' := [(4, .int x23), (6, .int x3.1), (5, .int z2), (3, .int a3), (1, .int a1), (0, .ref h0)]) hx hb dX12_isShared_98 hl (by decide) rfl (fun ls hl => ?_)
                have hl : lv_has ls 8 [(6, .int x3.1), (5, .int z2), (4, .int x23), (3, .int a3), (1, .int a1), (0, .ref h0)] := lv_sub hl [1, 2, 0, 3, 4, 5] rfl
                exact jn17 x23 σ24 ls _ _ hl hw hH
              · skip
                obtain ⟨K30, hK31, hw⟩ := jn_open hw
                refine w_join (K := K30) 97 (fun (x28 : Unit) => [(6, .int x3.1), (5, .int z2), (3, .int a3), (1, .int a1), (0, .ref h0)]) (fun (x28 : Unit) => []) hl hH (fun x28 σ29 ls H locs hl hw hH => ?_) (fun jn32 => ?_)
                · have hw := hK31 x28 σ29 hw
                  have hl : lv_has ls 8 [(6, .int x3.1), (5, .int z2), (3, .int a3), (1, .int a1), (0, .ref h0)] := hl
                  refine lv_iconst (v := 0) hx hb dX12_isShared_97 (by decide) ?_
                  exact jn27 0 σ29 ls _ _ hl hw hH
                · skip
                  refine w_if_eq (tgt := 97) hF dX12_isShared_61 rfl hw (fun hw => ?_) (fun hw => ?_)
                  · have hl : lv_has ls 8 [(6, .int x3.1), (5, .int z2), (3, .int a3), (1, .int a1), (0, .ref h0)] := lv_sub hl [1, 2, 4, 5, 6] rfl
                    exact jn32 () σ21 ls _ _ hl hw hH
                  · refine lv_iload hx hb dX12_isShared_64 (lv_at hl 0 rfl) ?_
                    obtain ⟨K35, hK36, hw⟩ := jn_open hw
                    refine w_join (K := K35) 93 (fun (x33 : Unit) => [(6, .int x3.1), (5, .int z2), (3, .int a3), (1, .int a1), (0, .ref h0)]) (fun (x33 : Unit) => []) hl hH (fun x33 σ34 ls H locs hl hw hH => ?_) (fun jn37 => ?_)
                    · have hw := hK36 x33 σ34 hw
                      have hl : lv_has ls 8 [(6, .int x3.1), (5, .int z2), (3, .int a3), (1, .int a1), (0, .ref h0)] := hl
                      refine lv_iconst (v := 1) hx hb dX12_isShared_93 (by decide) ?_
                      refine lv_goto (tgt := 98) hx hb dX12_isShared_94 rfl ?_
                      exact jn27 1 σ34 ls _ _ hl hw hH
                    · skip
                      refine w_if_eq (tgt := 93) hF dX12_isShared_66 rfl hw (fun hw => ?_) (fun hw => ?_)
                      · have hl : lv_has ls 8 [(6, .int x3.1), (5, .int z2), (3, .int a3), (1, .int a1), (0, .ref h0)] := lv_sub hl [1, 2, 4, 5, 6] rfl
                        exact jn37 () σ21 ls _ _ hl hw hH
                      · refine lv_iload hx hb dX12_isShared_69 (lv_at hl 2 rfl) ?_
                        refine lv_aload_n hx hb dX12_isShared_71 rfl (lv_at hl 6 rfl) ?_
                        refine w_getA 45 hF hH fk_X12_151 dX12_isShared_72 (by decide) rfl ?_
                        refine lv_iload hx hb dX12_isShared_75 (lv_at hl 1 rfl) ?_
                        refine w_iald 45 40 hF hH dX12_isShared_77 (by decide) rfl rfl hw (fun z38 hw => ?_)
                        refine lv_iconst (v := (-1)) hx hb dX12_isShared_78 (by decide) ?_
                        refine lv_ixor hx hb dX12_isShared_79 ?_
                        refine w_nmi hw (fun z39 hw => ?_)
                        refine lv_iand hx hb dX12_isShared_80 ?_
                        refine w_nmi hw (fun z40 hw => ?_)
                        refine w_if_ne (tgt := 97) hF dX12_isShared_81 rfl hw (fun hw => ?_) (fun hw => ?_)
                        · have hl : lv_has ls 8 [(6, .int x3.1), (5, .int z2), (3, .int a3), (1, .int a1), (0, .ref h0)] := lv_sub hl [1, 2, 4, 5, 6] rfl
                          exact jn32 () σ21 ls _ _ hl hw hH
                        · refine lv_iload hx hb dX12_isShared_84 (lv_at hl 0 rfl) ?_
                          refine lv_iload_n hx hb dX12_isShared_86 rfl (lv_at hl 4 rfl) ?_
                          refine lv_iconst (v := (-1)) hx hb dX12_isShared_87 (by decide) ?_
                          refine lv_ixor hx hb dX12_isShared_88 ?_
                          refine w_nmi hw (fun z41 hw => ?_)
                          refine lv_iand hx hb dX12_isShared_89 ?_
                          refine w_nmi hw (fun z42 hw => ?_)
                          refine w_if_ne (tgt := 97) hF dX12_isShared_90 rfl hw (fun hw => ?_) (fun hw => ?_)
                          · have hl : lv_has ls 8 [(6, .int x3.1), (5, .int z2), (3, .int a3), (1, .int a1), (0, .ref h0)] := lv_sub hl [1, 2, 4, 5, 6] rfl
                            exact jn32 () σ21 ls _ _ hl hw hH
                          · have hl : lv_has ls 8 [(6, .int x3.1), (5, .int z2), (3, .int a3), (1, .int a1), (0, .ref h0)] := lv_sub hl [1, 2, 4, 5, 6] rfl
                            exact jn37 () σ21 ls _ _ hl hw hH
def F_X12_there (h0 : Nat) (L : Nat → Nat) (a1 : Int32) (a2 : Int32) (a3 : Int32) (a4 : Int32) (a5 : Int32) (a6 : Int32) (a7 : Int32) (a8 : Int32) (a9 : Int32) (a10 : Int32) (post : Int64 → HS → Prop) (σ : HS) : Prop := (0 ≤ a1.toInt ∧ a1.toInt < 80) ∧ ∀ z1 : Int32, z1 = sI σ (L 10) a1.toInt.toNat → ((z1.toInt = 0) → ((¬ a5.toInt = (2 : Int32).toInt) → (0 ≤ a1.toInt ∧ a1.toInt < 160) ∧ ∀ z2 : Int32, z2 = sI σ (L 3) a1.toInt.toNat → jn (fun (K5 : Unit → HS → Prop) => ((z2.toInt = 0) → K5 () σ) ∧ ((¬ z2.toInt = 0) → jn (fun (K81 : Unit → HS → Prop) => ((¬ a7.toInt = 0) → K81 () σ) ∧ ((a7.toInt = 0) → ((a9.toInt = 0) → K5 () σ) ∧ ((¬ a9.toInt = 0) → K81 () σ))) (fun (x79 : Unit) (σ80 : HS) => post 3221225658 σ80))) (fun (x3 : Unit) (σ4 : HS) => (0 ≤ a1.toInt ∧ a1.toInt < 160) ∧ ∀ z8 : Int32, z8 = sI σ4 (L 3) a1.toInt.toNat → jn (fun (K11 : Unit → HS → Prop) => ((¬ z8.toInt = 0) → K11 () σ4) ∧ ((z8.toInt = 0) → ((a6.toInt = 0) → K11 () σ4) ∧ ((¬ a6.toInt = 0) → post 3221225731 σ4))) (fun (x9 : Unit) (σ10 : HS) => (0 ≤ a1.toInt ∧ a1.toInt < 160) ∧ ∀ z14 : Int32, z14 = sI σ10 (L 6) a1.toInt.toNat → ∀ z15 : Int32, z15 = z14 &&& 1 → jn (fun (K18 : Int32 → HS → Prop) => ((z15.toInt = 0) → K18 0 σ10) ∧ ((¬ z15.toInt = 0) → K18 1 σ10)) (fun (x16 : Int32) (σ17 : HS) => jn (fun (K23 : Unit → HS → Prop) => ((x16.toInt = 0) → K23 () σ17) ∧ ((¬ x16.toInt = 0) → ∀ z73 : Int32, z73 = a3 &&& 6 → jn (fun (K76 : Unit → HS → Prop) => ((¬ z73.toInt = 0) → K76 () σ17) ∧ ((z73.toInt = 0) → ((a9.toInt = 0) → K23 () σ17) ∧ ((¬ a9.toInt = 0) → K76 () σ17))) (fun (x74 : Unit) (σ75 : HS) => post 3221225506 σ75))) (fun (x21 : Unit) (σ22 : HS) => jn (fun (K28 : Unit → HS → Prop) => ((a8.toInt = 0) → K28 () σ22) ∧ ((¬ a8.toInt = 0) → jn (fun (K70 : Unit → HS → Prop) => ((¬ x16.toInt = 0) → K70 () σ22) ∧ ((x16.toInt = 0) → ((¬ a1.toInt = a10.toInt) → K28 () σ22) ∧ ((a1.toInt = a10.toInt) → K70 () σ22))) (fun (x68 : Unit) (σ69 : HS) => post 3221225761 σ69))) (fun (x26 : Unit) (σ27 : HS) => F_X12_count h0 L 41 40 (fun (z32 : Int32) (σ31 : HS) => ((¬ z32.toInt = (40 : Int32).toInt) → jn (fun (K35 : Int32 → HS → Prop) => ((a9.toInt = 0) → K35 1 σ31) ∧ ((¬ a9.toInt = 0) → K35 0 σ31)) (fun (x33 : Int32) (σ34 : HS) => (0 ≤ a1.toInt ∧ a1.toInt < 160) ∧ ∀ z38 : Int32, z38 = sI σ34 (L 3) a1.toInt.toNat → jn (fun (K41 : Unit → HS → Prop) => ((¬ z38.toInt = 0) → K41 () σ34) ∧ ((z38.toInt = 0) → F_X12_openWith h0 L a1 (-1) (fun (z59 : Int32) (σ58 : HS) => ((z59.toInt < 0) → F_X12_openWith h0 L a1 9 (fun (z61 : Int32) (σ60 : HS) => ((z61.toInt < 0) → K41 () σ60) ∧ ((0 ≤ z61.toInt) → F_X12_breaks h0 L z61 x33 (fun (σ62 : HS) => F_X12_waitsFor h0 L a2 a1 (fun (z65 : Int64) (σ64 : HS) => post z65 σ64) σ62) σ60)) σ58) ∧ ((0 ≤ z59.toInt) → F_X12_waitsFor h0 L a2 a1 (fun (z67 : Int64) (σ66 : HS) => post z67 σ66) σ58)) σ34)) (fun (x39 : Unit) (σ40 : HS) => F_X12_isShared h0 L a1 a3 a4 (fun (z45 : Int32) (σ44 : HS) => ((¬ z45.toInt = 0) → (0 ≤ a1.toInt ∧ a1.toInt < 160) ∧ ∀ z46 : Int32, z46 = sI σ44 (L 3) a1.toInt.toNat → jn (fun (K49 : Unit → HS → Prop) => ((¬ z46.toInt = 0) → K49 () σ44) ∧ ((z46.toInt = 0) → F_X12_openWith h0 L a1 8 (fun (z53 : Int32) (σ52 : HS) => ((z53.toInt < 0) → K49 () σ52) ∧ ((0 ≤ z53.toInt) → F_X12_breaks h0 L z53 x33 (fun (σ54 : HS) => F_X12_waitsFor h0 L a2 a1 (fun (z57 : Int64) (σ56 : HS) => post z57 σ56) σ54) σ52)) σ44)) (fun (x47 : Unit) (σ48 : HS) => post 0 σ48)) ∧ ((z45.toInt = 0) → post 3221225539 σ44)) σ40))) ∧ ((z32.toInt = (40 : Int32).toInt) → post 3221225626 σ31)) σ27)))))) ∧ ((a5.toInt = (2 : Int32).toInt) → post 3221225525 σ)) ∧ ((¬ z1.toInt = 0) → post 3221225558 σ)
theorem dX12_there_0 : decode cX12_there 0 = .ok (.aload_n 0, 1) := by decide +kernel
theorem dX12_there_1 : decode cX12_there 1 = .ok (.getfield 44, 3) := by decide +kernel
theorem dX12_there_4 : decode cX12_there 4 = .ok (.iload_n 1, 1) := by decide +kernel
theorem dX12_there_5 : decode cX12_there 5 = .ok (.baload, 1) := by decide +kernel
theorem dX12_there_6 : decode cX12_there 6 = .ok (.ifCond .eq 7, 3) := by decide +kernel
theorem dX12_there_9 : decode cX12_there 9 = .ok (.ldc2_w 711, 3) := by decide +kernel
theorem dX12_there_12 : decode cX12_there 12 = .ok (.lreturn, 1) := by decide +kernel
theorem dX12_there_13 : decode cX12_there 13 = .ok (.iload 5, 2) := by decide +kernel
theorem dX12_there_15 : decode cX12_there 15 = .ok (.iconst 2, 1) := by decide +kernel
theorem dX12_there_16 : decode cX12_there 16 = .ok (.if_icmp .ne 7, 3) := by decide +kernel
theorem dX12_there_19 : decode cX12_there 19 = .ok (.ldc2_w 713, 3) := by decide +kernel
theorem dX12_there_22 : decode cX12_there 22 = .ok (.lreturn, 1) := by decide +kernel
theorem dX12_there_23 : decode cX12_there 23 = .ok (.aload_n 0, 1) := by decide +kernel
theorem dX12_there_24 : decode cX12_there 24 = .ok (.getfield 21, 3) := by decide +kernel
theorem dX12_there_27 : decode cX12_there 27 = .ok (.iload_n 1, 1) := by decide +kernel
theorem dX12_there_28 : decode cX12_there 28 = .ok (.baload, 1) := by decide +kernel
theorem dX12_there_29 : decode cX12_there 29 = .ok (.ifCond .eq 17, 3) := by decide +kernel
theorem dX12_there_32 : decode cX12_there 32 = .ok (.iload 7, 2) := by decide +kernel
theorem dX12_there_34 : decode cX12_there 34 = .ok (.ifCond .ne 8, 3) := by decide +kernel
theorem dX12_there_37 : decode cX12_there 37 = .ok (.iload 9, 2) := by decide +kernel
theorem dX12_there_39 : decode cX12_there 39 = .ok (.ifCond .eq 7, 3) := by decide +kernel
theorem dX12_there_42 : decode cX12_there 42 = .ok (.ldc2_w 715, 3) := by decide +kernel
theorem dX12_there_45 : decode cX12_there 45 = .ok (.lreturn, 1) := by decide +kernel
theorem dX12_there_46 : decode cX12_there 46 = .ok (.aload_n 0, 1) := by decide +kernel
theorem dX12_there_47 : decode cX12_there 47 = .ok (.getfield 21, 3) := by decide +kernel
theorem dX12_there_50 : decode cX12_there 50 = .ok (.iload_n 1, 1) := by decide +kernel
theorem dX12_there_51 : decode cX12_there 51 = .ok (.baload, 1) := by decide +kernel
theorem dX12_there_52 : decode cX12_there 52 = .ok (.ifCond .ne 12, 3) := by decide +kernel
theorem dX12_there_55 : decode cX12_there 55 = .ok (.iload 6, 2) := by decide +kernel
theorem dX12_there_57 : decode cX12_there 57 = .ok (.ifCond .eq 7, 3) := by decide +kernel
theorem dX12_there_60 : decode cX12_there 60 = .ok (.ldc2_w 717, 3) := by decide +kernel
theorem dX12_there_63 : decode cX12_there 63 = .ok (.lreturn, 1) := by decide +kernel
theorem dX12_there_64 : decode cX12_there 64 = .ok (.aload_n 0, 1) := by decide +kernel
theorem dX12_there_65 : decode cX12_there 65 = .ok (.getfield 30, 3) := by decide +kernel
theorem dX12_there_68 : decode cX12_there 68 = .ok (.iload_n 1, 1) := by decide +kernel
theorem dX12_there_69 : decode cX12_there 69 = .ok (.iaload, 1) := by decide +kernel
theorem dX12_there_70 : decode cX12_there 70 = .ok (.iconst 1, 1) := by decide +kernel
theorem dX12_there_71 : decode cX12_there 71 = .ok (.iand, 1) := by decide +kernel
theorem dX12_there_72 : decode cX12_there 72 = .ok (.ifCond .eq 7, 3) := by decide +kernel
theorem dX12_there_75 : decode cX12_there 75 = .ok (.iconst 1, 1) := by decide +kernel
theorem dX12_there_76 : decode cX12_there 76 = .ok (.goto 4, 3) := by decide +kernel
theorem dX12_there_79 : decode cX12_there 79 = .ok (.iconst 0, 1) := by decide +kernel
theorem dX12_there_80 : decode cX12_there 80 = .ok (.istore 11, 2) := by decide +kernel
theorem dX12_there_82 : decode cX12_there 82 = .ok (.iload 11, 2) := by decide +kernel
theorem dX12_there_84 : decode cX12_there 84 = .ok (.ifCond .eq 19, 3) := by decide +kernel
theorem dX12_there_87 : decode cX12_there 87 = .ok (.iload_n 3, 1) := by decide +kernel
theorem dX12_there_88 : decode cX12_there 88 = .ok (.bipush 6, 2) := by decide +kernel
theorem dX12_there_90 : decode cX12_there 90 = .ok (.iand, 1) := by decide +kernel
theorem dX12_there_91 : decode cX12_there 91 = .ok (.ifCond .ne 8, 3) := by decide +kernel
theorem dX12_there_94 : decode cX12_there 94 = .ok (.iload 9, 2) := by decide +kernel
theorem dX12_there_96 : decode cX12_there 96 = .ok (.ifCond .eq 7, 3) := by decide +kernel
theorem dX12_there_99 : decode cX12_there 99 = .ok (.ldc2_w 667, 3) := by decide +kernel
theorem dX12_there_102 : decode cX12_there 102 = .ok (.lreturn, 1) := by decide +kernel
theorem dX12_there_103 : decode cX12_there 103 = .ok (.iload 8, 2) := by decide +kernel
theorem dX12_there_105 : decode cX12_there 105 = .ok (.ifCond .eq 18, 3) := by decide +kernel
theorem dX12_there_108 : decode cX12_there 108 = .ok (.iload 11, 2) := by decide +kernel
theorem dX12_there_110 : decode cX12_there 110 = .ok (.ifCond .ne 9, 3) := by decide +kernel
theorem dX12_there_113 : decode cX12_there 113 = .ok (.iload_n 1, 1) := by decide +kernel
theorem dX12_there_114 : decode cX12_there 114 = .ok (.iload 10, 2) := by decide +kernel
theorem dX12_there_116 : decode cX12_there 116 = .ok (.if_icmp .ne 7, 3) := by decide +kernel
theorem dX12_there_119 : decode cX12_there 119 = .ok (.ldc2_w 719, 3) := by decide +kernel
theorem dX12_there_122 : decode cX12_there 122 = .ok (.lreturn, 1) := by decide +kernel
theorem dX12_there_123 : decode cX12_there 123 = .ok (.aload_n 0, 1) := by decide +kernel
theorem dX12_there_124 : decode cX12_there 124 = .ok (.aload_n 0, 1) := by decide +kernel
theorem dX12_there_125 : decode cX12_there 125 = .ok (.getfield 139, 3) := by decide +kernel
theorem dX12_there_128 : decode cX12_there 128 = .ok (.invokevirtual 688, 3) := by decide +kernel
theorem dX12_there_131 : decode cX12_there 131 = .ok (.bipush 40, 2) := by decide +kernel
theorem dX12_there_133 : decode cX12_there 133 = .ok (.if_icmp .ne 7, 3) := by decide +kernel
theorem dX12_there_136 : decode cX12_there 136 = .ok (.ldc2_w 607, 3) := by decide +kernel
theorem dX12_there_139 : decode cX12_there 139 = .ok (.lreturn, 1) := by decide +kernel
theorem dX12_there_140 : decode cX12_there 140 = .ok (.iload 9, 2) := by decide +kernel
theorem dX12_there_142 : decode cX12_there 142 = .ok (.ifCond .eq 7, 3) := by decide +kernel
theorem dX12_there_145 : decode cX12_there 145 = .ok (.iconst 0, 1) := by decide +kernel
theorem dX12_there_146 : decode cX12_there 146 = .ok (.goto 4, 3) := by decide +kernel
theorem dX12_there_149 : decode cX12_there 149 = .ok (.iconst 1, 1) := by decide +kernel
theorem dX12_there_150 : decode cX12_there 150 = .ok (.istore 12, 2) := by decide +kernel
theorem dX12_there_152 : decode cX12_there 152 = .ok (.aload_n 0, 1) := by decide +kernel
theorem dX12_there_153 : decode cX12_there 153 = .ok (.getfield 21, 3) := by decide +kernel
theorem dX12_there_156 : decode cX12_there 156 = .ok (.iload_n 1, 1) := by decide +kernel
theorem dX12_there_157 : decode cX12_there 157 = .ok (.baload, 1) := by decide +kernel
theorem dX12_there_158 : decode cX12_there 158 = .ok (.ifCond .ne 48, 3) := by decide +kernel
theorem dX12_there_161 : decode cX12_there 161 = .ok (.aload_n 0, 1) := by decide +kernel
theorem dX12_there_162 : decode cX12_there 162 = .ok (.iload_n 1, 1) := by decide +kernel
theorem dX12_there_163 : decode cX12_there 163 = .ok (.iconst (-1), 1) := by decide +kernel
theorem dX12_there_164 : decode cX12_there 164 = .ok (.invokevirtual 721, 3) := by decide +kernel
theorem dX12_there_167 : decode cX12_there 167 = .ok (.ifCond .lt 10, 3) := by decide +kernel
theorem dX12_there_170 : decode cX12_there 170 = .ok (.aload_n 0, 1) := by decide +kernel
theorem dX12_there_171 : decode cX12_there 171 = .ok (.iload_n 2, 1) := by decide +kernel
theorem dX12_there_172 : decode cX12_there 172 = .ok (.iload_n 1, 1) := by decide +kernel
theorem dX12_there_173 : decode cX12_there 173 = .ok (.invokevirtual 724, 3) := by decide +kernel
theorem dX12_there_176 : decode cX12_there 176 = .ok (.lreturn, 1) := by decide +kernel
theorem dX12_there_177 : decode cX12_there 177 = .ok (.aload_n 0, 1) := by decide +kernel
theorem dX12_there_178 : decode cX12_there 178 = .ok (.iload_n 1, 1) := by decide +kernel
theorem dX12_there_179 : decode cX12_there 179 = .ok (.bipush 9, 2) := by decide +kernel
theorem dX12_there_181 : decode cX12_there 181 = .ok (.invokevirtual 721, 3) := by decide +kernel
theorem dX12_there_184 : decode cX12_there 184 = .ok (.istore 13, 2) := by decide +kernel
theorem dX12_there_186 : decode cX12_there 186 = .ok (.iload 13, 2) := by decide +kernel
theorem dX12_there_188 : decode cX12_there 188 = .ok (.ifCond .lt 18, 3) := by decide +kernel
theorem dX12_there_191 : decode cX12_there 191 = .ok (.aload_n 0, 1) := by decide +kernel
theorem dX12_there_192 : decode cX12_there 192 = .ok (.iload 13, 2) := by decide +kernel
theorem dX12_there_194 : decode cX12_there 194 = .ok (.iload 12, 2) := by decide +kernel
theorem dX12_there_196 : decode cX12_there 196 = .ok (.invokevirtual 727, 3) := by decide +kernel
theorem dX12_there_199 : decode cX12_there 199 = .ok (.aload_n 0, 1) := by decide +kernel
theorem dX12_there_200 : decode cX12_there 200 = .ok (.iload_n 2, 1) := by decide +kernel
theorem dX12_there_201 : decode cX12_there 201 = .ok (.iload_n 1, 1) := by decide +kernel
theorem dX12_there_202 : decode cX12_there 202 = .ok (.invokevirtual 724, 3) := by decide +kernel
theorem dX12_there_205 : decode cX12_there 205 = .ok (.lreturn, 1) := by decide +kernel
theorem dX12_there_206 : decode cX12_there 206 = .ok (.aload_n 0, 1) := by decide +kernel
theorem dX12_there_207 : decode cX12_there 207 = .ok (.iload_n 1, 1) := by decide +kernel
theorem dX12_there_208 : decode cX12_there 208 = .ok (.iload_n 3, 1) := by decide +kernel
theorem dX12_there_209 : decode cX12_there 209 = .ok (.iload 4, 2) := by decide +kernel
theorem dX12_there_211 : decode cX12_there 211 = .ok (.invokevirtual 730, 3) := by decide +kernel
theorem dX12_there_214 : decode cX12_there 214 = .ok (.ifCond .ne 7, 3) := by decide +kernel
theorem dX12_there_217 : decode cX12_there 217 = .ok (.ldc2_w 652, 3) := by decide +kernel
theorem dX12_there_220 : decode cX12_there 220 = .ok (.lreturn, 1) := by decide +kernel
theorem dX12_there_221 : decode cX12_there 221 = .ok (.aload_n 0, 1) := by decide +kernel
theorem dX12_there_222 : decode cX12_there 222 = .ok (.getfield 21, 3) := by decide +kernel
theorem dX12_there_225 : decode cX12_there 225 = .ok (.iload_n 1, 1) := by decide +kernel
theorem dX12_there_226 : decode cX12_there 226 = .ok (.baload, 1) := by decide +kernel
theorem dX12_there_227 : decode cX12_there 227 = .ok (.ifCond .ne 32, 3) := by decide +kernel
theorem dX12_there_230 : decode cX12_there 230 = .ok (.aload_n 0, 1) := by decide +kernel
theorem dX12_there_231 : decode cX12_there 231 = .ok (.iload_n 1, 1) := by decide +kernel
theorem dX12_there_232 : decode cX12_there 232 = .ok (.bipush 8, 2) := by decide +kernel
theorem dX12_there_234 : decode cX12_there 234 = .ok (.invokevirtual 721, 3) := by decide +kernel
theorem dX12_there_237 : decode cX12_there 237 = .ok (.istore 13, 2) := by decide +kernel
theorem dX12_there_239 : decode cX12_there 239 = .ok (.iload 13, 2) := by decide +kernel
theorem dX12_there_241 : decode cX12_there 241 = .ok (.ifCond .lt 18, 3) := by decide +kernel
theorem dX12_there_244 : decode cX12_there 244 = .ok (.aload_n 0, 1) := by decide +kernel
theorem dX12_there_245 : decode cX12_there 245 = .ok (.iload 13, 2) := by decide +kernel
theorem dX12_there_247 : decode cX12_there 247 = .ok (.iload 12, 2) := by decide +kernel
theorem dX12_there_249 : decode cX12_there 249 = .ok (.invokevirtual 727, 3) := by decide +kernel
theorem dX12_there_252 : decode cX12_there 252 = .ok (.aload_n 0, 1) := by decide +kernel
theorem dX12_there_253 : decode cX12_there 253 = .ok (.iload_n 2, 1) := by decide +kernel
theorem dX12_there_254 : decode cX12_there 254 = .ok (.iload_n 1, 1) := by decide +kernel
theorem dX12_there_255 : decode cX12_there 255 = .ok (.invokevirtual 724, 3) := by decide +kernel
theorem dX12_there_258 : decode cX12_there 258 = .ok (.lreturn, 1) := by decide +kernel
theorem dX12_there_259 : decode cX12_there 259 = .ok (.lconst 0, 1) := by decide +kernel
theorem dX12_there_260 : decode cX12_there 260 = .ok (.lreturn, 1) := by decide +kernel
set_option maxRecDepth 100000 in
set_option maxHeartbeats 4000000 in
theorem c_X12_there (l : Launch) (D : va_G) (t : Nat → ClassId) (h0 : Nat) (L : Nat → Nat) (σ : HS) (hM : MdI h0 L σ) (a1 : Int32) (a2 : Int32) (a3 : Int32) (a4 : Int32) (a5 : Int32) (a6 : Int32) (a7 : Int32) (a8 : Int32) (a9 : Int32) (a10 : Int32) (post : Int64 → HS → Prop) (hw : F_X12_there h0 L a1 a2 a3 a4 a5 a6 a7 a8 a9 a10 post σ) (sz : Nat) : RMl l D t yX12_there cX12_there 14 (some .long) ({ frames := 4, cells := 0, slots := 0, locals := 106 }) h0 L σ sz [.ref h0, .int a1, .int a2, .int a3, .int a4, .int a5, .int a6, .int a7, .int a8, .int a9, .int a10] post := by
  refine h_go (τ := τT) okT (by decide) (Nat.le_of_ble_eq_true rfl) ?_
  intro p e s m below meth c ls A hF hr hlk hAe hH0 hA hl
  unfold hB
  rw [hAe]
  clear hAe
  have hF : FX p m c cX12_there 14 s _ RX12 D t := hF
  have hx := hF.1.1
  have hb := hF.1.2.1
  have hH : RT D t A s.heap h0 L σ s.heap [] := ⟨hH0, hM⟩
  have hl : lv_has ls 14 [(0, .ref h0), (1, .int a1), (2, .int a2), (3, .int a3), (4, .int a4), (5, .int a5), (6, .int a6), (7, .int a7), (8, .int a8), (9, .int a9), (10, .int a10)] := hl
  unfold F_X12_there at hw
  refine lv_aload_n hx hb dX12_there_0 rfl (lv_at hl 0 rfl) ?_
  refine w_getA 10 hF hH fk_X12_44 dX12_there_1 (by decide) rfl ?_
  refine lv_iload_n hx hb dX12_there_4 rfl (lv_at hl 1 rfl) ?_
  refine w_zald 10 80 hF hH dX12_there_5 (by decide) rfl rfl hw (fun z1 hw => ?_)
  refine w_if_eq (tgt := 13) hF dX12_there_6 rfl hw (fun hw => ?_) (fun hw => ?_)
  · refine lv_iload hx hb dX12_there_13 (lv_at hl 5 rfl) ?_
    refine lv_iconst (v := 2) hx hb dX12_there_15 (by decide) ?_
    refine w_icmp_ne (tgt := 23) hF dX12_there_16 rfl hw (fun hw => ?_) (fun hw => ?_)
    · refine lv_aload_n hx hb dX12_there_23 rfl (lv_at hl 0 rfl) ?_
      refine w_getA 3 hF hH fk_X12_21 dX12_there_24 (by decide) rfl ?_
      refine lv_iload_n hx hb dX12_there_27 rfl (lv_at hl 1 rfl) ?_
      refine w_zald 3 160 hF hH dX12_there_28 (by decide) rfl rfl hw (fun z2 hw => ?_)
      obtain ⟨K5, hK6, hw⟩ := jn_open hw
      refine w_join (K := K5) 46 (fun (x3 : Unit) => [(10, .int a10), (9, .int a9), (8, .int a8), (6, .int a6), (4, .int a4), (3, .int a3), (2, .int a2), (1, .int a1), (0, .ref h0)]) (fun (x3 : Unit) => []) hl hH (fun x3 σ4 ls H locs hl hw hH => ?_) (fun jn7 => ?_)
      · have hw := hK6 x3 σ4 hw
        have hl : lv_has ls 14 [(10, .int a10), (9, .int a9), (8, .int a8), (6, .int a6), (4, .int a4), (3, .int a3), (2, .int a2), (1, .int a1), (0, .ref h0)] := hl
        refine lv_aload_n hx hb dX12_there_46 rfl (lv_at hl 8 rfl) ?_
        refine w_getA 3 hF hH fk_X12_21 dX12_there_47 (by decide) rfl ?_
        refine lv_iload_n hx hb dX12_there_50 rfl (lv_at hl 7 rfl) ?_
        refine w_zald 3 160 hF hH dX12_there_51 (by decide) rfl rfl hw (fun z8 hw => ?_)
        obtain ⟨K11, hK12, hw⟩ := jn_open hw
        refine w_join (K := K11) 64 (fun (x9 : Unit) => [(10, .int a10), (9, .int a9), (8, .int a8), (4, .int a4), (3, .int a3), (2, .int a2), (1, .int a1), (0, .ref h0)]) (fun (x9 : Unit) => []) hl hH (fun x9 σ10 ls H locs hl hw hH => ?_) (fun jn13 => ?_)
        · have hw := hK12 x9 σ10 hw
          have hl : lv_has ls 14 [(10, .int a10), (9, .int a9), (8, .int a8), (4, .int a4), (3, .int a3), (2, .int a2), (1, .int a1), (0, .ref h0)] := hl
          refine lv_aload_n hx hb dX12_there_64 rfl (lv_at hl 7 rfl) ?_
          refine w_getA 6 hF hH fk_X12_30 dX12_there_65 (by decide) rfl ?_
          refine lv_iload_n hx hb dX12_there_68 rfl (lv_at hl 6 rfl) ?_
          refine w_iald 6 160 hF hH dX12_there_69 (by decide) rfl rfl hw (fun z14 hw => ?_)
          refine lv_iconst (v := 1) hx hb dX12_there_70 (by decide) ?_
          refine lv_iand hx hb dX12_there_71 ?_
          refine w_nmi hw (fun z15 hw => ?_)
          obtain ⟨K18, hK19, hw⟩ := jn_open hw
          refine w_join (K := K18) 80 (fun (x16 : Int32) => [(10, .int a10), (9, .int a9), (8, .int a8), (4, .int a4), (3, .int a3), (2, .int a2), (1, .int a1), (0, .ref h0)]) (fun (x16 : Int32) => [.int x16]) hl hH (fun x16 σ17 ls H locs hl hw hH => ?_) (fun jn20 => ?_)
          · have hw := hK19 x16 σ17 hw
            have hl : lv_has ls 14 [(10, .int a10), (9, .int a9), (8, .int a8), (4, .int a4), (3, .int a3), (2, .int a2), (1, .int a1), (0, .ref h0)] := hl
            refine lv_istore (lv' := [(11, .int x16), (10, .int a10), (9, .int a9), (8, .int a8), (4, .int a4), (3, .int a3), (2, .int a2), (1, .int a1), (0, .ref h0)]) hx hb dX12_there_80 hl (by decide) rfl (fun ls hl => ?_)
            refine lv_iload hx hb dX12_there_82 (lv_at hl 0 rfl) ?_
            obtain ⟨K23, hK24, hw⟩ := jn_open hw
            refine w_join (K := K23) 103 (fun (x21 : Unit) => [(11, .int x16), (10, .int a10), (9, .int a9), (8, .int a8), (4, .int a4), (3, .int a3), (2, .int a2), (1, .int a1), (0, .ref h0)]) (fun (x21 : Unit) => []) hl hH (fun x21 σ22 ls H locs hl hw hH => ?_) (fun jn25 => ?_)
            · have hw := hK24 x21 σ22 hw
              have hl : lv_has ls 14 [(11, .int x16), (10, .int a10), (9, .int a9), (8, .int a8), (4, .int a4), (3, .int a3), (2, .int a2), (1, .int a1), (0, .ref h0)] := hl
              refine lv_iload hx hb dX12_there_103 (lv_at hl 3 rfl) ?_
              obtain ⟨K28, hK29, hw⟩ := jn_open hw
              refine w_join (K := K28) 123 (fun (x26 : Unit) => [(9, .int a9), (4, .int a4), (3, .int a3), (2, .int a2), (1, .int a1), (0, .ref h0)]) (fun (x26 : Unit) => []) hl hH (fun x26 σ27 ls H locs hl hw hH => ?_) (fun jn30 => ?_)
              · have hw := hK29 x26 σ27 hw
                have hl : lv_has ls 14 [(9, .int a9), (4, .int a4), (3, .int a3), (2, .int a2), (1, .int a1), (0, .ref h0)] := hl
                refine lv_aload_n hx hb dX12_there_123 rfl (lv_at hl 5 rfl) ?_
                refine lv_aload_n hx hb dX12_there_124 rfl (lv_at hl 5 rfl) ?_
                refine w_getA 41 hF hH fk_X12_139 dX12_there_125 (by decide) rfl ?_
                refine w_cVi (As := [.ref (L 41)]) (rest := []) hF hH hA mv_X12_688 (fun sz => c_X12_count l D t h0 L _ hH.2 41 40 (by decide) rfl rfl (by decide) _ hw sz) dX12_there_128 rfl rfl (by decide) rfl hl.1 (Nat.le_of_ble_eq_true rfl) (by decide) rfl (fun z32 σ31 H locs hw hH => ?_)
                refine lv_bipush (v := 40) hx hb dX12_there_131 (by decide) ?_
                refine w_icmp_ne (tgt := 140) hF dX12_there_133 rfl hw (fun hw => ?_) (fun hw => ?_)
                · refine lv_iload hx hb dX12_there_140 (lv_at hl 0 rfl) ?_
                  obtain ⟨K35, hK36, hw⟩ := jn_open hw
                  refine w_join (K := K35) 150 (fun (x33 : Int32) => [(4, .int a4), (3, .int a3), (2, .int a2), (1, .int a1), (0, .ref h0)]) (fun (x33 : Int32) => [.int x33]) hl hH (fun x33 σ34 ls H locs hl hw hH => ?_) (fun jn37 => ?_)
                  · have hw := hK36 x33 σ34 hw
                    have hl : lv_has ls 14 [(4, .int a4), (3, .int a3), (2, .int a2), (1, .int a1), (0, .ref h0)] := hl
                    refine lv_istore (lv' := [(12, .int x33), (4, .int a4), (3, .int a3), (2, .int a2), (1, .int a1), (0, .ref h0)]) hx hb dX12_there_150 hl (by decide) rfl (fun ls hl => ?_)
                    refine lv_aload_n hx hb dX12_there_152 rfl (lv_at hl 5 rfl) ?_
                    refine w_getA 3 hF hH fk_X12_21 dX12_there_153 (by decide) rfl ?_
                    refine lv_iload_n hx hb dX12_there_156 rfl (lv_at hl 4 rfl) ?_
                    refine w_zald 3 160 hF hH dX12_there_157 (by decide) rfl rfl hw (fun z38 hw => ?_)
                    obtain ⟨K41, hK42, hw⟩ := jn_open hw
                    refine w_join (K := K41) 206 (fun (x39 : Unit) => [(12, .int x33), (4, .int a4), (3, .int a3), (2, .int a2), (1, .int a1), (0, .ref h0)]) (fun (x39 : Unit) => []) hl hH (fun x39 σ40 ls H locs hl hw hH => ?_) (fun jn43 => ?_)
                    · have hw := hK42 x39 σ40 hw
                      have hl : lv_has ls 14 [(12, .int x33), (4, .int a4), (3, .int a3), (2, .int a2), (1, .int a1), (0, .ref h0)] := hl
                      refine lv_aload_n hx hb dX12_there_206 rfl (lv_at hl 5 rfl) ?_
                      refine lv_iload_n hx hb dX12_there_207 rfl (lv_at hl 4 rfl) ?_
                      refine lv_iload_n hx hb dX12_there_208 rfl (lv_at hl 2 rfl) ?_
                      refine lv_iload hx hb dX12_there_209 (lv_at hl 1 rfl) ?_
                      refine w_cVi (As := [.int a1, .int a3, .int a4]) (rest := []) hF hH hA mv_X12_730 (fun sz => c_X12_isShared l D t h0 L _ hH.2 a1 a3 a4 _ hw sz) dX12_there_211 rfl rfl (by decide) rfl hl.1 (Nat.le_of_ble_eq_true rfl) (by decide) rfl (fun z45 σ44 H locs hw hH => ?_)
                      refine w_if_ne (tgt := 221) hF dX12_there_214 rfl hw (fun hw => ?_) (fun hw => ?_)
                      · refine lv_aload_n hx hb dX12_there_221 rfl (lv_at hl 5 rfl) ?_
                        refine w_getA 3 hF hH fk_X12_21 dX12_there_222 (by decide) rfl ?_
                        refine lv_iload_n hx hb dX12_there_225 rfl (lv_at hl 4 rfl) ?_
                        refine w_zald 3 160 hF hH dX12_there_226 (by decide) rfl rfl hw (fun z46 hw => ?_)
                        obtain ⟨K49, hK50, hw⟩ := jn_open hw
                        refine w_join (K := K49) 259 (fun (x47 : Unit) => []) (fun (x47 : Unit) => []) hl hH (fun x47 σ48 ls H locs hl hw hH => ?_) (fun jn51 => ?_)
                        · have hw := hK50 x47 σ48 hw
                          have hl : lv_has ls 14 [] := hl
                          refine lv_lconst (v := 0) hx hb dX12_there_259 (by decide) ?_
                          exact w_retl hF hH hr hlk dX12_there_260 hw
                        · skip
                          refine w_if_ne (tgt := 259) hF dX12_there_227 rfl hw (fun hw => ?_) (fun hw => ?_)
                          · have hl : lv_has ls 14 [] := lv_sub hl [] rfl
                            exact jn51 () σ44 ls _ _ hl hw hH
                          · refine lv_aload_n hx hb dX12_there_230 rfl (lv_at hl 5 rfl) ?_
                            refine lv_iload_n hx hb dX12_there_231 rfl (lv_at hl 4 rfl) ?_
                            refine lv_bipush (v := 8) hx hb dX12_there_232 (by decide) ?_
                            refine w_cVi (As := [.int a1, .int 8]) (rest := []) hF hH hA mv_X12_721 (fun sz => c_X12_openWith l D t h0 L _ hH.2 a1 8 _ hw sz) dX12_there_234 rfl rfl (by decide) rfl hl.1 (Nat.le_of_ble_eq_true rfl) (by decide) rfl (fun z53 σ52 H locs hw hH => ?_)
                            refine lv_istore (lv' := [(13, .int z53), (12, .int x33), (4, .int a4), (3, .int a3), (2, .int a2), (1, .int a1), (0, .ref h0)]) hx hb dX12_there_237 hl (by decide) rfl (fun ls hl => ?_)
                            refine lv_iload hx hb dX12_there_239 (lv_at hl 0 rfl) ?_
                            refine w_if_lt (tgt := 259) hF dX12_there_241 rfl hw (fun hw => ?_) (fun hw => ?_)
                            · have hl : lv_has ls 14 [] := lv_sub hl [] rfl
                              exact jn51 () σ52 ls _ _ hl hw hH
                            · refine lv_aload_n hx hb dX12_there_244 rfl (lv_at hl 6 rfl) ?_
                              refine lv_iload hx hb dX12_there_245 (lv_at hl 0 rfl) ?_
                              refine lv_iload hx hb dX12_there_247 (lv_at hl 1 rfl) ?_
                              refine w_cVv (As := [.int z53, .int x33]) (rest := []) hF hH hA mv_X12_727 (fun sz => c_X12_breaks l D t h0 L _ hH.2 z53 x33 _ hw sz) dX12_there_249 rfl rfl (by decide) rfl hl.1 (Nat.le_of_ble_eq_true rfl) (by decide) rfl (fun σ54 H locs hw hH => ?_)
                              refine lv_aload_n hx hb dX12_there_252 rfl (lv_at hl 6 rfl) ?_
                              refine lv_iload_n hx hb dX12_there_253 rfl (lv_at hl 4 rfl) ?_
                              refine lv_iload_n hx hb dX12_there_254 rfl (lv_at hl 5 rfl) ?_
                              refine w_cVl (As := [.int a2, .int a1]) (rest := []) hF hH hA mv_X12_724 (fun sz => c_X12_waitsFor l D t h0 L _ hH.2 a2 a1 _ hw sz) dX12_there_255 rfl rfl (by decide) rfl hl.1 (Nat.le_of_ble_eq_true rfl) (by decide) rfl (fun z57 σ56 H locs hw hH => ?_)
                              exact w_retl hF hH hr hlk dX12_there_258 hw
                      · refine lv_ldc2 (v := 3221225539) hx hb hF.1.2.2.2.1 (hF.1.2.2.2.2 _ (wc_53 31 rfl)) dX12_there_217 ?_
                        exact w_retl hF hH hr hlk dX12_there_220 hw
                    · skip
                      refine w_if_ne (tgt := 206) hF dX12_there_158 rfl hw (fun hw => ?_) (fun hw => ?_)
                      · exact jn43 () σ34 ls _ _ hl hw hH
                      · refine lv_aload_n hx hb dX12_there_161 rfl (lv_at hl 5 rfl) ?_
                        refine lv_iload_n hx hb dX12_there_162 rfl (lv_at hl 4 rfl) ?_
                        refine lv_iconst (v := (-1)) hx hb dX12_there_163 (by decide) ?_
                        refine w_cVi (As := [.int a1, .int (-1)]) (rest := []) hF hH hA mv_X12_721 (fun sz => c_X12_openWith l D t h0 L _ hH.2 a1 (-1) _ hw sz) dX12_there_164 rfl rfl (by decide) rfl hl.1 (Nat.le_of_ble_eq_true rfl) (by decide) rfl (fun z59 σ58 H locs hw hH => ?_)
                        refine w_if_lt (tgt := 177) hF dX12_there_167 rfl hw (fun hw => ?_) (fun hw => ?_)
                        · refine lv_aload_n hx hb dX12_there_177 rfl (lv_at hl 5 rfl) ?_
                          refine lv_iload_n hx hb dX12_there_178 rfl (lv_at hl 4 rfl) ?_
                          refine lv_bipush (v := 9) hx hb dX12_there_179 (by decide) ?_
                          refine w_cVi (As := [.int a1, .int 9]) (rest := []) hF hH hA mv_X12_721 (fun sz => c_X12_openWith l D t h0 L _ hH.2 a1 9 _ hw sz) dX12_there_181 rfl rfl (by decide) rfl hl.1 (Nat.le_of_ble_eq_true rfl) (by decide) rfl (fun z61 σ60 H locs hw hH => ?_)
                          refine lv_istore (lv' := [(13, .int z61), (12, .int x33), (4, .int a4), (3, .int a3), (2, .int a2), (1, .int a1), (0, .ref h0)]) hx hb dX12_there_184 hl (by decide) rfl (fun ls hl => ?_)
                          refine lv_iload hx hb dX12_there_186 (lv_at hl 0 rfl) ?_
                          refine w_if_lt (tgt := 206) hF dX12_there_188 rfl hw (fun hw => ?_) (fun hw => ?_)
                          · have hl : lv_has ls 14 [(12, .int x33), (4, .int a4), (3, .int a3), (2, .int a2), (1, .int a1), (0, .ref h0)] := lv_sub hl [1, 2, 3, 4, 5, 6] rfl
                            exact jn43 () σ60 ls _ _ hl hw hH
                          · refine lv_aload_n hx hb dX12_there_191 rfl (lv_at hl 6 rfl) ?_
                            refine lv_iload hx hb dX12_there_192 (lv_at hl 0 rfl) ?_
                            refine lv_iload hx hb dX12_there_194 (lv_at hl 1 rfl) ?_
                            refine w_cVv (As := [.int z61, .int x33]) (rest := []) hF hH hA mv_X12_727 (fun sz => c_X12_breaks l D t h0 L _ hH.2 z61 x33 _ hw sz) dX12_there_196 rfl rfl (by decide) rfl hl.1 (Nat.le_of_ble_eq_true rfl) (by decide) rfl (fun σ62 H locs hw hH => ?_)
                            refine lv_aload_n hx hb dX12_there_199 rfl (lv_at hl 6 rfl) ?_
                            refine lv_iload_n hx hb dX12_there_200 rfl (lv_at hl 4 rfl) ?_
                            refine lv_iload_n hx hb dX12_there_201 rfl (lv_at hl 5 rfl) ?_
                            refine w_cVl (As := [.int a2, .int a1]) (rest := []) hF hH hA mv_X12_724 (fun sz => c_X12_waitsFor l D t h0 L _ hH.2 a2 a1 _ hw sz) dX12_there_202 rfl rfl (by decide) rfl hl.1 (Nat.le_of_ble_eq_true rfl) (by decide) rfl (fun z65 σ64 H locs hw hH => ?_)
                            exact w_retl hF hH hr hlk dX12_there_205 hw
                        · refine lv_aload_n hx hb dX12_there_170 rfl (lv_at hl 5 rfl) ?_
                          refine lv_iload_n hx hb dX12_there_171 rfl (lv_at hl 3 rfl) ?_
                          refine lv_iload_n hx hb dX12_there_172 rfl (lv_at hl 4 rfl) ?_
                          refine w_cVl (As := [.int a2, .int a1]) (rest := []) hF hH hA mv_X12_724 (fun sz => c_X12_waitsFor l D t h0 L _ hH.2 a2 a1 _ hw sz) dX12_there_173 rfl rfl (by decide) rfl hl.1 (Nat.le_of_ble_eq_true rfl) (by decide) rfl (fun z67 σ66 H locs hw hH => ?_)
                          exact w_retl hF hH hr hlk dX12_there_176 hw
                  · skip
                    refine w_if_eq (tgt := 149) hF dX12_there_142 rfl hw (fun hw => ?_) (fun hw => ?_)
                    · refine lv_iconst (v := 1) hx hb dX12_there_149 (by decide) ?_
                      have hl : lv_has ls 14 [(4, .int a4), (3, .int a3), (2, .int a2), (1, .int a1), (0, .ref h0)] := lv_sub hl [1, 2, 3, 4, 5] rfl
                      exact jn37 1 σ31 ls _ _ hl hw hH
                    · refine lv_iconst (v := 0) hx hb dX12_there_145 (by decide) ?_
                      refine lv_goto (tgt := 150) hx hb dX12_there_146 rfl ?_
                      have hl : lv_has ls 14 [(4, .int a4), (3, .int a3), (2, .int a2), (1, .int a1), (0, .ref h0)] := lv_sub hl [1, 2, 3, 4, 5] rfl
                      exact jn37 0 σ31 ls _ _ hl hw hH
                · refine lv_ldc2 (v := 3221225626) hx hb hF.1.2.2.2.1 (hF.1.2.2.2.2 _ (wc_53 8 rfl)) dX12_there_136 ?_
                  exact w_retl hF hH hr hlk dX12_there_139 hw
              · skip
                refine w_if_eq (tgt := 123) hF dX12_there_105 rfl hw (fun hw => ?_) (fun hw => ?_)
                · have hl : lv_has ls 14 [(9, .int a9), (4, .int a4), (3, .int a3), (2, .int a2), (1, .int a1), (0, .ref h0)] := lv_sub hl [2, 4, 5, 6, 7, 8] rfl
                  exact jn30 () σ22 ls _ _ hl hw hH
                · refine lv_iload hx hb dX12_there_108 (lv_at hl 0 rfl) ?_
                  obtain ⟨K70, hK71, hw⟩ := jn_open hw
                  refine w_join (K := K70) 119 (fun (x68 : Unit) => []) (fun (x68 : Unit) => []) hl hH (fun x68 σ69 ls H locs hl hw hH => ?_) (fun jn72 => ?_)
                  · have hw := hK71 x68 σ69 hw
                    have hl : lv_has ls 14 [] := hl
                    refine lv_ldc2 (v := 3221225761) hx hb hF.1.2.2.2.1 (hF.1.2.2.2.2 _ (wc_54 35 rfl)) dX12_there_119 ?_
                    exact w_retl hF hH hr hlk dX12_there_122 hw
                  · skip
                    refine w_if_ne (tgt := 119) hF dX12_there_110 rfl hw (fun hw => ?_) (fun hw => ?_)
                    · have hl : lv_has ls 14 [] := lv_sub hl [] rfl
                      exact jn72 () σ22 ls _ _ hl hw hH
                    · refine lv_iload_n hx hb dX12_there_113 rfl (lv_at hl 7 rfl) ?_
                      refine lv_iload hx hb dX12_there_114 (lv_at hl 1 rfl) ?_
                      refine w_icmp_ne (tgt := 123) hF dX12_there_116 rfl hw (fun hw => ?_) (fun hw => ?_)
                      · have hl : lv_has ls 14 [(9, .int a9), (4, .int a4), (3, .int a3), (2, .int a2), (1, .int a1), (0, .ref h0)] := lv_sub hl [2, 4, 5, 6, 7, 8] rfl
                        exact jn30 () σ22 ls _ _ hl hw hH
                      · have hl : lv_has ls 14 [] := lv_sub hl [] rfl
                        exact jn72 () σ22 ls _ _ hl hw hH
            · skip
              refine w_if_eq (tgt := 103) hF dX12_there_84 rfl hw (fun hw => ?_) (fun hw => ?_)
              · exact jn25 () σ17 ls _ _ hl hw hH
              · refine lv_iload_n hx hb dX12_there_87 rfl (lv_at hl 5 rfl) ?_
                refine lv_bipush (v := 6) hx hb dX12_there_88 (by decide) ?_
                refine lv_iand hx hb dX12_there_90 ?_
                refine w_nmi hw (fun z73 hw => ?_)
                obtain ⟨K76, hK77, hw⟩ := jn_open hw
                refine w_join (K := K76) 99 (fun (x74 : Unit) => []) (fun (x74 : Unit) => []) hl hH (fun x74 σ75 ls H locs hl hw hH => ?_) (fun jn78 => ?_)
                · have hw := hK77 x74 σ75 hw
                  have hl : lv_has ls 14 [] := hl
                  refine lv_ldc2 (v := 3221225506) hx hb hF.1.2.2.2.1 (hF.1.2.2.2.2 _ (wc_53 35 rfl)) dX12_there_99 ?_
                  exact w_retl hF hH hr hlk dX12_there_102 hw
                · skip
                  refine w_if_ne (tgt := 99) hF dX12_there_91 rfl hw (fun hw => ?_) (fun hw => ?_)
                  · have hl : lv_has ls 14 [] := lv_sub hl [] rfl
                    exact jn78 () σ17 ls _ _ hl hw hH
                  · refine lv_iload hx hb dX12_there_94 (lv_at hl 2 rfl) ?_
                    refine w_if_eq (tgt := 103) hF dX12_there_96 rfl hw (fun hw => ?_) (fun hw => ?_)
                    · exact jn25 () σ17 ls _ _ hl hw hH
                    · have hl : lv_has ls 14 [] := lv_sub hl [] rfl
                      exact jn78 () σ17 ls _ _ hl hw hH
          · skip
            refine w_if_eq (tgt := 79) hF dX12_there_72 rfl hw (fun hw => ?_) (fun hw => ?_)
            · refine lv_iconst (v := 0) hx hb dX12_there_79 (by decide) ?_
              exact jn20 0 σ10 ls _ _ hl hw hH
            · refine lv_iconst (v := 1) hx hb dX12_there_75 (by decide) ?_
              refine lv_goto (tgt := 80) hx hb dX12_there_76 rfl ?_
              exact jn20 1 σ10 ls _ _ hl hw hH
        · skip
          refine w_if_ne (tgt := 64) hF dX12_there_52 rfl hw (fun hw => ?_) (fun hw => ?_)
          · have hl : lv_has ls 14 [(10, .int a10), (9, .int a9), (8, .int a8), (4, .int a4), (3, .int a3), (2, .int a2), (1, .int a1), (0, .ref h0)] := lv_sub hl [0, 1, 2, 4, 5, 6, 7, 8] rfl
            exact jn13 () σ4 ls _ _ hl hw hH
          · refine lv_iload hx hb dX12_there_55 (lv_at hl 3 rfl) ?_
            refine w_if_eq (tgt := 64) hF dX12_there_57 rfl hw (fun hw => ?_) (fun hw => ?_)
            · have hl : lv_has ls 14 [(10, .int a10), (9, .int a9), (8, .int a8), (4, .int a4), (3, .int a3), (2, .int a2), (1, .int a1), (0, .ref h0)] := lv_sub hl [0, 1, 2, 4, 5, 6, 7, 8] rfl
              exact jn13 () σ4 ls _ _ hl hw hH
            · refine lv_ldc2 (v := 3221225731) hx hb hF.1.2.2.2.1 (hF.1.2.2.2.2 _ (wc_54 34 rfl)) dX12_there_60 ?_
              exact w_retl hF hH hr hlk dX12_there_63 hw
      · skip
        refine w_if_eq (tgt := 46) hF dX12_there_29 rfl hw (fun hw => ?_) (fun hw => ?_)
        · have hl : lv_has ls 14 [(10, .int a10), (9, .int a9), (8, .int a8), (6, .int a6), (4, .int a4), (3, .int a3), (2, .int a2), (1, .int a1), (0, .ref h0)] := lv_sub hl [10, 9, 8, 6, 4, 3, 2, 1, 0] rfl
          exact jn7 () σ ls _ _ hl hw hH
        · refine lv_iload hx hb dX12_there_32 (lv_at hl 7 rfl) ?_
          obtain ⟨K81, hK82, hw⟩ := jn_open hw
          refine w_join (K := K81) 42 (fun (x79 : Unit) => []) (fun (x79 : Unit) => []) hl hH (fun x79 σ80 ls H locs hl hw hH => ?_) (fun jn83 => ?_)
          · have hw := hK82 x79 σ80 hw
            have hl : lv_has ls 14 [] := hl
            refine lv_ldc2 (v := 3221225658) hx hb hF.1.2.2.2.1 (hF.1.2.2.2.2 _ (wc_54 33 rfl)) dX12_there_42 ?_
            exact w_retl hF hH hr hlk dX12_there_45 hw
          · skip
            refine w_if_ne (tgt := 42) hF dX12_there_34 rfl hw (fun hw => ?_) (fun hw => ?_)
            · have hl : lv_has ls 14 [] := lv_sub hl [] rfl
              exact jn83 () σ ls _ _ hl hw hH
            · refine lv_iload hx hb dX12_there_37 (lv_at hl 9 rfl) ?_
              refine w_if_eq (tgt := 46) hF dX12_there_39 rfl hw (fun hw => ?_) (fun hw => ?_)
              · have hl : lv_has ls 14 [(10, .int a10), (9, .int a9), (8, .int a8), (6, .int a6), (4, .int a4), (3, .int a3), (2, .int a2), (1, .int a1), (0, .ref h0)] := lv_sub hl [10, 9, 8, 6, 4, 3, 2, 1, 0] rfl
                exact jn7 () σ ls _ _ hl hw hH
              · have hl : lv_has ls 14 [] := lv_sub hl [] rfl
                exact jn83 () σ ls _ _ hl hw hH
    · refine lv_ldc2 (v := 3221225525) hx hb hF.1.2.2.2.1 (hF.1.2.2.2.2 _ (wc_54 32 rfl)) dX12_there_19 ?_
      exact w_retl hF hH hr hlk dX12_there_22 hw
  · refine lv_ldc2 (v := 3221225558) hx hb hF.1.2.2.2.1 (hF.1.2.2.2.2 _ (wc_54 31 rfl)) dX12_there_9 ?_
    exact w_retl hF hH hr hlk dX12_there_12 hw
def F_X12_breakSecond (h0 : Nat) (L : Nat → Nat) (a1 : Int32) (a2 : Int32) (post : HS → Prop) (σ : HS) : Prop := lw (fun (K3 : (Int32 × Int64) → HS → Prop) (x1 : Int32 × Int64) (σ2 : HS) => ((x1.1.toInt = 0) → post σ2) ∧ ((¬ x1.1.toInt = 0) → lw (fun (K7 : (Int32 × Int32) → HS → Prop) (x5 : Int32 × Int32) (σ6 : HS) => (((40 : Int32).toInt ≤ x5.1.toInt) → jn (fun (K11 : Int32 → HS → Prop) => ((x5.2.toInt < 0) → K11 0 σ6) ∧ ((0 ≤ x5.2.toInt) → K11 1 σ6)) (fun (x9 : Int32) (σ10 : HS) => jn (fun (K16 : Int64 → HS → Prop) => ((x9.toInt = 0) → K16 x1.2 σ10) ∧ ((¬ x9.toInt = 0) → (0 ≤ x5.2.toInt ∧ x5.2.toInt < 40) ∧ ∀ z19 : Int64, z19 = sJ σ10 (L 41) x5.2.toInt.toNat → ((x5.2.toInt = a2.toInt) → K16 z19 σ10) ∧ ((¬ x5.2.toInt = a2.toInt) → (0 ≤ x5.2.toInt ∧ x5.2.toInt < 40) ∧ ∀ z20 : Int32, z20 = sI σ10 (L 46) x5.2.toInt.toNat → ((¬ z20.toInt = (1 : Int32).toInt) → K16 z19 σ10) ∧ ((z20.toInt = (1 : Int32).toInt) → (0 ≤ x5.2.toInt ∧ x5.2.toInt < 40) ∧ ∀ σ21 : HS, σ21 = h_uI σ10 (L 46) x5.2.toInt.toNat 0 → F_X12_tellBreak h0 L x5.2 0 (fun (σ22 : HS) => K16 z19 σ22) σ21)))) (fun (x14 : Int64) (σ15 : HS) => K3 (x9, x14) σ15))) ∧ ((x5.1.toInt < (40 : Int32).toInt) → (0 ≤ x5.1.toInt ∧ x5.1.toInt < 40) ∧ ∀ z24 : Int64, z24 = sJ σ6 (L 41) x5.1.toInt.toNat → jn (fun (K27 : Int32 → HS → Prop) => jn (fun (K50 : Unit → HS → Prop) => ((z24.toInt ≤ x1.2.toInt) → K50 () σ6) ∧ ((x1.2.toInt < z24.toInt) → (0 ≤ x5.1.toInt ∧ x5.1.toInt < 40) ∧ ∀ z53 : Int32, z53 = sI σ6 (L 43) x5.1.toInt.toNat → ((¬ z53.toInt = a1.toInt) → K50 () σ6) ∧ ((z53.toInt = a1.toInt) → K27 1 σ6))) (fun (x48 : Unit) (σ49 : HS) => K27 0 σ49)) (fun (x25 : Int32) (σ26 : HS) => jn (fun (K32 : Int32 → HS → Prop) => jn (fun (K38 : Unit → HS → Prop) => ((x25.toInt = 0) → K38 () σ26) ∧ ((¬ x25.toInt = 0) → jn (fun (K43 : Unit → HS → Prop) => ((x5.2.toInt < 0) → K43 () σ26) ∧ ((0 ≤ x5.2.toInt) → (0 ≤ x5.1.toInt ∧ x5.1.toInt < 40) ∧ ∀ z46 : Int64, z46 = sJ σ26 (L 41) x5.1.toInt.toNat → (0 ≤ x5.2.toInt ∧ x5.2.toInt < 40) ∧ ∀ z47 : Int64, z47 = sJ σ26 (L 41) x5.2.toInt.toNat → ((z47.toInt ≤ z46.toInt) → K38 () σ26) ∧ ((z46.toInt < z47.toInt) → K43 () σ26))) (fun (x41 : Unit) (σ42 : HS) => K32 x5.1 σ42))) (fun (x36 : Unit) (σ37 : HS) => K32 x5.2 σ37)) (fun (x30 : Int32) (σ31 : HS) => ∀ z35 : Int32, z35 = x5.1 + 1 → K7 (z35, x30) σ31)))) (0, (-1)) σ2)) (1, 0) σ
theorem dX12_breakSecond_0 : decode cX12_breakSecond 0 = .ok (.lconst 0, 1) := by decide +kernel
theorem dX12_breakSecond_1 : decode cX12_breakSecond 1 = .ok (.lstore_n 3, 1) := by decide +kernel
theorem dX12_breakSecond_2 : decode cX12_breakSecond 2 = .ok (.iconst 1, 1) := by decide +kernel
theorem dX12_breakSecond_3 : decode cX12_breakSecond 3 = .ok (.istore 5, 2) := by decide +kernel
theorem dX12_breakSecond_5 : decode cX12_breakSecond 5 = .ok (.iload 5, 2) := by decide +kernel
theorem dX12_breakSecond_7 : decode cX12_breakSecond 7 = .ok (.ifCond .eq 149, 3) := by decide +kernel
theorem dX12_breakSecond_10 : decode cX12_breakSecond 10 = .ok (.iconst (-1), 1) := by decide +kernel
theorem dX12_breakSecond_11 : decode cX12_breakSecond 11 = .ok (.istore 6, 2) := by decide +kernel
theorem dX12_breakSecond_13 : decode cX12_breakSecond 13 = .ok (.iconst 0, 1) := by decide +kernel
theorem dX12_breakSecond_14 : decode cX12_breakSecond 14 = .ok (.istore 7, 2) := by decide +kernel
theorem dX12_breakSecond_16 : decode cX12_breakSecond 16 = .ok (.iload 7, 2) := by decide +kernel
theorem dX12_breakSecond_18 : decode cX12_breakSecond 18 = .ok (.bipush 40, 2) := by decide +kernel
theorem dX12_breakSecond_20 : decode cX12_breakSecond 20 = .ok (.if_icmp .ge 76, 3) := by decide +kernel
theorem dX12_breakSecond_23 : decode cX12_breakSecond 23 = .ok (.aload_n 0, 1) := by decide +kernel
theorem dX12_breakSecond_24 : decode cX12_breakSecond 24 = .ok (.getfield 139, 3) := by decide +kernel
theorem dX12_breakSecond_27 : decode cX12_breakSecond 27 = .ok (.iload 7, 2) := by decide +kernel
theorem dX12_breakSecond_29 : decode cX12_breakSecond 29 = .ok (.laload, 1) := by decide +kernel
theorem dX12_breakSecond_30 : decode cX12_breakSecond 30 = .ok (.lload_n 3, 1) := by decide +kernel
theorem dX12_breakSecond_31 : decode cX12_breakSecond 31 = .ok (.lcmp, 1) := by decide +kernel
theorem dX12_breakSecond_32 : decode cX12_breakSecond 32 = .ok (.ifCond .le 18, 3) := by decide +kernel
theorem dX12_breakSecond_35 : decode cX12_breakSecond 35 = .ok (.aload_n 0, 1) := by decide +kernel
theorem dX12_breakSecond_36 : decode cX12_breakSecond 36 = .ok (.getfield 145, 3) := by decide +kernel
theorem dX12_breakSecond_39 : decode cX12_breakSecond 39 = .ok (.iload 7, 2) := by decide +kernel
theorem dX12_breakSecond_41 : decode cX12_breakSecond 41 = .ok (.iaload, 1) := by decide +kernel
theorem dX12_breakSecond_42 : decode cX12_breakSecond 42 = .ok (.iload_n 1, 1) := by decide +kernel
theorem dX12_breakSecond_43 : decode cX12_breakSecond 43 = .ok (.if_icmp .ne 7, 3) := by decide +kernel
theorem dX12_breakSecond_46 : decode cX12_breakSecond 46 = .ok (.iconst 1, 1) := by decide +kernel
theorem dX12_breakSecond_47 : decode cX12_breakSecond 47 = .ok (.goto 4, 3) := by decide +kernel
theorem dX12_breakSecond_50 : decode cX12_breakSecond 50 = .ok (.iconst 0, 1) := by decide +kernel
theorem dX12_breakSecond_51 : decode cX12_breakSecond 51 = .ok (.istore 8, 2) := by decide +kernel
theorem dX12_breakSecond_53 : decode cX12_breakSecond 53 = .ok (.iload 8, 2) := by decide +kernel
theorem dX12_breakSecond_55 : decode cX12_breakSecond 55 = .ok (.ifCond .eq 31, 3) := by decide +kernel
theorem dX12_breakSecond_58 : decode cX12_breakSecond 58 = .ok (.iload 6, 2) := by decide +kernel
theorem dX12_breakSecond_60 : decode cX12_breakSecond 60 = .ok (.ifCond .lt 21, 3) := by decide +kernel
theorem dX12_breakSecond_63 : decode cX12_breakSecond 63 = .ok (.aload_n 0, 1) := by decide +kernel
theorem dX12_breakSecond_64 : decode cX12_breakSecond 64 = .ok (.getfield 139, 3) := by decide +kernel
theorem dX12_breakSecond_67 : decode cX12_breakSecond 67 = .ok (.iload 7, 2) := by decide +kernel
theorem dX12_breakSecond_69 : decode cX12_breakSecond 69 = .ok (.laload, 1) := by decide +kernel
theorem dX12_breakSecond_70 : decode cX12_breakSecond 70 = .ok (.aload_n 0, 1) := by decide +kernel
theorem dX12_breakSecond_71 : decode cX12_breakSecond 71 = .ok (.getfield 139, 3) := by decide +kernel
theorem dX12_breakSecond_74 : decode cX12_breakSecond 74 = .ok (.iload 6, 2) := by decide +kernel
theorem dX12_breakSecond_76 : decode cX12_breakSecond 76 = .ok (.laload, 1) := by decide +kernel
theorem dX12_breakSecond_77 : decode cX12_breakSecond 77 = .ok (.lcmp, 1) := by decide +kernel
theorem dX12_breakSecond_78 : decode cX12_breakSecond 78 = .ok (.ifCond .ge 8, 3) := by decide +kernel
theorem dX12_breakSecond_81 : decode cX12_breakSecond 81 = .ok (.iload 7, 2) := by decide +kernel
theorem dX12_breakSecond_83 : decode cX12_breakSecond 83 = .ok (.goto 5, 3) := by decide +kernel
theorem dX12_breakSecond_86 : decode cX12_breakSecond 86 = .ok (.iload 6, 2) := by decide +kernel
theorem dX12_breakSecond_88 : decode cX12_breakSecond 88 = .ok (.istore 6, 2) := by decide +kernel
theorem dX12_breakSecond_90 : decode cX12_breakSecond 90 = .ok (.iinc 7 1, 3) := by decide +kernel
theorem dX12_breakSecond_93 : decode cX12_breakSecond 93 = .ok (.goto (-77), 3) := by decide +kernel
theorem dX12_breakSecond_96 : decode cX12_breakSecond 96 = .ok (.iload 6, 2) := by decide +kernel
theorem dX12_breakSecond_98 : decode cX12_breakSecond 98 = .ok (.ifCond .lt 7, 3) := by decide +kernel
theorem dX12_breakSecond_101 : decode cX12_breakSecond 101 = .ok (.iconst 1, 1) := by decide +kernel
theorem dX12_breakSecond_102 : decode cX12_breakSecond 102 = .ok (.goto 4, 3) := by decide +kernel
theorem dX12_breakSecond_105 : decode cX12_breakSecond 105 = .ok (.iconst 0, 1) := by decide +kernel
theorem dX12_breakSecond_106 : decode cX12_breakSecond 106 = .ok (.istore 5, 2) := by decide +kernel
theorem dX12_breakSecond_108 : decode cX12_breakSecond 108 = .ok (.iload 5, 2) := by decide +kernel
theorem dX12_breakSecond_110 : decode cX12_breakSecond 110 = .ok (.ifCond .eq 43, 3) := by decide +kernel
theorem dX12_breakSecond_113 : decode cX12_breakSecond 113 = .ok (.aload_n 0, 1) := by decide +kernel
theorem dX12_breakSecond_114 : decode cX12_breakSecond 114 = .ok (.getfield 139, 3) := by decide +kernel
theorem dX12_breakSecond_117 : decode cX12_breakSecond 117 = .ok (.iload 6, 2) := by decide +kernel
theorem dX12_breakSecond_119 : decode cX12_breakSecond 119 = .ok (.laload, 1) := by decide +kernel
theorem dX12_breakSecond_120 : decode cX12_breakSecond 120 = .ok (.lstore_n 3, 1) := by decide +kernel
theorem dX12_breakSecond_121 : decode cX12_breakSecond 121 = .ok (.iload 6, 2) := by decide +kernel
theorem dX12_breakSecond_123 : decode cX12_breakSecond 123 = .ok (.iload_n 2, 1) := by decide +kernel
theorem dX12_breakSecond_124 : decode cX12_breakSecond 124 = .ok (.if_icmp .eq 29, 3) := by decide +kernel
theorem dX12_breakSecond_127 : decode cX12_breakSecond 127 = .ok (.aload_n 0, 1) := by decide +kernel
theorem dX12_breakSecond_128 : decode cX12_breakSecond 128 = .ok (.getfield 154, 3) := by decide +kernel
theorem dX12_breakSecond_131 : decode cX12_breakSecond 131 = .ok (.iload 6, 2) := by decide +kernel
theorem dX12_breakSecond_133 : decode cX12_breakSecond 133 = .ok (.iaload, 1) := by decide +kernel
theorem dX12_breakSecond_134 : decode cX12_breakSecond 134 = .ok (.iconst 1, 1) := by decide +kernel
theorem dX12_breakSecond_135 : decode cX12_breakSecond 135 = .ok (.if_icmp .ne 18, 3) := by decide +kernel
theorem dX12_breakSecond_138 : decode cX12_breakSecond 138 = .ok (.aload_n 0, 1) := by decide +kernel
theorem dX12_breakSecond_139 : decode cX12_breakSecond 139 = .ok (.getfield 154, 3) := by decide +kernel
theorem dX12_breakSecond_142 : decode cX12_breakSecond 142 = .ok (.iload 6, 2) := by decide +kernel
theorem dX12_breakSecond_144 : decode cX12_breakSecond 144 = .ok (.iconst 0, 1) := by decide +kernel
theorem dX12_breakSecond_145 : decode cX12_breakSecond 145 = .ok (.iastore, 1) := by decide +kernel
theorem dX12_breakSecond_146 : decode cX12_breakSecond 146 = .ok (.aload_n 0, 1) := by decide +kernel
theorem dX12_breakSecond_147 : decode cX12_breakSecond 147 = .ok (.iload 6, 2) := by decide +kernel
theorem dX12_breakSecond_149 : decode cX12_breakSecond 149 = .ok (.iconst 0, 1) := by decide +kernel
theorem dX12_breakSecond_150 : decode cX12_breakSecond 150 = .ok (.invokevirtual 581, 3) := by decide +kernel
theorem dX12_breakSecond_153 : decode cX12_breakSecond 153 = .ok (.goto (-148), 3) := by decide +kernel
theorem dX12_breakSecond_156 : decode cX12_breakSecond 156 = .ok (.return_, 1) := by decide +kernel
set_option maxRecDepth 100000 in
set_option maxHeartbeats 4000000 in
theorem c_X12_breakSecond (l : Launch) (D : va_G) (t : Nat → ClassId) (h0 : Nat) (L : Nat → Nat) (σ : HS) (hM : MdI h0 L σ) (a1 : Int32) (a2 : Int32) (post : HS → Prop) (hw : F_X12_breakSecond h0 L a1 a2 post σ) (sz : Nat) : RMv l D t yX12_breakSecond cX12_breakSecond 9 ({ frames := 3, cells := 0, slots := 0, locals := 84 }) h0 L σ sz [.ref h0, .int a1, .int a2] post := by
  refine h_go (τ := τT) okT (by decide) (Nat.le_of_ble_eq_true rfl) ?_
  intro p e s m below meth c ls A hF hr hlk hAe hH0 hA hl
  unfold hB
  rw [hAe]
  clear hAe
  have hF : FX p m c cX12_breakSecond 9 s _ RX12 D t := hF
  have hx := hF.1.1
  have hb := hF.1.2.1
  have hH : RT D t A s.heap h0 L σ s.heap [] := ⟨hH0, hM⟩
  have hl : lv_has ls 9 [(0, .ref h0), (1, .int a1), (2, .int a2)] := hl
  unfold F_X12_breakSecond at hw
  refine lv_lconst (v := 0) hx hb dX12_breakSecond_0 (by decide) ?_
  refine lv_lstore_n (lv' := [(3, .long 0), (0, .ref h0), (1, .int a1), (2, .int a2)]) hx hb dX12_breakSecond_1 rfl hl (by decide) rfl (fun ls hl => ?_)
  refine lv_iconst (v := 1) hx hb dX12_breakSecond_2 (by decide) ?_
  refine lv_istore (lv' := [(5, .int 1), (3, .long 0), (0, .ref h0), (1, .int a1), (2, .int a2)]) hx hb dX12_breakSecond_3 hl (by decide) rfl (fun ls hl => ?_)
  have hl : lv_has ls 9 [(5, .int 1), (3, .long 0), (2, .int a2), (1, .int a1), (0, .ref h0)] := lv_sub hl [0, 1, 4, 3, 2] rfl
  refine w_loop (β := Int32 × Int64) (fun x1 => [(5, .int x1.1), (3, .long x1.2), (2, .int a2), (1, .int a1), (0, .ref h0)]) (1, 0) hl hw hH (fun K3 x1 σ2 ls H locs hl hw hH ih4 => ?_)
  have hl : lv_has ls 9 [(5, .int x1.1), (3, .long x1.2), (2, .int a2), (1, .int a1), (0, .ref h0)] := hl
  refine lv_iload hx hb dX12_breakSecond_5 (lv_at hl 0 rfl) ?_
  refine w_if_eq (tgt := 156) hF dX12_breakSecond_7 rfl hw (fun hw => ?_) (fun hw => ?_)
  · exact w_retv hF hH hr hlk dX12_breakSecond_156 hw
  · refine lv_iconst (v := (-1)) hx hb dX12_breakSecond_10 (by decide) ?_
    refine lv_istore (lv' := [(6, .int (-1)), (5, .int x1.1), (3, .long x1.2), (2, .int a2), (1, .int a1), (0, .ref h0)]) hx hb dX12_breakSecond_11 hl (by decide) rfl (fun ls hl => ?_)
    refine lv_iconst (v := 0) hx hb dX12_breakSecond_13 (by decide) ?_
    refine lv_istore (lv' := [(7, .int 0), (6, .int (-1)), (5, .int x1.1), (3, .long x1.2), (2, .int a2), (1, .int a1), (0, .ref h0)]) hx hb dX12_breakSecond_14 hl (by decide) rfl (fun ls hl => ?_)
    have hl : lv_has ls 9 [(7, .int 0), (6, .int (-1)), (3, .long x1.2), (2, .int a2), (1, .int a1), (0, .ref h0)] := lv_sub hl [0, 1, 3, 4, 5, 6] rfl
    refine w_loop (β := Int32 × Int32) (fun x5 => [(7, .int x5.1), (6, .int x5.2), (3, .long x1.2), (2, .int a2), (1, .int a1), (0, .ref h0)]) (0, (-1)) hl hw hH (fun K7 x5 σ6 ls H locs hl hw hH ih8 => ?_)
    have hl : lv_has ls 9 [(7, .int x5.1), (6, .int x5.2), (3, .long x1.2), (2, .int a2), (1, .int a1), (0, .ref h0)] := hl
    refine lv_iload hx hb dX12_breakSecond_16 (lv_at hl 0 rfl) ?_
    refine lv_bipush (v := 40) hx hb dX12_breakSecond_18 (by decide) ?_
    refine w_icmp_ge (tgt := 96) hF dX12_breakSecond_20 rfl hw (fun hw => ?_) (fun hw => ?_)
    · refine lv_iload hx hb dX12_breakSecond_96 (lv_at hl 1 rfl) ?_
      obtain ⟨K11, hK12, hw⟩ := jn_open hw
      refine w_join (K := K11) 106 (fun (x9 : Int32) => [(6, .int x5.2), (3, .long x1.2), (2, .int a2), (1, .int a1), (0, .ref h0)]) (fun (x9 : Int32) => [.int x9]) hl hH (fun x9 σ10 ls H locs hl hw hH => ?_) (fun jn13 => ?_)
      · have hw := hK12 x9 σ10 hw
        have hl : lv_has ls 9 [(6, .int x5.2), (3, .long x1.2), (2, .int a2), (1, .int a1), (0, .ref h0)] := hl
        refine lv_istore (lv' := [(5, .int x9), (6, .int x5.2), (3, .long x1.2), (2, .int a2), (1, .int a1), (0, .ref h0)]) hx hb dX12_breakSecond_106 hl (by decide) rfl (fun ls hl => ?_)
        refine lv_iload hx hb dX12_breakSecond_108 (lv_at hl 0 rfl) ?_
        obtain ⟨K16, hK17, hw⟩ := jn_open hw
        refine w_join (K := K16) 153 (fun (x14 : Int64) => [(5, .int x9), (3, .long x14), (2, .int a2), (1, .int a1), (0, .ref h0)]) (fun (x14 : Int64) => []) hl hH (fun x14 σ15 ls H locs hl hw hH => ?_) (fun jn18 => ?_)
        · have hw := hK17 x14 σ15 hw
          have hl : lv_has ls 9 [(5, .int x9), (3, .long x14), (2, .int a2), (1, .int a1), (0, .ref h0)] := hl
          refine lv_goto (tgt := 5) hx hb dX12_breakSecond_153 rfl ?_
          exact ih4 (x9, x14) σ15 ls _ _ hl hw hH
        · skip
          refine w_if_eq (tgt := 153) hF dX12_breakSecond_110 rfl hw (fun hw => ?_) (fun hw => ?_)
          · have hl : lv_has ls 9 [(5, .int x9), (3, .long x1.2), (2, .int a2), (1, .int a1), (0, .ref h0)] := lv_sub hl [0, 2, 3, 4, 5] rfl
            exact jn18 x1.2 σ10 ls _ _ hl hw hH
          · refine lv_aload_n hx hb dX12_breakSecond_113 rfl (lv_at hl 5 rfl) ?_
            refine w_getA 41 hF hH fk_X12_139 dX12_breakSecond_114 (by decide) rfl ?_
            refine lv_iload hx hb dX12_breakSecond_117 (lv_at hl 1 rfl) ?_
            refine w_lald 41 40 hF hH dX12_breakSecond_119 (by decide) rfl rfl hw (fun z19 hw => ?_)
            refine lv_lstore_n (lv' := [(3, .long z19), (5, .int x9), (6, .int x5.2), (2, .int a2), (1, .int a1), (0, .ref h0)]) hx hb dX12_breakSecond_120 rfl hl (by decide) rfl (fun ls hl => ?_)
            refine lv_iload hx hb dX12_breakSecond_121 (lv_at hl 2 rfl) ?_
            refine lv_iload_n hx hb dX12_breakSecond_123 rfl (lv_at hl 3 rfl) ?_
            refine w_icmp_eq (tgt := 153) hF dX12_breakSecond_124 rfl hw (fun hw => ?_) (fun hw => ?_)
            · have hl : lv_has ls 9 [(5, .int x9), (3, .long z19), (2, .int a2), (1, .int a1), (0, .ref h0)] := lv_sub hl [1, 0, 3, 4, 5] rfl
              exact jn18 z19 σ10 ls _ _ hl hw hH
            · refine lv_aload_n hx hb dX12_breakSecond_127 rfl (lv_at hl 5 rfl) ?_
              refine w_getA 46 hF hH fk_X12_154 dX12_breakSecond_128 (by decide) rfl ?_
              refine lv_iload hx hb dX12_breakSecond_131 (lv_at hl 2 rfl) ?_
              refine w_iald 46 40 hF hH dX12_breakSecond_133 (by decide) rfl rfl hw (fun z20 hw => ?_)
              refine lv_iconst (v := 1) hx hb dX12_breakSecond_134 (by decide) ?_
              refine w_icmp_ne (tgt := 153) hF dX12_breakSecond_135 rfl hw (fun hw => ?_) (fun hw => ?_)
              · have hl : lv_has ls 9 [(5, .int x9), (3, .long z19), (2, .int a2), (1, .int a1), (0, .ref h0)] := lv_sub hl [1, 0, 3, 4, 5] rfl
                exact jn18 z19 σ10 ls _ _ hl hw hH
              · refine lv_aload_n hx hb dX12_breakSecond_138 rfl (lv_at hl 5 rfl) ?_
                refine w_getA 46 hF hH fk_X12_154 dX12_breakSecond_139 (by decide) rfl ?_
                refine lv_iload hx hb dX12_breakSecond_142 (lv_at hl 2 rfl) ?_
                refine lv_iconst (v := 0) hx hb dX12_breakSecond_144 (by decide) ?_
                refine w_iast 46 40 hF hH dX12_breakSecond_145 (by decide) rfl rfl hw (fun σ21 H locs hw hH => ?_)
                refine lv_aload_n hx hb dX12_breakSecond_146 rfl (lv_at hl 5 rfl) ?_
                refine lv_iload hx hb dX12_breakSecond_147 (lv_at hl 2 rfl) ?_
                refine lv_iconst (v := 0) hx hb dX12_breakSecond_149 (by decide) ?_
                refine w_cVv (As := [.int x5.2, .int 0]) (rest := []) hF hH hA mv_X12_581 (fun sz => c_X12_tellBreak l D t h0 L _ hH.2 x5.2 0 _ hw sz) dX12_breakSecond_150 rfl rfl (by decide) rfl hl.1 (Nat.le_of_ble_eq_true rfl) (by decide) rfl (fun σ22 H locs hw hH => ?_)
                have hl : lv_has ls 9 [(5, .int x9), (3, .long z19), (2, .int a2), (1, .int a1), (0, .ref h0)] := lv_sub hl [1, 0, 3, 4, 5] rfl
                exact jn18 z19 σ22 ls _ _ hl hw hH
      · skip
        refine w_if_lt (tgt := 105) hF dX12_breakSecond_98 rfl hw (fun hw => ?_) (fun hw => ?_)
        · refine lv_iconst (v := 0) hx hb dX12_breakSecond_105 (by decide) ?_
          have hl : lv_has ls 9 [(6, .int x5.2), (3, .long x1.2), (2, .int a2), (1, .int a1), (0, .ref h0)] := lv_sub hl [1, 2, 3, 4, 5] rfl
          exact jn13 0 σ6 ls _ _ hl hw hH
        · refine lv_iconst (v := 1) hx hb dX12_breakSecond_101 (by decide) ?_
          refine lv_goto (tgt := 106) hx hb dX12_breakSecond_102 rfl ?_
          have hl : lv_has ls 9 [(6, .int x5.2), (3, .long x1.2), (2, .int a2), (1, .int a1), (0, .ref h0)] := lv_sub hl [1, 2, 3, 4, 5] rfl
          exact jn13 1 σ6 ls _ _ hl hw hH
    · refine lv_aload_n hx hb dX12_breakSecond_23 rfl (lv_at hl 5 rfl) ?_
      refine w_getA 41 hF hH fk_X12_139 dX12_breakSecond_24 (by decide) rfl ?_
      refine lv_iload hx hb dX12_breakSecond_27 (lv_at hl 0 rfl) ?_
      refine w_lald 41 40 hF hH dX12_breakSecond_29 (by decide) rfl rfl hw (fun z24 hw => ?_)
      refine lv_lload_n hx hb dX12_breakSecond_30 rfl (lv_at hl 2 rfl) ?_
      obtain ⟨K27, hK28, hw⟩ := jn_open hw
      refine w_join (K := K27) 51 (fun (x25 : Int32) => [(7, .int x5.1), (6, .int x5.2), (3, .long x1.2), (2, .int a2), (1, .int a1), (0, .ref h0)]) (fun (x25 : Int32) => [.int x25]) hl hH (fun x25 σ26 ls H locs hl hw hH => ?_) (fun jn29 => ?_)
      · have hw := hK28 x25 σ26 hw
        have hl : lv_has ls 9 [(7, .int x5.1), (6, .int x5.2), (3, .long x1.2), (2, .int a2), (1, .int a1), (0, .ref h0)] := hl
        refine lv_istore (lv' := [(8, .int x25), (7, .int x5.1), (6, .int x5.2), (3, .long x1.2), (2, .int a2), (1, .int a1), (0, .ref h0)]) hx hb dX12_breakSecond_51 hl (by decide) rfl (fun ls hl => ?_)
        refine lv_iload hx hb dX12_breakSecond_53 (lv_at hl 0 rfl) ?_
        obtain ⟨K32, hK33, hw⟩ := jn_open hw
        refine w_join (K := K32) 88 (fun (x30 : Int32) => [(7, .int x5.1), (3, .long x1.2), (2, .int a2), (1, .int a1), (0, .ref h0)]) (fun (x30 : Int32) => [.int x30]) hl hH (fun x30 σ31 ls H locs hl hw hH => ?_) (fun jn34 => ?_)
        · have hw := hK33 x30 σ31 hw
          have hl : lv_has ls 9 [(7, .int x5.1), (3, .long x1.2), (2, .int a2), (1, .int a1), (0, .ref h0)] := hl
          refine lv_istore (lv' := [(6, .int x30), (7, .int x5.1), (3, .long x1.2), (2, .int a2), (1, .int a1), (0, .ref h0)]) hx hb dX12_breakSecond_88 hl (by decide) rfl (fun ls hl => ?_)
          obtain ⟨z35, ez35⟩ : ∃ z : Int32, z = x5.1 + 1 := ⟨_, rfl⟩
          have hw := hw z35 ez35
          refine lv_iinc (lv' := [(7, .int z35), (6, .int x30), (3, .long x1.2), (2, .int a2), (1, .int a1), (0, .ref h0)]) (k := 1) (v := z35) hx hb dX12_breakSecond_90 hl rfl ez35.symm (by decide) rfl (fun ls hl => ?_)
          refine lv_goto (tgt := 16) hx hb dX12_breakSecond_93 rfl ?_
          exact ih8 (z35, x30) σ31 ls _ _ hl hw hH
        · skip
          obtain ⟨K38, hK39, hw⟩ := jn_open hw
          refine w_join (K := K38) 86 (fun (x36 : Unit) => [(7, .int x5.1), (6, .int x5.2), (3, .long x1.2), (2, .int a2), (1, .int a1), (0, .ref h0)]) (fun (x36 : Unit) => []) hl hH (fun x36 σ37 ls H locs hl hw hH => ?_) (fun jn40 => ?_)
          · have hw := hK39 x36 σ37 hw
            have hl : lv_has ls 9 [(7, .int x5.1), (6, .int x5.2), (3, .long x1.2), (2, .int a2), (1, .int a1), (0, .ref h0)] := hl
            refine lv_iload hx hb dX12_breakSecond_86 (lv_at hl 1 rfl) ?_
            have hl : lv_has ls 9 [(7, .int x5.1), (3, .long x1.2), (2, .int a2), (1, .int a1), (0, .ref h0)] := lv_sub hl [0, 2, 3, 4, 5] rfl
            exact jn34 x5.2 σ37 ls _ _ hl hw hH
          · skip
            refine w_if_eq (tgt := 86) hF dX12_breakSecond_55 rfl hw (fun hw => ?_) (fun hw => ?_)
            · have hl : lv_has ls 9 [(7, .int x5.1), (6, .int x5.2), (3, .long x1.2), (2, .int a2), (1, .int a1), (0, .ref h0)] := lv_sub hl [1, 2, 3, 4, 5, 6] rfl
              exact jn40 () σ26 ls _ _ hl hw hH
            · refine lv_iload hx hb dX12_breakSecond_58 (lv_at hl 2 rfl) ?_
              obtain ⟨K43, hK44, hw⟩ := jn_open hw
              refine w_join (K := K43) 81 (fun (x41 : Unit) => [(7, .int x5.1), (3, .long x1.2), (2, .int a2), (1, .int a1), (0, .ref h0)]) (fun (x41 : Unit) => []) hl hH (fun x41 σ42 ls H locs hl hw hH => ?_) (fun jn45 => ?_)
              · have hw := hK44 x41 σ42 hw
                have hl : lv_has ls 9 [(7, .int x5.1), (3, .long x1.2), (2, .int a2), (1, .int a1), (0, .ref h0)] := hl
                refine lv_iload hx hb dX12_breakSecond_81 (lv_at hl 0 rfl) ?_
                refine lv_goto (tgt := 88) hx hb dX12_breakSecond_83 rfl ?_
                exact jn34 x5.1 σ42 ls _ _ hl hw hH
              · skip
                refine w_if_lt (tgt := 81) hF dX12_breakSecond_60 rfl hw (fun hw => ?_) (fun hw => ?_)
                · have hl : lv_has ls 9 [(7, .int x5.1), (3, .long x1.2), (2, .int a2), (1, .int a1), (0, .ref h0)] := lv_sub hl [1, 3, 4, 5, 6] rfl
                  exact jn45 () σ26 ls _ _ hl hw hH
                · refine lv_aload_n hx hb dX12_breakSecond_63 rfl (lv_at hl 6 rfl) ?_
                  refine w_getA 41 hF hH fk_X12_139 dX12_breakSecond_64 (by decide) rfl ?_
                  refine lv_iload hx hb dX12_breakSecond_67 (lv_at hl 1 rfl) ?_
                  refine w_lald 41 40 hF hH dX12_breakSecond_69 (by decide) rfl rfl hw (fun z46 hw => ?_)
                  refine lv_aload_n hx hb dX12_breakSecond_70 rfl (lv_at hl 6 rfl) ?_
                  refine w_getA 41 hF hH fk_X12_139 dX12_breakSecond_71 (by decide) rfl ?_
                  refine lv_iload hx hb dX12_breakSecond_74 (lv_at hl 2 rfl) ?_
                  refine w_lald 41 40 hF hH dX12_breakSecond_76 (by decide) rfl rfl hw (fun z47 hw => ?_)
                  refine w_lif_ge (tgt := 86) hF dX12_breakSecond_77 dX12_breakSecond_78 rfl hw (fun hw => ?_) (fun hw => ?_)
                  · have hl : lv_has ls 9 [(7, .int x5.1), (6, .int x5.2), (3, .long x1.2), (2, .int a2), (1, .int a1), (0, .ref h0)] := lv_sub hl [1, 2, 3, 4, 5, 6] rfl
                    exact jn40 () σ26 ls _ _ hl hw hH
                  · have hl : lv_has ls 9 [(7, .int x5.1), (3, .long x1.2), (2, .int a2), (1, .int a1), (0, .ref h0)] := lv_sub hl [1, 3, 4, 5, 6] rfl
                    exact jn45 () σ26 ls _ _ hl hw hH
      · skip
        obtain ⟨K50, hK51, hw⟩ := jn_open hw
        refine w_join (K := K50) 50 (fun (x48 : Unit) => [(7, .int x5.1), (6, .int x5.2), (3, .long x1.2), (2, .int a2), (1, .int a1), (0, .ref h0)]) (fun (x48 : Unit) => []) hl hH (fun x48 σ49 ls H locs hl hw hH => ?_) (fun jn52 => ?_)
        · have hw := hK51 x48 σ49 hw
          have hl : lv_has ls 9 [(7, .int x5.1), (6, .int x5.2), (3, .long x1.2), (2, .int a2), (1, .int a1), (0, .ref h0)] := hl
          refine lv_iconst (v := 0) hx hb dX12_breakSecond_50 (by decide) ?_
          exact jn29 0 σ49 ls _ _ hl hw hH
        · skip
          refine w_lif_le (tgt := 50) hF dX12_breakSecond_31 dX12_breakSecond_32 rfl hw (fun hw => ?_) (fun hw => ?_)
          · exact jn52 () σ6 ls _ _ hl hw hH
          · refine lv_aload_n hx hb dX12_breakSecond_35 rfl (lv_at hl 5 rfl) ?_
            refine w_getA 43 hF hH fk_X12_145 dX12_breakSecond_36 (by decide) rfl ?_
            refine lv_iload hx hb dX12_breakSecond_39 (lv_at hl 0 rfl) ?_
            refine w_iald 43 40 hF hH dX12_breakSecond_41 (by decide) rfl rfl hw (fun z53 hw => ?_)
            refine lv_iload_n hx hb dX12_breakSecond_42 rfl (lv_at hl 4 rfl) ?_
            refine w_icmp_ne (tgt := 50) hF dX12_breakSecond_43 rfl hw (fun hw => ?_) (fun hw => ?_)
            · exact jn52 () σ6 ls _ _ hl hw hH
            · refine lv_iconst (v := 1) hx hb dX12_breakSecond_46 (by decide) ?_
              refine lv_goto (tgt := 51) hx hb dX12_breakSecond_47 rfl ?_
              exact jn29 1 σ6 ls _ _ hl hw hH
def F_X12_emptyIt (h0 : Nat) (L : Nat → Nat) (a1 : Int32) (a2 : Int32) (post : HS → Prop) (σ : HS) : Prop := F_X12_record h0 L 2 a1 (fun (z2 : Int32) (σ1 : HS) => (0 ≤ z2.toInt ∧ z2.toInt < 9) ∧ ∀ σ3 : HS, σ3 = h_uI σ1 (L 22) z2.toInt.toNat 0 → ∀ z4 : Int32, z4 = 4 * z2 → ∀ z5 : Int32, z5 = z4 + 2 → ∀ z6 : Int64, z6 = sJ σ3 h0 2 → (0 ≤ z5.toInt ∧ z5.toInt < 36) ∧ ∀ σ7 : HS, σ7 = h_uJ σ3 (L 21) z5.toInt.toNat z6 → ∀ z8 : Int32, z8 = 4 * z2 → ∀ z9 : Int32, z9 = z8 + 3 → ∀ z10 : Int64, z10 = sJ σ7 h0 2 → (0 ≤ z9.toInt ∧ z9.toInt < 36) ∧ ∀ σ11 : HS, σ11 = h_uJ σ7 (L 21) z9.toInt.toNat z10 → F_X12_done h0 L  (fun (σ12 : HS) => F_X12_record h0 L 3 a1 (fun (z15 : Int32) (σ14 : HS) => (0 ≤ z15.toInt ∧ z15.toInt < 9) ∧ ∀ σ16 : HS, σ16 = h_uI σ14 (L 20) z15.toInt.toNat a2 → ∀ z17 : Int32, z17 = 4 * z15 → ∀ z18 : Int32, z18 = z17 + 3 → ∀ z19 : Int64, z19 = sJ σ16 h0 2 → (0 ≤ z18.toInt ∧ z18.toInt < 36) ∧ ∀ σ20 : HS, σ20 = h_uJ σ16 (L 21) z18.toInt.toNat z19 → F_X12_done h0 L  (fun (σ21 : HS) => F_X12_breakSecond h0 L a1 (-1) (fun (σ23 : HS) => post σ23) σ21) σ20) σ12) σ11) σ
theorem dX12_emptyIt_0 : decode cX12_emptyIt 0 = .ok (.aload_n 0, 1) := by decide +kernel
theorem dX12_emptyIt_1 : decode cX12_emptyIt 1 = .ok (.iconst 2, 1) := by decide +kernel
theorem dX12_emptyIt_2 : decode cX12_emptyIt 2 = .ok (.iload_n 1, 1) := by decide +kernel
theorem dX12_emptyIt_3 : decode cX12_emptyIt 3 = .ok (.invokevirtual 734, 3) := by decide +kernel
theorem dX12_emptyIt_6 : decode cX12_emptyIt 6 = .ok (.istore_n 3, 1) := by decide +kernel
theorem dX12_emptyIt_7 : decode cX12_emptyIt 7 = .ok (.aload_n 0, 1) := by decide +kernel
theorem dX12_emptyIt_8 : decode cX12_emptyIt 8 = .ok (.getfield 80, 3) := by decide +kernel
theorem dX12_emptyIt_11 : decode cX12_emptyIt 11 = .ok (.iload_n 3, 1) := by decide +kernel
theorem dX12_emptyIt_12 : decode cX12_emptyIt 12 = .ok (.iconst 0, 1) := by decide +kernel
theorem dX12_emptyIt_13 : decode cX12_emptyIt 13 = .ok (.iastore, 1) := by decide +kernel
theorem dX12_emptyIt_14 : decode cX12_emptyIt 14 = .ok (.aload_n 0, 1) := by decide +kernel
theorem dX12_emptyIt_15 : decode cX12_emptyIt 15 = .ok (.getfield 77, 3) := by decide +kernel
theorem dX12_emptyIt_18 : decode cX12_emptyIt 18 = .ok (.iconst 4, 1) := by decide +kernel
theorem dX12_emptyIt_19 : decode cX12_emptyIt 19 = .ok (.iload_n 3, 1) := by decide +kernel
theorem dX12_emptyIt_20 : decode cX12_emptyIt 20 = .ok (.imul, 1) := by decide +kernel
theorem dX12_emptyIt_21 : decode cX12_emptyIt 21 = .ok (.iconst 2, 1) := by decide +kernel
theorem dX12_emptyIt_22 : decode cX12_emptyIt 22 = .ok (.iadd, 1) := by decide +kernel
theorem dX12_emptyIt_23 : decode cX12_emptyIt 23 = .ok (.aload_n 0, 1) := by decide +kernel
theorem dX12_emptyIt_24 : decode cX12_emptyIt 24 = .ok (.getfield 322, 3) := by decide +kernel
theorem dX12_emptyIt_27 : decode cX12_emptyIt 27 = .ok (.lastore, 1) := by decide +kernel
theorem dX12_emptyIt_28 : decode cX12_emptyIt 28 = .ok (.aload_n 0, 1) := by decide +kernel
theorem dX12_emptyIt_29 : decode cX12_emptyIt 29 = .ok (.getfield 77, 3) := by decide +kernel
theorem dX12_emptyIt_32 : decode cX12_emptyIt 32 = .ok (.iconst 4, 1) := by decide +kernel
theorem dX12_emptyIt_33 : decode cX12_emptyIt 33 = .ok (.iload_n 3, 1) := by decide +kernel
theorem dX12_emptyIt_34 : decode cX12_emptyIt 34 = .ok (.imul, 1) := by decide +kernel
theorem dX12_emptyIt_35 : decode cX12_emptyIt 35 = .ok (.iconst 3, 1) := by decide +kernel
theorem dX12_emptyIt_36 : decode cX12_emptyIt 36 = .ok (.iadd, 1) := by decide +kernel
theorem dX12_emptyIt_37 : decode cX12_emptyIt 37 = .ok (.aload_n 0, 1) := by decide +kernel
theorem dX12_emptyIt_38 : decode cX12_emptyIt 38 = .ok (.getfield 322, 3) := by decide +kernel
theorem dX12_emptyIt_41 : decode cX12_emptyIt 41 = .ok (.lastore, 1) := by decide +kernel
theorem dX12_emptyIt_42 : decode cX12_emptyIt 42 = .ok (.aload_n 0, 1) := by decide +kernel
theorem dX12_emptyIt_43 : decode cX12_emptyIt 43 = .ok (.invokevirtual 737, 3) := by decide +kernel
theorem dX12_emptyIt_46 : decode cX12_emptyIt 46 = .ok (.aload_n 0, 1) := by decide +kernel
theorem dX12_emptyIt_47 : decode cX12_emptyIt 47 = .ok (.iconst 3, 1) := by decide +kernel
theorem dX12_emptyIt_48 : decode cX12_emptyIt 48 = .ok (.iload_n 1, 1) := by decide +kernel
theorem dX12_emptyIt_49 : decode cX12_emptyIt 49 = .ok (.invokevirtual 734, 3) := by decide +kernel
theorem dX12_emptyIt_52 : decode cX12_emptyIt 52 = .ok (.istore_n 3, 1) := by decide +kernel
theorem dX12_emptyIt_53 : decode cX12_emptyIt 53 = .ok (.aload_n 0, 1) := by decide +kernel
theorem dX12_emptyIt_54 : decode cX12_emptyIt 54 = .ok (.getfield 74, 3) := by decide +kernel
theorem dX12_emptyIt_57 : decode cX12_emptyIt 57 = .ok (.iload_n 3, 1) := by decide +kernel
theorem dX12_emptyIt_58 : decode cX12_emptyIt 58 = .ok (.iload_n 2, 1) := by decide +kernel
theorem dX12_emptyIt_59 : decode cX12_emptyIt 59 = .ok (.iastore, 1) := by decide +kernel
theorem dX12_emptyIt_60 : decode cX12_emptyIt 60 = .ok (.aload_n 0, 1) := by decide +kernel
theorem dX12_emptyIt_61 : decode cX12_emptyIt 61 = .ok (.getfield 77, 3) := by decide +kernel
theorem dX12_emptyIt_64 : decode cX12_emptyIt 64 = .ok (.iconst 4, 1) := by decide +kernel
theorem dX12_emptyIt_65 : decode cX12_emptyIt 65 = .ok (.iload_n 3, 1) := by decide +kernel
theorem dX12_emptyIt_66 : decode cX12_emptyIt 66 = .ok (.imul, 1) := by decide +kernel
theorem dX12_emptyIt_67 : decode cX12_emptyIt 67 = .ok (.iconst 3, 1) := by decide +kernel
theorem dX12_emptyIt_68 : decode cX12_emptyIt 68 = .ok (.iadd, 1) := by decide +kernel
theorem dX12_emptyIt_69 : decode cX12_emptyIt 69 = .ok (.aload_n 0, 1) := by decide +kernel
theorem dX12_emptyIt_70 : decode cX12_emptyIt 70 = .ok (.getfield 322, 3) := by decide +kernel
theorem dX12_emptyIt_73 : decode cX12_emptyIt 73 = .ok (.lastore, 1) := by decide +kernel
theorem dX12_emptyIt_74 : decode cX12_emptyIt 74 = .ok (.aload_n 0, 1) := by decide +kernel
theorem dX12_emptyIt_75 : decode cX12_emptyIt 75 = .ok (.invokevirtual 737, 3) := by decide +kernel
theorem dX12_emptyIt_78 : decode cX12_emptyIt 78 = .ok (.aload_n 0, 1) := by decide +kernel
theorem dX12_emptyIt_79 : decode cX12_emptyIt 79 = .ok (.iload_n 1, 1) := by decide +kernel
theorem dX12_emptyIt_80 : decode cX12_emptyIt 80 = .ok (.iconst (-1), 1) := by decide +kernel
theorem dX12_emptyIt_81 : decode cX12_emptyIt 81 = .ok (.invokevirtual 740, 3) := by decide +kernel
theorem dX12_emptyIt_84 : decode cX12_emptyIt 84 = .ok (.return_, 1) := by decide +kernel
set_option maxRecDepth 100000 in
set_option maxHeartbeats 4000000 in
theorem c_X12_emptyIt (l : Launch) (D : va_G) (t : Nat → ClassId) (h0 : Nat) (L : Nat → Nat) (σ : HS) (hM : MdI h0 L σ) (a1 : Int32) (a2 : Int32) (post : HS → Prop) (hw : F_X12_emptyIt h0 L a1 a2 post σ) (sz : Nat) : RMv l D t yX12_emptyIt cX12_emptyIt 4 ({ frames := 5, cells := 0, slots := 0, locals := 112 }) h0 L σ sz [.ref h0, .int a1, .int a2] post := by
  refine h_go (τ := τT) okT (by decide) (Nat.le_of_ble_eq_true rfl) ?_
  intro p e s m below meth c ls A hF hr hlk hAe hH0 hA hl
  unfold hB
  rw [hAe]
  clear hAe
  have hF : FX p m c cX12_emptyIt 4 s _ RX12 D t := hF
  have hx := hF.1.1
  have hb := hF.1.2.1
  have hH : RT D t A s.heap h0 L σ s.heap [] := ⟨hH0, hM⟩
  have hl : lv_has ls 4 [(0, .ref h0), (1, .int a1), (2, .int a2)] := hl
  unfold F_X12_emptyIt at hw
  refine lv_aload_n hx hb dX12_emptyIt_0 rfl (lv_at hl 0 rfl) ?_
  refine lv_iconst (v := 2) hx hb dX12_emptyIt_1 (by decide) ?_
  refine lv_iload_n hx hb dX12_emptyIt_2 rfl (lv_at hl 1 rfl) ?_
  refine w_cVi (As := [.int 2, .int a1]) (rest := []) hF hH hA mv_X12_734 (fun sz => c_X12_record l D t h0 L _ hH.2 2 a1 _ hw sz) dX12_emptyIt_3 rfl rfl (by decide) rfl hl.1 (Nat.le_of_ble_eq_true rfl) (by decide) rfl (fun z2 σ1 H locs hw hH => ?_)
  refine lv_istore_n (lv' := [(3, .int z2), (0, .ref h0), (1, .int a1), (2, .int a2)]) hx hb dX12_emptyIt_6 rfl hl (by decide) rfl (fun ls hl => ?_)
  refine lv_aload_n hx hb dX12_emptyIt_7 rfl (lv_at hl 1 rfl) ?_
  refine w_getA 22 hF hH fk_X12_80 dX12_emptyIt_8 (by decide) rfl ?_
  refine lv_iload_n hx hb dX12_emptyIt_11 rfl (lv_at hl 0 rfl) ?_
  refine lv_iconst (v := 0) hx hb dX12_emptyIt_12 (by decide) ?_
  refine w_iast 22 9 hF hH dX12_emptyIt_13 (by decide) rfl rfl hw (fun σ3 H locs hw hH => ?_)
  refine lv_aload_n hx hb dX12_emptyIt_14 rfl (lv_at hl 1 rfl) ?_
  refine w_getA 21 hF hH fk_X12_77 dX12_emptyIt_15 (by decide) rfl ?_
  refine lv_iconst (v := 4) hx hb dX12_emptyIt_18 (by decide) ?_
  refine lv_iload_n hx hb dX12_emptyIt_19 rfl (lv_at hl 0 rfl) ?_
  refine lv_imul hx hb dX12_emptyIt_20 ?_
  refine w_nmi hw (fun z4 hw => ?_)
  refine lv_iconst (v := 2) hx hb dX12_emptyIt_21 (by decide) ?_
  refine lv_iadd hx hb dX12_emptyIt_22 ?_
  refine w_nmi hw (fun z5 hw => ?_)
  refine lv_aload_n hx hb dX12_emptyIt_23 rfl (lv_at hl 1 rfl) ?_
  refine w_getJ hF hH fk_X12_322 dX12_emptyIt_24 hw (fun z6 hw => ?_)
  refine w_last 21 36 hF hH dX12_emptyIt_27 (by decide) rfl rfl hw (fun σ7 H locs hw hH => ?_)
  refine lv_aload_n hx hb dX12_emptyIt_28 rfl (lv_at hl 1 rfl) ?_
  refine w_getA 21 hF hH fk_X12_77 dX12_emptyIt_29 (by decide) rfl ?_
  refine lv_iconst (v := 4) hx hb dX12_emptyIt_32 (by decide) ?_
  refine lv_iload_n hx hb dX12_emptyIt_33 rfl (lv_at hl 0 rfl) ?_
  refine lv_imul hx hb dX12_emptyIt_34 ?_
  refine w_nmi hw (fun z8 hw => ?_)
  refine lv_iconst (v := 3) hx hb dX12_emptyIt_35 (by decide) ?_
  refine lv_iadd hx hb dX12_emptyIt_36 ?_
  refine w_nmi hw (fun z9 hw => ?_)
  refine lv_aload_n hx hb dX12_emptyIt_37 rfl (lv_at hl 1 rfl) ?_
  refine w_getJ hF hH fk_X12_322 dX12_emptyIt_38 hw (fun z10 hw => ?_)
  refine w_last 21 36 hF hH dX12_emptyIt_41 (by decide) rfl rfl hw (fun σ11 H locs hw hH => ?_)
  refine lv_aload_n hx hb dX12_emptyIt_42 rfl (lv_at hl 1 rfl) ?_
  refine w_cVv (As := []) (rest := []) hF hH hA mv_X12_737 (fun sz => c_X12_done l D t h0 L _ hH.2  _ hw sz) dX12_emptyIt_43 rfl rfl (by decide) rfl hl.1 (Nat.le_of_ble_eq_true rfl) (by decide) rfl (fun σ12 H locs hw hH => ?_)
  refine lv_aload_n hx hb dX12_emptyIt_46 rfl (lv_at hl 1 rfl) ?_
  refine lv_iconst (v := 3) hx hb dX12_emptyIt_47 (by decide) ?_
  refine lv_iload_n hx hb dX12_emptyIt_48 rfl (lv_at hl 2 rfl) ?_
  refine w_cVi (As := [.int 3, .int a1]) (rest := []) hF hH hA mv_X12_734 (fun sz => c_X12_record l D t h0 L _ hH.2 3 a1 _ hw sz) dX12_emptyIt_49 rfl rfl (by decide) rfl hl.1 (Nat.le_of_ble_eq_true rfl) (by decide) rfl (fun z15 σ14 H locs hw hH => ?_)
  refine lv_istore_n (lv' := [(3, .int z15), (0, .ref h0), (1, .int a1), (2, .int a2)]) hx hb dX12_emptyIt_52 rfl hl (by decide) rfl (fun ls hl => ?_)
  refine lv_aload_n hx hb dX12_emptyIt_53 rfl (lv_at hl 1 rfl) ?_
  refine w_getA 20 hF hH fk_X12_74 dX12_emptyIt_54 (by decide) rfl ?_
  refine lv_iload_n hx hb dX12_emptyIt_57 rfl (lv_at hl 0 rfl) ?_
  refine lv_iload_n hx hb dX12_emptyIt_58 rfl (lv_at hl 3 rfl) ?_
  refine w_iast 20 9 hF hH dX12_emptyIt_59 (by decide) rfl rfl hw (fun σ16 H locs hw hH => ?_)
  refine lv_aload_n hx hb dX12_emptyIt_60 rfl (lv_at hl 1 rfl) ?_
  refine w_getA 21 hF hH fk_X12_77 dX12_emptyIt_61 (by decide) rfl ?_
  refine lv_iconst (v := 4) hx hb dX12_emptyIt_64 (by decide) ?_
  refine lv_iload_n hx hb dX12_emptyIt_65 rfl (lv_at hl 0 rfl) ?_
  refine lv_imul hx hb dX12_emptyIt_66 ?_
  refine w_nmi hw (fun z17 hw => ?_)
  refine lv_iconst (v := 3) hx hb dX12_emptyIt_67 (by decide) ?_
  refine lv_iadd hx hb dX12_emptyIt_68 ?_
  refine w_nmi hw (fun z18 hw => ?_)
  refine lv_aload_n hx hb dX12_emptyIt_69 rfl (lv_at hl 1 rfl) ?_
  refine w_getJ hF hH fk_X12_322 dX12_emptyIt_70 hw (fun z19 hw => ?_)
  refine w_last 21 36 hF hH dX12_emptyIt_73 (by decide) rfl rfl hw (fun σ20 H locs hw hH => ?_)
  refine lv_aload_n hx hb dX12_emptyIt_74 rfl (lv_at hl 1 rfl) ?_
  refine w_cVv (As := []) (rest := []) hF hH hA mv_X12_737 (fun sz => c_X12_done l D t h0 L _ hH.2  _ hw sz) dX12_emptyIt_75 rfl rfl (by decide) rfl hl.1 (Nat.le_of_ble_eq_true rfl) (by decide) rfl (fun σ21 H locs hw hH => ?_)
  refine lv_aload_n hx hb dX12_emptyIt_78 rfl (lv_at hl 1 rfl) ?_
  refine lv_iload_n hx hb dX12_emptyIt_79 rfl (lv_at hl 2 rfl) ?_
  refine lv_iconst (v := (-1)) hx hb dX12_emptyIt_80 (by decide) ?_
  refine w_cVv (As := [.int a1, .int (-1)]) (rest := []) hF hH hA mv_X12_740 (fun sz => c_X12_breakSecond l D t h0 L _ hH.2 a1 (-1) _ hw sz) dX12_emptyIt_81 rfl rfl (by decide) rfl hl.1 (Nat.le_of_ble_eq_true rfl) (by decide) rfl (fun σ23 H locs hw hH => ?_)
  exact w_retv hF hH hr hlk dX12_emptyIt_84 hw

/-! the reference, lifted: 5 -/
def F_X12_nameIt (h0 : Nat) (L : Nat → Nat) (a1 : Int32) (a2 : Int32) (post : HS → Prop) (σ : HS) : Prop := (0 ≤ a2.toInt ∧ a2.toInt < 130) ∧ ∀ z1 : Int32, z1 = sI σ (L 79) a2.toInt.toNat → (0 ≤ a1.toInt ∧ a1.toInt < 9) ∧ ∀ σ2 : HS, σ2 = h_uI σ (L 19) a1.toInt.toNat z1 → lw (fun (K5 : Int32 → HS → Prop) (x3 : Int32) (σ4 : HS) => (0 ≤ a2.toInt ∧ a2.toInt < 130) ∧ ∀ z7 : Int32, z7 = sI σ4 (L 79) a2.toInt.toNat → ((z7.toInt ≤ x3.toInt) → post σ4) ∧ ((x3.toInt < z7.toInt) → ∀ z8 : Int32, z8 = 12 * a1 → ∀ z9 : Int32, z9 = z8 + x3 → (0 ≤ a2.toInt ∧ a2.toInt < 130) ∧ ∀ z10 : Int32, z10 = sI σ4 (L 78) a2.toInt.toNat → ∀ z11 : Int32, z11 = z10 + x3 → (0 ≤ z11.toInt ∧ z11.toInt < 130) ∧ ∀ z12 : Int32, z12 = sI σ4 (L 77) z11.toInt.toNat → ∀ z13 : Int32, z13 = (z12 : Int32).toInt8.toInt32 → (0 ≤ z9.toInt ∧ z9.toInt < 108) ∧ ∀ σ14 : HS, σ14 = h_uI σ4 (L 18) z9.toInt.toNat (vp_nar .byte z13) → ∀ z15 : Int32, z15 = x3 + 1 → K5 z15 σ14)) 0 σ2
theorem dX12_nameIt_0 : decode cX12_nameIt 0 = .ok (.aload_n 0, 1) := by decide +kernel
theorem dX12_nameIt_1 : decode cX12_nameIt 1 = .ok (.getfield 71, 3) := by decide +kernel
theorem dX12_nameIt_4 : decode cX12_nameIt 4 = .ok (.iload_n 1, 1) := by decide +kernel
theorem dX12_nameIt_5 : decode cX12_nameIt 5 = .ok (.aload_n 0, 1) := by decide +kernel
theorem dX12_nameIt_6 : decode cX12_nameIt 6 = .ok (.getfield 255, 3) := by decide +kernel
theorem dX12_nameIt_9 : decode cX12_nameIt 9 = .ok (.iload_n 2, 1) := by decide +kernel
theorem dX12_nameIt_10 : decode cX12_nameIt 10 = .ok (.iaload, 1) := by decide +kernel
theorem dX12_nameIt_11 : decode cX12_nameIt 11 = .ok (.iastore, 1) := by decide +kernel
theorem dX12_nameIt_12 : decode cX12_nameIt 12 = .ok (.iconst 0, 1) := by decide +kernel
theorem dX12_nameIt_13 : decode cX12_nameIt 13 = .ok (.istore_n 3, 1) := by decide +kernel
theorem dX12_nameIt_14 : decode cX12_nameIt 14 = .ok (.iload_n 3, 1) := by decide +kernel
theorem dX12_nameIt_15 : decode cX12_nameIt 15 = .ok (.aload_n 0, 1) := by decide +kernel
theorem dX12_nameIt_16 : decode cX12_nameIt 16 = .ok (.getfield 255, 3) := by decide +kernel
theorem dX12_nameIt_19 : decode cX12_nameIt 19 = .ok (.iload_n 2, 1) := by decide +kernel
theorem dX12_nameIt_20 : decode cX12_nameIt 20 = .ok (.iaload, 1) := by decide +kernel
theorem dX12_nameIt_21 : decode cX12_nameIt 21 = .ok (.if_icmp .ge 34, 3) := by decide +kernel
theorem dX12_nameIt_24 : decode cX12_nameIt 24 = .ok (.aload_n 0, 1) := by decide +kernel
theorem dX12_nameIt_25 : decode cX12_nameIt 25 = .ok (.getfield 68, 3) := by decide +kernel
theorem dX12_nameIt_28 : decode cX12_nameIt 28 = .ok (.bipush 12, 2) := by decide +kernel
theorem dX12_nameIt_30 : decode cX12_nameIt 30 = .ok (.iload_n 1, 1) := by decide +kernel
theorem dX12_nameIt_31 : decode cX12_nameIt 31 = .ok (.imul, 1) := by decide +kernel
theorem dX12_nameIt_32 : decode cX12_nameIt 32 = .ok (.iload_n 3, 1) := by decide +kernel
theorem dX12_nameIt_33 : decode cX12_nameIt 33 = .ok (.iadd, 1) := by decide +kernel
theorem dX12_nameIt_34 : decode cX12_nameIt 34 = .ok (.aload_n 0, 1) := by decide +kernel
theorem dX12_nameIt_35 : decode cX12_nameIt 35 = .ok (.getfield 249, 3) := by decide +kernel
theorem dX12_nameIt_38 : decode cX12_nameIt 38 = .ok (.aload_n 0, 1) := by decide +kernel
theorem dX12_nameIt_39 : decode cX12_nameIt 39 = .ok (.getfield 252, 3) := by decide +kernel
theorem dX12_nameIt_42 : decode cX12_nameIt 42 = .ok (.iload_n 2, 1) := by decide +kernel
theorem dX12_nameIt_43 : decode cX12_nameIt 43 = .ok (.iaload, 1) := by decide +kernel
theorem dX12_nameIt_44 : decode cX12_nameIt 44 = .ok (.iload_n 3, 1) := by decide +kernel
theorem dX12_nameIt_45 : decode cX12_nameIt 45 = .ok (.iadd, 1) := by decide +kernel
theorem dX12_nameIt_46 : decode cX12_nameIt 46 = .ok (.iaload, 1) := by decide +kernel
theorem dX12_nameIt_47 : decode cX12_nameIt 47 = .ok (.i2b, 1) := by decide +kernel
theorem dX12_nameIt_48 : decode cX12_nameIt 48 = .ok (.bastore, 1) := by decide +kernel
theorem dX12_nameIt_49 : decode cX12_nameIt 49 = .ok (.iinc 3 1, 3) := by decide +kernel
theorem dX12_nameIt_52 : decode cX12_nameIt 52 = .ok (.goto (-38), 3) := by decide +kernel
theorem dX12_nameIt_55 : decode cX12_nameIt 55 = .ok (.return_, 1) := by decide +kernel
set_option maxRecDepth 100000 in
set_option maxHeartbeats 4000000 in
theorem c_X12_nameIt (l : Launch) (D : va_G) (t : Nat → ClassId) (h0 : Nat) (L : Nat → Nat) (σ : HS) (hM : MdI h0 L σ) (a1 : Int32) (a2 : Int32) (post : HS → Prop) (hw : F_X12_nameIt h0 L a1 a2 post σ) (sz : Nat) : RMv l D t yX12_nameIt cX12_nameIt 4 ({ frames := 0, cells := 0, slots := 0, locals := 0 }) h0 L σ sz [.ref h0, .int a1, .int a2] post := by
  refine h_go (τ := τT) okT (by decide) (Nat.le_of_ble_eq_true rfl) ?_
  intro p e s m below meth c ls A hF hr hlk hAe hH0 hA hl
  unfold hB
  rw [hAe]
  clear hAe
  have hF : FX p m c cX12_nameIt 4 s _ RX12 D t := hF
  have hx := hF.1.1
  have hb := hF.1.2.1
  have hH : RT D t A s.heap h0 L σ s.heap [] := ⟨hH0, hM⟩
  have hl : lv_has ls 4 [(0, .ref h0), (1, .int a1), (2, .int a2)] := hl
  unfold F_X12_nameIt at hw
  refine lv_aload_n hx hb dX12_nameIt_0 rfl (lv_at hl 0 rfl) ?_
  refine w_getA 19 hF hH fk_X12_71 dX12_nameIt_1 (by decide) rfl ?_
  refine lv_iload_n hx hb dX12_nameIt_4 rfl (lv_at hl 1 rfl) ?_
  refine lv_aload_n hx hb dX12_nameIt_5 rfl (lv_at hl 0 rfl) ?_
  refine w_getA 79 hF hH fk_X12_255 dX12_nameIt_6 (by decide) rfl ?_
  refine lv_iload_n hx hb dX12_nameIt_9 rfl (lv_at hl 2 rfl) ?_
  refine w_iald 79 130 hF hH dX12_nameIt_10 (by decide) rfl rfl hw (fun z1 hw => ?_)
  refine w_iast 19 9 hF hH dX12_nameIt_11 (by decide) rfl rfl hw (fun σ2 H locs hw hH => ?_)
  refine lv_iconst (v := 0) hx hb dX12_nameIt_12 (by decide) ?_
  refine lv_istore_n (lv' := [(3, .int 0), (0, .ref h0), (1, .int a1), (2, .int a2)]) hx hb dX12_nameIt_13 rfl hl (by decide) rfl (fun ls hl => ?_)
  have hl : lv_has ls 4 [(3, .int 0), (2, .int a2), (1, .int a1), (0, .ref h0)] := lv_sub hl [0, 3, 2, 1] rfl
  refine w_loop (β := Int32) (fun x3 => [(3, .int x3), (2, .int a2), (1, .int a1), (0, .ref h0)]) 0 hl hw hH (fun K5 x3 σ4 ls H locs hl hw hH ih6 => ?_)
  have hl : lv_has ls 4 [(3, .int x3), (2, .int a2), (1, .int a1), (0, .ref h0)] := hl
  refine lv_iload_n hx hb dX12_nameIt_14 rfl (lv_at hl 0 rfl) ?_
  refine lv_aload_n hx hb dX12_nameIt_15 rfl (lv_at hl 3 rfl) ?_
  refine w_getA 79 hF hH fk_X12_255 dX12_nameIt_16 (by decide) rfl ?_
  refine lv_iload_n hx hb dX12_nameIt_19 rfl (lv_at hl 1 rfl) ?_
  refine w_iald 79 130 hF hH dX12_nameIt_20 (by decide) rfl rfl hw (fun z7 hw => ?_)
  refine w_icmp_ge (tgt := 55) hF dX12_nameIt_21 rfl hw (fun hw => ?_) (fun hw => ?_)
  · exact w_retv hF hH hr hlk dX12_nameIt_55 hw
  · refine lv_aload_n hx hb dX12_nameIt_24 rfl (lv_at hl 3 rfl) ?_
    refine w_getA 18 hF hH fk_X12_68 dX12_nameIt_25 (by decide) rfl ?_
    refine lv_bipush (v := 12) hx hb dX12_nameIt_28 (by decide) ?_
    refine lv_iload_n hx hb dX12_nameIt_30 rfl (lv_at hl 2 rfl) ?_
    refine lv_imul hx hb dX12_nameIt_31 ?_
    refine w_nmi hw (fun z8 hw => ?_)
    refine lv_iload_n hx hb dX12_nameIt_32 rfl (lv_at hl 0 rfl) ?_
    refine lv_iadd hx hb dX12_nameIt_33 ?_
    refine w_nmi hw (fun z9 hw => ?_)
    refine lv_aload_n hx hb dX12_nameIt_34 rfl (lv_at hl 3 rfl) ?_
    refine w_getA 77 hF hH fk_X12_249 dX12_nameIt_35 (by decide) rfl ?_
    refine lv_aload_n hx hb dX12_nameIt_38 rfl (lv_at hl 3 rfl) ?_
    refine w_getA 78 hF hH fk_X12_252 dX12_nameIt_39 (by decide) rfl ?_
    refine lv_iload_n hx hb dX12_nameIt_42 rfl (lv_at hl 1 rfl) ?_
    refine w_iald 78 130 hF hH dX12_nameIt_43 (by decide) rfl rfl hw (fun z10 hw => ?_)
    refine lv_iload_n hx hb dX12_nameIt_44 rfl (lv_at hl 0 rfl) ?_
    refine lv_iadd hx hb dX12_nameIt_45 ?_
    refine w_nmi hw (fun z11 hw => ?_)
    refine w_iald 77 130 hF hH dX12_nameIt_46 (by decide) rfl rfl hw (fun z12 hw => ?_)
    refine lv_i2b hx hb dX12_nameIt_47 rfl ?_
    refine w_nmi hw (fun z13 hw => ?_)
    refine w_bast 18 108 hF hH dX12_nameIt_48 (by decide) rfl rfl hw (fun σ14 H locs hw hH => ?_)
    obtain ⟨z15, ez15⟩ : ∃ z : Int32, z = x3 + 1 := ⟨_, rfl⟩
    have hw := hw z15 ez15
    refine lv_iinc (lv' := [(3, .int z15), (2, .int a2), (1, .int a1), (0, .ref h0)]) (k := 0) (v := z15) hx hb dX12_nameIt_49 hl rfl ez15.symm (by decide) rfl (fun ls hl => ?_)
    refine lv_goto (tgt := 14) hx hb dX12_nameIt_52 rfl ?_
    exact ih6 z15 σ14 ls _ _ hl hw hH
def F_X12_makeNode (h0 : Nat) (L : Nat → Nat) (a1 : Int32) (a2 : Int32) (post : Int32 → HS → Prop) (σ : HS) : Prop := F_X12_freeNode h0 L  (fun (z2 : Int32) (σ1 : HS) => F_X12_record h0 L 0 z2 (fun (z4 : Int32) (σ3 : HS) => ∀ z5 : Int32, z5 = sI σ3 h0 115 → ∀ z6 : Int32, z6 = z5 - 1 → ∀ z7 : Int32, z7 = sI σ3 h0 116 → (0 ≤ z4.toInt ∧ z4.toInt < 9) ∧ ∀ σ8 : HS, σ8 = h_uI σ3 (L 16) z4.toInt.toNat z7 → (0 ≤ z4.toInt ∧ z4.toInt < 9) ∧ ∀ σ9 : HS, σ9 = h_uI σ8 (L 17) z4.toInt.toNat (vp_nar .boolean a1) → (0 ≤ z4.toInt ∧ z4.toInt < 9) ∧ ∀ σ10 : HS, σ10 = h_uI σ9 (L 20) z4.toInt.toNat a2 → F_X12_nameIt h0 L z4 z6 (fun (σ11 : HS) => lw (fun (K15 : Int32 → HS → Prop) (x13 : Int32) (σ14 : HS) => (((4 : Int32).toInt ≤ x13.toInt) → (0 ≤ z2.toInt ∧ z2.toInt < 80) ∧ ∀ σ17 : HS, σ17 = h_uI σ14 (L 10) z2.toInt.toNat (vp_nar .boolean 0) → F_X12_done h0 L  (fun (σ18 : HS) => post z2 σ18) σ17) ∧ ((x13.toInt < (4 : Int32).toInt) → ∀ z20 : Int32, z20 = 4 * z4 → ∀ z21 : Int32, z21 = z20 + x13 → ∀ z22 : Int64, z22 = sJ σ14 h0 2 → (0 ≤ z21.toInt ∧ z21.toInt < 36) ∧ ∀ σ23 : HS, σ23 = h_uJ σ14 (L 21) z21.toInt.toNat z22 → ∀ z24 : Int32, z24 = x13 + 1 → K15 z24 σ23)) 0 σ11) σ10) σ1) σ
theorem dX12_makeNode_0 : decode cX12_makeNode 0 = .ok (.aload_n 0, 1) := by decide +kernel
theorem dX12_makeNode_1 : decode cX12_makeNode 1 = .ok (.invokevirtual 318, 3) := by decide +kernel
theorem dX12_makeNode_4 : decode cX12_makeNode 4 = .ok (.istore_n 3, 1) := by decide +kernel
theorem dX12_makeNode_5 : decode cX12_makeNode 5 = .ok (.aload_n 0, 1) := by decide +kernel
theorem dX12_makeNode_6 : decode cX12_makeNode 6 = .ok (.iconst 0, 1) := by decide +kernel
theorem dX12_makeNode_7 : decode cX12_makeNode 7 = .ok (.iload_n 3, 1) := by decide +kernel
theorem dX12_makeNode_8 : decode cX12_makeNode 8 = .ok (.invokevirtual 734, 3) := by decide +kernel
theorem dX12_makeNode_11 : decode cX12_makeNode 11 = .ok (.istore 4, 2) := by decide +kernel
theorem dX12_makeNode_13 : decode cX12_makeNode 13 = .ok (.aload_n 0, 1) := by decide +kernel
theorem dX12_makeNode_14 : decode cX12_makeNode 14 = .ok (.getfield 619, 3) := by decide +kernel
theorem dX12_makeNode_17 : decode cX12_makeNode 17 = .ok (.iconst 1, 1) := by decide +kernel
theorem dX12_makeNode_18 : decode cX12_makeNode 18 = .ok (.isub, 1) := by decide +kernel
theorem dX12_makeNode_19 : decode cX12_makeNode 19 = .ok (.istore 5, 2) := by decide +kernel
theorem dX12_makeNode_21 : decode cX12_makeNode 21 = .ok (.aload_n 0, 1) := by decide +kernel
theorem dX12_makeNode_22 : decode cX12_makeNode 22 = .ok (.getfield 62, 3) := by decide +kernel
theorem dX12_makeNode_25 : decode cX12_makeNode 25 = .ok (.iload 4, 2) := by decide +kernel
theorem dX12_makeNode_27 : decode cX12_makeNode 27 = .ok (.aload_n 0, 1) := by decide +kernel
theorem dX12_makeNode_28 : decode cX12_makeNode 28 = .ok (.getfield 625, 3) := by decide +kernel
theorem dX12_makeNode_31 : decode cX12_makeNode 31 = .ok (.iastore, 1) := by decide +kernel
theorem dX12_makeNode_32 : decode cX12_makeNode 32 = .ok (.aload_n 0, 1) := by decide +kernel
theorem dX12_makeNode_33 : decode cX12_makeNode 33 = .ok (.getfield 65, 3) := by decide +kernel
theorem dX12_makeNode_36 : decode cX12_makeNode 36 = .ok (.iload 4, 2) := by decide +kernel
theorem dX12_makeNode_38 : decode cX12_makeNode 38 = .ok (.iload_n 1, 1) := by decide +kernel
theorem dX12_makeNode_39 : decode cX12_makeNode 39 = .ok (.bastore, 1) := by decide +kernel
theorem dX12_makeNode_40 : decode cX12_makeNode 40 = .ok (.aload_n 0, 1) := by decide +kernel
theorem dX12_makeNode_41 : decode cX12_makeNode 41 = .ok (.getfield 74, 3) := by decide +kernel
theorem dX12_makeNode_44 : decode cX12_makeNode 44 = .ok (.iload 4, 2) := by decide +kernel
theorem dX12_makeNode_46 : decode cX12_makeNode 46 = .ok (.iload_n 2, 1) := by decide +kernel
theorem dX12_makeNode_47 : decode cX12_makeNode 47 = .ok (.iastore, 1) := by decide +kernel
theorem dX12_makeNode_48 : decode cX12_makeNode 48 = .ok (.aload_n 0, 1) := by decide +kernel
theorem dX12_makeNode_49 : decode cX12_makeNode 49 = .ok (.iload 4, 2) := by decide +kernel
theorem dX12_makeNode_51 : decode cX12_makeNode 51 = .ok (.iload 5, 2) := by decide +kernel
theorem dX12_makeNode_53 : decode cX12_makeNode 53 = .ok (.invokevirtual 743, 3) := by decide +kernel
theorem dX12_makeNode_56 : decode cX12_makeNode 56 = .ok (.iconst 0, 1) := by decide +kernel
theorem dX12_makeNode_57 : decode cX12_makeNode 57 = .ok (.istore 6, 2) := by decide +kernel
theorem dX12_makeNode_59 : decode cX12_makeNode 59 = .ok (.iload 6, 2) := by decide +kernel
theorem dX12_makeNode_61 : decode cX12_makeNode 61 = .ok (.iconst 4, 1) := by decide +kernel
theorem dX12_makeNode_62 : decode cX12_makeNode 62 = .ok (.if_icmp .ge 25, 3) := by decide +kernel
theorem dX12_makeNode_65 : decode cX12_makeNode 65 = .ok (.aload_n 0, 1) := by decide +kernel
theorem dX12_makeNode_66 : decode cX12_makeNode 66 = .ok (.getfield 77, 3) := by decide +kernel
theorem dX12_makeNode_69 : decode cX12_makeNode 69 = .ok (.iconst 4, 1) := by decide +kernel
theorem dX12_makeNode_70 : decode cX12_makeNode 70 = .ok (.iload 4, 2) := by decide +kernel
theorem dX12_makeNode_72 : decode cX12_makeNode 72 = .ok (.imul, 1) := by decide +kernel
theorem dX12_makeNode_73 : decode cX12_makeNode 73 = .ok (.iload 6, 2) := by decide +kernel
theorem dX12_makeNode_75 : decode cX12_makeNode 75 = .ok (.iadd, 1) := by decide +kernel
theorem dX12_makeNode_76 : decode cX12_makeNode 76 = .ok (.aload_n 0, 1) := by decide +kernel
theorem dX12_makeNode_77 : decode cX12_makeNode 77 = .ok (.getfield 322, 3) := by decide +kernel
theorem dX12_makeNode_80 : decode cX12_makeNode 80 = .ok (.lastore, 1) := by decide +kernel
theorem dX12_makeNode_81 : decode cX12_makeNode 81 = .ok (.iinc 6 1, 3) := by decide +kernel
theorem dX12_makeNode_84 : decode cX12_makeNode 84 = .ok (.goto (-25), 3) := by decide +kernel
theorem dX12_makeNode_87 : decode cX12_makeNode 87 = .ok (.aload_n 0, 1) := by decide +kernel
theorem dX12_makeNode_88 : decode cX12_makeNode 88 = .ok (.getfield 44, 3) := by decide +kernel
theorem dX12_makeNode_91 : decode cX12_makeNode 91 = .ok (.iload_n 3, 1) := by decide +kernel
theorem dX12_makeNode_92 : decode cX12_makeNode 92 = .ok (.iconst 0, 1) := by decide +kernel
theorem dX12_makeNode_93 : decode cX12_makeNode 93 = .ok (.bastore, 1) := by decide +kernel
theorem dX12_makeNode_94 : decode cX12_makeNode 94 = .ok (.aload_n 0, 1) := by decide +kernel
theorem dX12_makeNode_95 : decode cX12_makeNode 95 = .ok (.invokevirtual 737, 3) := by decide +kernel
theorem dX12_makeNode_98 : decode cX12_makeNode 98 = .ok (.iload_n 3, 1) := by decide +kernel
theorem dX12_makeNode_99 : decode cX12_makeNode 99 = .ok (.ireturn, 1) := by decide +kernel
set_option maxRecDepth 100000 in
set_option maxHeartbeats 4000000 in
theorem c_X12_makeNode (l : Launch) (D : va_G) (t : Nat → ClassId) (h0 : Nat) (L : Nat → Nat) (σ : HS) (hM : MdI h0 L σ) (a1 : Int32) (a2 : Int32) (post : Int32 → HS → Prop) (hw : F_X12_makeNode h0 L a1 a2 post σ) (sz : Nat) : RMi l D t yX12_makeNode cX12_makeNode 7 (some .int) ({ frames := 5, cells := 0, slots := 0, locals := 111 }) h0 L σ sz [.ref h0, .int a1, .int a2] post := by
  refine h_go (τ := τT) okT (by decide) (Nat.le_of_ble_eq_true rfl) ?_
  intro p e s m below meth c ls A hF hr hlk hAe hH0 hA hl
  unfold hB
  rw [hAe]
  clear hAe
  have hF : FX p m c cX12_makeNode 7 s _ RX12 D t := hF
  have hx := hF.1.1
  have hb := hF.1.2.1
  have hH : RT D t A s.heap h0 L σ s.heap [] := ⟨hH0, hM⟩
  have hl : lv_has ls 7 [(0, .ref h0), (1, .int a1), (2, .int a2)] := hl
  unfold F_X12_makeNode at hw
  refine lv_aload_n hx hb dX12_makeNode_0 rfl (lv_at hl 0 rfl) ?_
  refine w_cVi (As := []) (rest := []) hF hH hA mv_X12_318 (fun sz => c_X12_freeNode l D t h0 L _ hH.2  _ hw sz) dX12_makeNode_1 rfl rfl (by decide) rfl hl.1 (Nat.le_of_ble_eq_true rfl) (by decide) rfl (fun z2 σ1 H locs hw hH => ?_)
  refine lv_istore_n (lv' := [(3, .int z2), (0, .ref h0), (1, .int a1), (2, .int a2)]) hx hb dX12_makeNode_4 rfl hl (by decide) rfl (fun ls hl => ?_)
  refine lv_aload_n hx hb dX12_makeNode_5 rfl (lv_at hl 1 rfl) ?_
  refine lv_iconst (v := 0) hx hb dX12_makeNode_6 (by decide) ?_
  refine lv_iload_n hx hb dX12_makeNode_7 rfl (lv_at hl 0 rfl) ?_
  refine w_cVi (As := [.int 0, .int z2]) (rest := []) hF hH hA mv_X12_734 (fun sz => c_X12_record l D t h0 L _ hH.2 0 z2 _ hw sz) dX12_makeNode_8 rfl rfl (by decide) rfl hl.1 (Nat.le_of_ble_eq_true rfl) (by decide) rfl (fun z4 σ3 H locs hw hH => ?_)
  refine lv_istore (lv' := [(4, .int z4), (3, .int z2), (0, .ref h0), (1, .int a1), (2, .int a2)]) hx hb dX12_makeNode_11 hl (by decide) rfl (fun ls hl => ?_)
  refine lv_aload_n hx hb dX12_makeNode_13 rfl (lv_at hl 2 rfl) ?_
  refine w_getI hF hH fk_X12_619 dX12_makeNode_14 hw (fun z5 hw => ?_)
  refine lv_iconst (v := 1) hx hb dX12_makeNode_17 (by decide) ?_
  refine lv_isub hx hb dX12_makeNode_18 ?_
  refine w_nmi hw (fun z6 hw => ?_)
  refine lv_istore (lv' := [(5, .int z6), (4, .int z4), (3, .int z2), (0, .ref h0), (1, .int a1), (2, .int a2)]) hx hb dX12_makeNode_19 hl (by decide) rfl (fun ls hl => ?_)
  refine lv_aload_n hx hb dX12_makeNode_21 rfl (lv_at hl 3 rfl) ?_
  refine w_getA 16 hF hH fk_X12_62 dX12_makeNode_22 (by decide) rfl ?_
  refine lv_iload hx hb dX12_makeNode_25 (lv_at hl 1 rfl) ?_
  refine lv_aload_n hx hb dX12_makeNode_27 rfl (lv_at hl 3 rfl) ?_
  refine w_getI hF hH fk_X12_625 dX12_makeNode_28 hw (fun z7 hw => ?_)
  refine w_iast 16 9 hF hH dX12_makeNode_31 (by decide) rfl rfl hw (fun σ8 H locs hw hH => ?_)
  refine lv_aload_n hx hb dX12_makeNode_32 rfl (lv_at hl 3 rfl) ?_
  refine w_getA 17 hF hH fk_X12_65 dX12_makeNode_33 (by decide) rfl ?_
  refine lv_iload hx hb dX12_makeNode_36 (lv_at hl 1 rfl) ?_
  refine lv_iload_n hx hb dX12_makeNode_38 rfl (lv_at hl 4 rfl) ?_
  refine w_zast 17 9 hF hH dX12_makeNode_39 (by decide) rfl rfl hw (fun σ9 H locs hw hH => ?_)
  refine lv_aload_n hx hb dX12_makeNode_40 rfl (lv_at hl 3 rfl) ?_
  refine w_getA 20 hF hH fk_X12_74 dX12_makeNode_41 (by decide) rfl ?_
  refine lv_iload hx hb dX12_makeNode_44 (lv_at hl 1 rfl) ?_
  refine lv_iload_n hx hb dX12_makeNode_46 rfl (lv_at hl 5 rfl) ?_
  refine w_iast 20 9 hF hH dX12_makeNode_47 (by decide) rfl rfl hw (fun σ10 H locs hw hH => ?_)
  refine lv_aload_n hx hb dX12_makeNode_48 rfl (lv_at hl 3 rfl) ?_
  refine lv_iload hx hb dX12_makeNode_49 (lv_at hl 1 rfl) ?_
  refine lv_iload hx hb dX12_makeNode_51 (lv_at hl 0 rfl) ?_
  refine w_cVv (As := [.int z4, .int z6]) (rest := []) hF hH hA mv_X12_743 (fun sz => c_X12_nameIt l D t h0 L _ hH.2 z4 z6 _ hw sz) dX12_makeNode_53 rfl rfl (by decide) rfl hl.1 (Nat.le_of_ble_eq_true rfl) (by decide) rfl (fun σ11 H locs hw hH => ?_)
  refine lv_iconst (v := 0) hx hb dX12_makeNode_56 (by decide) ?_
  refine lv_istore (lv' := [(6, .int 0), (5, .int z6), (4, .int z4), (3, .int z2), (0, .ref h0), (1, .int a1), (2, .int a2)]) hx hb dX12_makeNode_57 hl (by decide) rfl (fun ls hl => ?_)
  have hl : lv_has ls 7 [(6, .int 0), (4, .int z4), (3, .int z2), (0, .ref h0)] := lv_sub hl [0, 2, 3, 4] rfl
  refine w_loop (β := Int32) (fun x13 => [(6, .int x13), (4, .int z4), (3, .int z2), (0, .ref h0)]) 0 hl hw hH (fun K15 x13 σ14 ls H locs hl hw hH ih16 => ?_)
  have hl : lv_has ls 7 [(6, .int x13), (4, .int z4), (3, .int z2), (0, .ref h0)] := hl
  refine lv_iload hx hb dX12_makeNode_59 (lv_at hl 0 rfl) ?_
  refine lv_iconst (v := 4) hx hb dX12_makeNode_61 (by decide) ?_
  refine w_icmp_ge (tgt := 87) hF dX12_makeNode_62 rfl hw (fun hw => ?_) (fun hw => ?_)
  · refine lv_aload_n hx hb dX12_makeNode_87 rfl (lv_at hl 3 rfl) ?_
    refine w_getA 10 hF hH fk_X12_44 dX12_makeNode_88 (by decide) rfl ?_
    refine lv_iload_n hx hb dX12_makeNode_91 rfl (lv_at hl 2 rfl) ?_
    refine lv_iconst (v := 0) hx hb dX12_makeNode_92 (by decide) ?_
    refine w_zast 10 80 hF hH dX12_makeNode_93 (by decide) rfl rfl hw (fun σ17 H locs hw hH => ?_)
    refine lv_aload_n hx hb dX12_makeNode_94 rfl (lv_at hl 3 rfl) ?_
    refine w_cVv (As := []) (rest := []) hF hH hA mv_X12_737 (fun sz => c_X12_done l D t h0 L _ hH.2  _ hw sz) dX12_makeNode_95 rfl rfl (by decide) rfl hl.1 (Nat.le_of_ble_eq_true rfl) (by decide) rfl (fun σ18 H locs hw hH => ?_)
    refine lv_iload_n hx hb dX12_makeNode_98 rfl (lv_at hl 2 rfl) ?_
    exact w_reti hF hH hr hlk rfl dX12_makeNode_99 hw
  · refine lv_aload_n hx hb dX12_makeNode_65 rfl (lv_at hl 3 rfl) ?_
    refine w_getA 21 hF hH fk_X12_77 dX12_makeNode_66 (by decide) rfl ?_
    refine lv_iconst (v := 4) hx hb dX12_makeNode_69 (by decide) ?_
    refine lv_iload hx hb dX12_makeNode_70 (lv_at hl 1 rfl) ?_
    refine lv_imul hx hb dX12_makeNode_72 ?_
    refine w_nmi hw (fun z20 hw => ?_)
    refine lv_iload hx hb dX12_makeNode_73 (lv_at hl 0 rfl) ?_
    refine lv_iadd hx hb dX12_makeNode_75 ?_
    refine w_nmi hw (fun z21 hw => ?_)
    refine lv_aload_n hx hb dX12_makeNode_76 rfl (lv_at hl 3 rfl) ?_
    refine w_getJ hF hH fk_X12_322 dX12_makeNode_77 hw (fun z22 hw => ?_)
    refine w_last 21 36 hF hH dX12_makeNode_80 (by decide) rfl rfl hw (fun σ23 H locs hw hH => ?_)
    obtain ⟨z24, ez24⟩ : ∃ z : Int32, z = x13 + 1 := ⟨_, rfl⟩
    have hw := hw z24 ez24
    refine lv_iinc (lv' := [(6, .int z24), (4, .int z4), (3, .int z2), (0, .ref h0)]) (k := 0) (v := z24) hx hb dX12_makeNode_81 hl rfl ez24.symm (by decide) rfl (fun ls hl => ?_)
    refine lv_goto (tgt := 59) hx hb dX12_makeNode_84 rfl ?_
    exact ih16 z24 σ23 ls _ _ hl hw hH
def F_X12_granted (h0 : Nat) (L : Nat → Nat) (a1 : Int32) (a2 : Int32) (post : Int32 → HS → Prop) (σ : HS) : Prop := (0 ≤ a1.toInt ∧ a1.toInt < 160) ∧ ∀ z1 : Int32, z1 = sI σ (L 3) a1.toInt.toNat → jn (fun (K4 : Unit → HS → Prop) => ((¬ z1.toInt = 0) → K4 () σ) ∧ ((z1.toInt = 0) → ((¬ a2.toInt = 0) → F_X12_isOpened h0 L a1 (fun (z8 : Int32) (σ7 : HS) => ((¬ z8.toInt = 0) → F_X12_openWith h0 L a1 8 (fun (z10 : Int32) (σ9 : HS) => jn (fun (K13 : Int32 → HS → Prop) => jn (fun (K40 : Unit → HS → Prop) => ((0 ≤ z10.toInt) → K40 () σ9) ∧ ((z10.toInt < 0) → F_X12_openWith h0 L a1 9 (fun (z44 : Int32) (σ43 : HS) => ((0 ≤ z44.toInt) → K40 () σ43) ∧ ((z44.toInt < 0) → K13 1 σ43)) σ9)) (fun (x38 : Unit) (σ39 : HS) => K13 0 σ39)) (fun (x11 : Int32) (σ12 : HS) => lw (fun (K18 : (Int32 × Int32) → HS → Prop) (x16 : Int32 × Int32) (σ17 : HS) => ∀ z20 : Int32, z20 = sI σ17 h0 63 → ((z20.toInt ≤ x16.1.toInt) → jn (fun (K23 : Int32 → HS → Prop) => ((x16.2.toInt = 0) → K23 0 σ17) ∧ ((¬ x16.2.toInt = 0) → K23 1 σ17)) (fun (x21 : Int32) (σ22 : HS) => post x21 σ22)) ∧ ((x16.1.toInt < z20.toInt) → jn (fun (K28 : Int32 → HS → Prop) => jn (fun (K34 : Unit → HS → Prop) => ((x16.2.toInt = 0) → K34 () σ17) ∧ ((¬ x16.2.toInt = 0) → (0 ≤ x16.1.toInt ∧ x16.1.toInt < 80) ∧ ∀ z37 : Int32, z37 = sI σ17 (L 57) x16.1.toInt.toNat → ((z37.toInt = a1.toInt) → K34 () σ17) ∧ ((¬ z37.toInt = a1.toInt) → K28 1 σ17))) (fun (x32 : Unit) (σ33 : HS) => K28 0 σ33)) (fun (x26 : Int32) (σ27 : HS) => ∀ z31 : Int32, z31 = x16.1 + 1 → K18 (z31, x26) σ27))) (0, x11) σ12)) σ7) ∧ ((z8.toInt = 0) → post a2 σ7)) σ) ∧ ((a2.toInt = 0) → K4 () σ))) (fun (x2 : Unit) (σ3 : HS) => post 0 σ3)
theorem dX12_granted_0 : decode cX12_granted 0 = .ok (.aload_n 0, 1) := by decide +kernel
theorem dX12_granted_1 : decode cX12_granted 1 = .ok (.getfield 21, 3) := by decide +kernel
theorem dX12_granted_4 : decode cX12_granted 4 = .ok (.iload_n 1, 1) := by decide +kernel
theorem dX12_granted_5 : decode cX12_granted 5 = .ok (.baload, 1) := by decide +kernel
theorem dX12_granted_6 : decode cX12_granted 6 = .ok (.ifCond .ne 7, 3) := by decide +kernel
theorem dX12_granted_9 : decode cX12_granted 9 = .ok (.iload_n 2, 1) := by decide +kernel
theorem dX12_granted_10 : decode cX12_granted 10 = .ok (.ifCond .ne 5, 3) := by decide +kernel
theorem dX12_granted_13 : decode cX12_granted 13 = .ok (.iconst 0, 1) := by decide +kernel
theorem dX12_granted_14 : decode cX12_granted 14 = .ok (.ireturn, 1) := by decide +kernel
theorem dX12_granted_15 : decode cX12_granted 15 = .ok (.aload_n 0, 1) := by decide +kernel
theorem dX12_granted_16 : decode cX12_granted 16 = .ok (.iload_n 1, 1) := by decide +kernel
theorem dX12_granted_17 : decode cX12_granted 17 = .ok (.invokevirtual 746, 3) := by decide +kernel
theorem dX12_granted_20 : decode cX12_granted 20 = .ok (.ifCond .ne 5, 3) := by decide +kernel
theorem dX12_granted_23 : decode cX12_granted 23 = .ok (.iload_n 2, 1) := by decide +kernel
theorem dX12_granted_24 : decode cX12_granted 24 = .ok (.ireturn, 1) := by decide +kernel
theorem dX12_granted_25 : decode cX12_granted 25 = .ok (.aload_n 0, 1) := by decide +kernel
theorem dX12_granted_26 : decode cX12_granted 26 = .ok (.iload_n 1, 1) := by decide +kernel
theorem dX12_granted_27 : decode cX12_granted 27 = .ok (.bipush 8, 2) := by decide +kernel
theorem dX12_granted_29 : decode cX12_granted 29 = .ok (.invokevirtual 721, 3) := by decide +kernel
theorem dX12_granted_32 : decode cX12_granted 32 = .ok (.ifCond .ge 17, 3) := by decide +kernel
theorem dX12_granted_35 : decode cX12_granted 35 = .ok (.aload_n 0, 1) := by decide +kernel
theorem dX12_granted_36 : decode cX12_granted 36 = .ok (.iload_n 1, 1) := by decide +kernel
theorem dX12_granted_37 : decode cX12_granted 37 = .ok (.bipush 9, 2) := by decide +kernel
theorem dX12_granted_39 : decode cX12_granted 39 = .ok (.invokevirtual 721, 3) := by decide +kernel
theorem dX12_granted_42 : decode cX12_granted 42 = .ok (.ifCond .ge 7, 3) := by decide +kernel
theorem dX12_granted_45 : decode cX12_granted 45 = .ok (.iconst 1, 1) := by decide +kernel
theorem dX12_granted_46 : decode cX12_granted 46 = .ok (.goto 4, 3) := by decide +kernel
theorem dX12_granted_49 : decode cX12_granted 49 = .ok (.iconst 0, 1) := by decide +kernel
theorem dX12_granted_50 : decode cX12_granted 50 = .ok (.istore_n 3, 1) := by decide +kernel
theorem dX12_granted_51 : decode cX12_granted 51 = .ok (.iconst 0, 1) := by decide +kernel
theorem dX12_granted_52 : decode cX12_granted 52 = .ok (.istore 4, 2) := by decide +kernel
theorem dX12_granted_54 : decode cX12_granted 54 = .ok (.iload 4, 2) := by decide +kernel
theorem dX12_granted_56 : decode cX12_granted 56 = .ok (.aload_n 0, 1) := by decide +kernel
theorem dX12_granted_57 : decode cX12_granted 57 = .ok (.getfield 289, 3) := by decide +kernel
theorem dX12_granted_60 : decode cX12_granted 60 = .ok (.if_icmp .ge 30, 3) := by decide +kernel
theorem dX12_granted_63 : decode cX12_granted 63 = .ok (.iload_n 3, 1) := by decide +kernel
theorem dX12_granted_64 : decode cX12_granted 64 = .ok (.ifCond .eq 18, 3) := by decide +kernel
theorem dX12_granted_67 : decode cX12_granted 67 = .ok (.aload_n 0, 1) := by decide +kernel
theorem dX12_granted_68 : decode cX12_granted 68 = .ok (.getfield 187, 3) := by decide +kernel
theorem dX12_granted_71 : decode cX12_granted 71 = .ok (.iload 4, 2) := by decide +kernel
theorem dX12_granted_73 : decode cX12_granted 73 = .ok (.iaload, 1) := by decide +kernel
theorem dX12_granted_74 : decode cX12_granted 74 = .ok (.iload_n 1, 1) := by decide +kernel
theorem dX12_granted_75 : decode cX12_granted 75 = .ok (.if_icmp .eq 7, 3) := by decide +kernel
theorem dX12_granted_78 : decode cX12_granted 78 = .ok (.iconst 1, 1) := by decide +kernel
theorem dX12_granted_79 : decode cX12_granted 79 = .ok (.goto 4, 3) := by decide +kernel
theorem dX12_granted_82 : decode cX12_granted 82 = .ok (.iconst 0, 1) := by decide +kernel
theorem dX12_granted_83 : decode cX12_granted 83 = .ok (.istore_n 3, 1) := by decide +kernel
theorem dX12_granted_84 : decode cX12_granted 84 = .ok (.iinc 4 1, 3) := by decide +kernel
theorem dX12_granted_87 : decode cX12_granted 87 = .ok (.goto (-33), 3) := by decide +kernel
theorem dX12_granted_90 : decode cX12_granted 90 = .ok (.iload_n 3, 1) := by decide +kernel
theorem dX12_granted_91 : decode cX12_granted 91 = .ok (.ifCond .eq 7, 3) := by decide +kernel
theorem dX12_granted_94 : decode cX12_granted 94 = .ok (.iconst 1, 1) := by decide +kernel
theorem dX12_granted_95 : decode cX12_granted 95 = .ok (.goto 4, 3) := by decide +kernel
theorem dX12_granted_98 : decode cX12_granted 98 = .ok (.iconst 0, 1) := by decide +kernel
theorem dX12_granted_99 : decode cX12_granted 99 = .ok (.ireturn, 1) := by decide +kernel
set_option maxRecDepth 100000 in
set_option maxHeartbeats 4000000 in
theorem c_X12_granted (l : Launch) (D : va_G) (t : Nat → ClassId) (h0 : Nat) (L : Nat → Nat) (σ : HS) (hM : MdI h0 L σ) (a1 : Int32) (a2 : Int32) (post : Int32 → HS → Prop) (hw : F_X12_granted h0 L a1 a2 post σ) (sz : Nat) : RMi l D t yX12_granted cX12_granted 5 (some .int) ({ frames := 1, cells := 0, slots := 0, locals := 24 }) h0 L σ sz [.ref h0, .int a1, .int a2] post := by
  refine h_go (τ := τT) okT (by decide) (Nat.le_of_ble_eq_true rfl) ?_
  intro p e s m below meth c ls A hF hr hlk hAe hH0 hA hl
  unfold hB
  rw [hAe]
  clear hAe
  have hF : FX p m c cX12_granted 5 s _ RX12 D t := hF
  have hx := hF.1.1
  have hb := hF.1.2.1
  have hH : RT D t A s.heap h0 L σ s.heap [] := ⟨hH0, hM⟩
  have hl : lv_has ls 5 [(0, .ref h0), (1, .int a1), (2, .int a2)] := hl
  unfold F_X12_granted at hw
  refine lv_aload_n hx hb dX12_granted_0 rfl (lv_at hl 0 rfl) ?_
  refine w_getA 3 hF hH fk_X12_21 dX12_granted_1 (by decide) rfl ?_
  refine lv_iload_n hx hb dX12_granted_4 rfl (lv_at hl 1 rfl) ?_
  refine w_zald 3 160 hF hH dX12_granted_5 (by decide) rfl rfl hw (fun z1 hw => ?_)
  obtain ⟨K4, hK5, hw⟩ := jn_open hw
  refine w_join (K := K4) 13 (fun (x2 : Unit) => []) (fun (x2 : Unit) => []) hl hH (fun x2 σ3 ls H locs hl hw hH => ?_) (fun jn6 => ?_)
  · have hw := hK5 x2 σ3 hw
    have hl : lv_has ls 5 [] := hl
    refine lv_iconst (v := 0) hx hb dX12_granted_13 (by decide) ?_
    exact w_reti hF hH hr hlk rfl dX12_granted_14 hw
  · skip
    refine w_if_ne (tgt := 13) hF dX12_granted_6 rfl hw (fun hw => ?_) (fun hw => ?_)
    · have hl : lv_has ls 5 [] := lv_sub hl [] rfl
      exact jn6 () σ ls _ _ hl hw hH
    · refine lv_iload_n hx hb dX12_granted_9 rfl (lv_at hl 2 rfl) ?_
      refine w_if_ne (tgt := 15) hF dX12_granted_10 rfl hw (fun hw => ?_) (fun hw => ?_)
      · refine lv_aload_n hx hb dX12_granted_15 rfl (lv_at hl 0 rfl) ?_
        refine lv_iload_n hx hb dX12_granted_16 rfl (lv_at hl 1 rfl) ?_
        refine w_cVi (As := [.int a1]) (rest := []) hF hH hA mv_X12_746 (fun sz => c_X12_isOpened l D t h0 L _ hH.2 a1 _ hw sz) dX12_granted_17 rfl rfl (by decide) rfl hl.1 (Nat.le_of_ble_eq_true rfl) (by decide) rfl (fun z8 σ7 H locs hw hH => ?_)
        refine w_if_ne (tgt := 25) hF dX12_granted_20 rfl hw (fun hw => ?_) (fun hw => ?_)
        · refine lv_aload_n hx hb dX12_granted_25 rfl (lv_at hl 0 rfl) ?_
          refine lv_iload_n hx hb dX12_granted_26 rfl (lv_at hl 1 rfl) ?_
          refine lv_bipush (v := 8) hx hb dX12_granted_27 (by decide) ?_
          refine w_cVi (As := [.int a1, .int 8]) (rest := []) hF hH hA mv_X12_721 (fun sz => c_X12_openWith l D t h0 L _ hH.2 a1 8 _ hw sz) dX12_granted_29 rfl rfl (by decide) rfl hl.1 (Nat.le_of_ble_eq_true rfl) (by decide) rfl (fun z10 σ9 H locs hw hH => ?_)
          obtain ⟨K13, hK14, hw⟩ := jn_open hw
          refine w_join (K := K13) 50 (fun (x11 : Int32) => [(1, .int a1), (0, .ref h0)]) (fun (x11 : Int32) => [.int x11]) hl hH (fun x11 σ12 ls H locs hl hw hH => ?_) (fun jn15 => ?_)
          · have hw := hK14 x11 σ12 hw
            have hl : lv_has ls 5 [(1, .int a1), (0, .ref h0)] := hl
            refine lv_istore_n (lv' := [(3, .int x11), (1, .int a1), (0, .ref h0)]) hx hb dX12_granted_50 rfl hl (by decide) rfl (fun ls hl => ?_)
            refine lv_iconst (v := 0) hx hb dX12_granted_51 (by decide) ?_
            refine lv_istore (lv' := [(4, .int 0), (3, .int x11), (1, .int a1), (0, .ref h0)]) hx hb dX12_granted_52 hl (by decide) rfl (fun ls hl => ?_)
            refine w_loop (β := Int32 × Int32) (fun x16 => [(4, .int x16.1), (3, .int x16.2), (1, .int a1), (0, .ref h0)]) (0, x11) hl hw hH (fun K18 x16 σ17 ls H locs hl hw hH ih19 => ?_)
            have hl : lv_has ls 5 [(4, .int x16.1), (3, .int x16.2), (1, .int a1), (0, .ref h0)] := hl
            refine lv_iload hx hb dX12_granted_54 (lv_at hl 0 rfl) ?_
            refine lv_aload_n hx hb dX12_granted_56 rfl (lv_at hl 3 rfl) ?_
            refine w_getI hF hH fk_X12_289 dX12_granted_57 hw (fun z20 hw => ?_)
            refine w_icmp_ge (tgt := 90) hF dX12_granted_60 rfl hw (fun hw => ?_) (fun hw => ?_)
            · refine lv_iload_n hx hb dX12_granted_90 rfl (lv_at hl 1 rfl) ?_
              obtain ⟨K23, hK24, hw⟩ := jn_open hw
              refine w_join (K := K23) 99 (fun (x21 : Int32) => []) (fun (x21 : Int32) => [.int x21]) hl hH (fun x21 σ22 ls H locs hl hw hH => ?_) (fun jn25 => ?_)
              · have hw := hK24 x21 σ22 hw
                have hl : lv_has ls 5 [] := hl
                exact w_reti hF hH hr hlk rfl dX12_granted_99 hw
              · skip
                refine w_if_eq (tgt := 98) hF dX12_granted_91 rfl hw (fun hw => ?_) (fun hw => ?_)
                · refine lv_iconst (v := 0) hx hb dX12_granted_98 (by decide) ?_
                  have hl : lv_has ls 5 [] := lv_sub hl [] rfl
                  exact jn25 0 σ17 ls _ _ hl hw hH
                · refine lv_iconst (v := 1) hx hb dX12_granted_94 (by decide) ?_
                  refine lv_goto (tgt := 99) hx hb dX12_granted_95 rfl ?_
                  have hl : lv_has ls 5 [] := lv_sub hl [] rfl
                  exact jn25 1 σ17 ls _ _ hl hw hH
            · refine lv_iload_n hx hb dX12_granted_63 rfl (lv_at hl 1 rfl) ?_
              obtain ⟨K28, hK29, hw⟩ := jn_open hw
              refine w_join (K := K28) 83 (fun (x26 : Int32) => [(4, .int x16.1), (1, .int a1), (0, .ref h0)]) (fun (x26 : Int32) => [.int x26]) hl hH (fun x26 σ27 ls H locs hl hw hH => ?_) (fun jn30 => ?_)
              · have hw := hK29 x26 σ27 hw
                have hl : lv_has ls 5 [(4, .int x16.1), (1, .int a1), (0, .ref h0)] := hl
                refine lv_istore_n (lv' := [(3, .int x26), (4, .int x16.1), (1, .int a1), (0, .ref h0)]) hx hb dX12_granted_83 rfl hl (by decide) rfl (fun ls hl => ?_)
                obtain ⟨z31, ez31⟩ : ∃ z : Int32, z = x16.1 + 1 := ⟨_, rfl⟩
                have hw := hw z31 ez31
                refine lv_iinc (lv' := [(4, .int z31), (3, .int x26), (1, .int a1), (0, .ref h0)]) (k := 1) (v := z31) hx hb dX12_granted_84 hl rfl ez31.symm (by decide) rfl (fun ls hl => ?_)
                refine lv_goto (tgt := 54) hx hb dX12_granted_87 rfl ?_
                exact ih19 (z31, x26) σ27 ls _ _ hl hw hH
              · skip
                obtain ⟨K34, hK35, hw⟩ := jn_open hw
                refine w_join (K := K34) 82 (fun (x32 : Unit) => [(4, .int x16.1), (1, .int a1), (0, .ref h0)]) (fun (x32 : Unit) => []) hl hH (fun x32 σ33 ls H locs hl hw hH => ?_) (fun jn36 => ?_)
                · have hw := hK35 x32 σ33 hw
                  have hl : lv_has ls 5 [(4, .int x16.1), (1, .int a1), (0, .ref h0)] := hl
                  refine lv_iconst (v := 0) hx hb dX12_granted_82 (by decide) ?_
                  exact jn30 0 σ33 ls _ _ hl hw hH
                · skip
                  refine w_if_eq (tgt := 82) hF dX12_granted_64 rfl hw (fun hw => ?_) (fun hw => ?_)
                  · have hl : lv_has ls 5 [(4, .int x16.1), (1, .int a1), (0, .ref h0)] := lv_sub hl [0, 2, 3] rfl
                    exact jn36 () σ17 ls _ _ hl hw hH
                  · refine lv_aload_n hx hb dX12_granted_67 rfl (lv_at hl 3 rfl) ?_
                    refine w_getA 57 hF hH fk_X12_187 dX12_granted_68 (by decide) rfl ?_
                    refine lv_iload hx hb dX12_granted_71 (lv_at hl 0 rfl) ?_
                    refine w_iald 57 80 hF hH dX12_granted_73 (by decide) rfl rfl hw (fun z37 hw => ?_)
                    refine lv_iload_n hx hb dX12_granted_74 rfl (lv_at hl 2 rfl) ?_
                    refine w_icmp_eq (tgt := 82) hF dX12_granted_75 rfl hw (fun hw => ?_) (fun hw => ?_)
                    · have hl : lv_has ls 5 [(4, .int x16.1), (1, .int a1), (0, .ref h0)] := lv_sub hl [0, 2, 3] rfl
                      exact jn36 () σ17 ls _ _ hl hw hH
                    · refine lv_iconst (v := 1) hx hb dX12_granted_78 (by decide) ?_
                      refine lv_goto (tgt := 83) hx hb dX12_granted_79 rfl ?_
                      have hl : lv_has ls 5 [(4, .int x16.1), (1, .int a1), (0, .ref h0)] := lv_sub hl [0, 2, 3] rfl
                      exact jn30 1 σ17 ls _ _ hl hw hH
          · skip
            obtain ⟨K40, hK41, hw⟩ := jn_open hw
            refine w_join (K := K40) 49 (fun (x38 : Unit) => [(1, .int a1), (0, .ref h0)]) (fun (x38 : Unit) => []) hl hH (fun x38 σ39 ls H locs hl hw hH => ?_) (fun jn42 => ?_)
            · have hw := hK41 x38 σ39 hw
              have hl : lv_has ls 5 [(1, .int a1), (0, .ref h0)] := hl
              refine lv_iconst (v := 0) hx hb dX12_granted_49 (by decide) ?_
              exact jn15 0 σ39 ls _ _ hl hw hH
            · skip
              refine w_if_ge (tgt := 49) hF dX12_granted_32 rfl hw (fun hw => ?_) (fun hw => ?_)
              · have hl : lv_has ls 5 [(1, .int a1), (0, .ref h0)] := lv_sub hl [1, 0] rfl
                exact jn42 () σ9 ls _ _ hl hw hH
              · refine lv_aload_n hx hb dX12_granted_35 rfl (lv_at hl 0 rfl) ?_
                refine lv_iload_n hx hb dX12_granted_36 rfl (lv_at hl 1 rfl) ?_
                refine lv_bipush (v := 9) hx hb dX12_granted_37 (by decide) ?_
                refine w_cVi (As := [.int a1, .int 9]) (rest := []) hF hH hA mv_X12_721 (fun sz => c_X12_openWith l D t h0 L _ hH.2 a1 9 _ hw sz) dX12_granted_39 rfl rfl (by decide) rfl hl.1 (Nat.le_of_ble_eq_true rfl) (by decide) rfl (fun z44 σ43 H locs hw hH => ?_)
                refine w_if_ge (tgt := 49) hF dX12_granted_42 rfl hw (fun hw => ?_) (fun hw => ?_)
                · have hl : lv_has ls 5 [(1, .int a1), (0, .ref h0)] := lv_sub hl [1, 0] rfl
                  exact jn42 () σ43 ls _ _ hl hw hH
                · refine lv_iconst (v := 1) hx hb dX12_granted_45 (by decide) ?_
                  refine lv_goto (tgt := 50) hx hb dX12_granted_46 rfl ?_
                  have hl : lv_has ls 5 [(1, .int a1), (0, .ref h0)] := lv_sub hl [1, 0] rfl
                  exact jn15 1 σ43 ls _ _ hl hw hH
        · refine lv_iload_n hx hb dX12_granted_23 rfl (lv_at hl 2 rfl) ?_
          exact w_reti hF hH hr hlk rfl dX12_granted_24 hw
      · have hl : lv_has ls 5 [] := lv_sub hl [] rfl
        exact jn6 () σ ls _ _ hl hw hH
def F_X12_vacant (h0 : Nat) (L : Nat → Nat) (j N : Nat) (post : Int32 → HS → Prop) (σ : HS) : Prop := lw (fun (K3 : Int32 → HS → Prop) (x1 : Int32) (σ2 : HS) => ∀ z5 : Int32, z5.toInt = (N : Int) → jn (fun (K8 : Unit → HS → Prop) => ((z5.toInt ≤ x1.toInt) → K8 () σ2) ∧ ((x1.toInt < z5.toInt) → (0 ≤ x1.toInt ∧ x1.toInt < N) ∧ ∀ z11 : Int64, z11 = sJ σ2 (L j) x1.toInt.toNat → ((z11.toInt ≤ (0 : Int64).toInt) → K8 () σ2) ∧ (((0 : Int64).toInt < z11.toInt) → ∀ z12 : Int32, z12 = x1 + 1 → K3 z12 σ2))) (fun (x6 : Unit) (σ7 : HS) => post x1 σ7)) 0 σ
theorem dX12_vacant_0 : decode cX12_vacant 0 = .ok (.iconst 0, 1) := by decide +kernel
theorem dX12_vacant_1 : decode cX12_vacant 1 = .ok (.istore_n 2, 1) := by decide +kernel
theorem dX12_vacant_2 : decode cX12_vacant 2 = .ok (.iload_n 2, 1) := by decide +kernel
theorem dX12_vacant_3 : decode cX12_vacant 3 = .ok (.aload_n 1, 1) := by decide +kernel
theorem dX12_vacant_4 : decode cX12_vacant 4 = .ok (.arraylength, 1) := by decide +kernel
theorem dX12_vacant_5 : decode cX12_vacant 5 = .ok (.if_icmp .ge 17, 3) := by decide +kernel
theorem dX12_vacant_8 : decode cX12_vacant 8 = .ok (.aload_n 1, 1) := by decide +kernel
theorem dX12_vacant_9 : decode cX12_vacant 9 = .ok (.iload_n 2, 1) := by decide +kernel
theorem dX12_vacant_10 : decode cX12_vacant 10 = .ok (.laload, 1) := by decide +kernel
theorem dX12_vacant_11 : decode cX12_vacant 11 = .ok (.lconst 0, 1) := by decide +kernel
theorem dX12_vacant_12 : decode cX12_vacant 12 = .ok (.lcmp, 1) := by decide +kernel
theorem dX12_vacant_13 : decode cX12_vacant 13 = .ok (.ifCond .le 9, 3) := by decide +kernel
theorem dX12_vacant_16 : decode cX12_vacant 16 = .ok (.iinc 2 1, 3) := by decide +kernel
theorem dX12_vacant_19 : decode cX12_vacant 19 = .ok (.goto (-17), 3) := by decide +kernel
theorem dX12_vacant_22 : decode cX12_vacant 22 = .ok (.iload_n 2, 1) := by decide +kernel
theorem dX12_vacant_23 : decode cX12_vacant 23 = .ok (.ireturn, 1) := by decide +kernel
set_option maxRecDepth 100000 in
set_option maxHeartbeats 4000000 in
theorem c_X12_vacant (l : Launch) (D : va_G) (t : Nat → ClassId) (h0 : Nat) (L : Nat → Nat) (σ : HS) (hM : MdI h0 L σ) (j N : Nat) (hj : j < 80) (hp : ph (30 + j) = 22) (hN : lnL.getD j 0 = N) (hN2 : N < 2 ^ 31) (post : Int32 → HS → Prop) (hw : F_X12_vacant h0 L j N post σ) (sz : Nat) : RMi l D t yX12_vacant cX12_vacant 3 (some .int) ({ frames := 0, cells := 0, slots := 0, locals := 0 }) h0 L σ sz [.ref h0, .ref (L j)] post := by
  refine h_go (τ := τT) okT (by decide) (Nat.le_of_ble_eq_true rfl) ?_
  intro p e s m below meth c ls A hF hr hlk hAe hH0 hA hl
  unfold hB
  rw [hAe]
  clear hAe
  have hF : FX p m c cX12_vacant 3 s _ RX12 D t := hF
  have hx := hF.1.1
  have hb := hF.1.2.1
  have hH : RT D t A s.heap h0 L σ s.heap [] := ⟨hH0, hM⟩
  have hl : lv_has ls 3 [(0, .ref h0), (1, .ref (L j))] := hl
  unfold F_X12_vacant at hw
  refine lv_iconst (v := 0) hx hb dX12_vacant_0 (by decide) ?_
  refine lv_istore_n (lv' := [(2, .int 0), (0, .ref h0), (1, .ref (L j))]) hx hb dX12_vacant_1 rfl hl (by decide) rfl (fun ls hl => ?_)
  have hl : lv_has ls 3 [(2, .int 0), (1, .ref (L j))] := lv_sub hl [0, 2] rfl
  refine w_loop (β := Int32) (fun x1 => [(2, .int x1), (1, .ref (L j))]) 0 hl hw hH (fun K3 x1 σ2 ls H locs hl hw hH ih4 => ?_)
  have hl : lv_has ls 3 [(2, .int x1), (1, .ref (L j))] := hl
  refine lv_iload_n hx hb dX12_vacant_2 rfl (lv_at hl 0 rfl) ?_
  refine lv_aload_n hx hb dX12_vacant_3 rfl (lv_at hl 1 rfl) ?_
  refine w_alen j N hF hH dX12_vacant_4 hj hp hN hN2 hw (fun z5 hw => ?_)
  obtain ⟨K8, hK9, hw⟩ := jn_open hw
  refine w_join (K := K8) 22 (fun (x6 : Unit) => [(2, .int x1)]) (fun (x6 : Unit) => []) hl hH (fun x6 σ7 ls H locs hl hw hH => ?_) (fun jn10 => ?_)
  · have hw := hK9 x6 σ7 hw
    have hl : lv_has ls 3 [(2, .int x1)] := hl
    refine lv_iload_n hx hb dX12_vacant_22 rfl (lv_at hl 0 rfl) ?_
    exact w_reti hF hH hr hlk rfl dX12_vacant_23 hw
  · skip
    refine w_icmp_ge (tgt := 22) hF dX12_vacant_5 rfl hw (fun hw => ?_) (fun hw => ?_)
    · have hl : lv_has ls 3 [(2, .int x1)] := lv_sub hl [0] rfl
      exact jn10 () σ2 ls _ _ hl hw hH
    · refine lv_aload_n hx hb dX12_vacant_8 rfl (lv_at hl 1 rfl) ?_
      refine lv_iload_n hx hb dX12_vacant_9 rfl (lv_at hl 0 rfl) ?_
      refine w_lald j N hF hH dX12_vacant_10 hj hp hN hw (fun z11 hw => ?_)
      refine lv_lconst (v := 0) hx hb dX12_vacant_11 (by decide) ?_
      refine w_lif_le (tgt := 22) hF dX12_vacant_12 dX12_vacant_13 rfl hw (fun hw => ?_) (fun hw => ?_)
      · have hl : lv_has ls 3 [(2, .int x1)] := lv_sub hl [0] rfl
        exact jn10 () σ2 ls _ _ hl hw hH
      · obtain ⟨z12, ez12⟩ : ∃ z : Int32, z = x1 + 1 := ⟨_, rfl⟩
        have hw := hw z12 ez12
        refine lv_iinc (lv' := [(2, .int z12), (1, .ref (L j))]) (k := 0) (v := z12) hx hb dX12_vacant_16 hl rfl ez12.symm (by decide) rfl (fun ls hl => ?_)
        refine lv_goto (tgt := 2) hx hb dX12_vacant_19 rfl ?_
        exact ih4 z12 σ2 ls _ _ hl hw hH
def F_X12_setTimes (h0 : Nat) (L : Nat → Nat) (a1 : Int32) (a2 : Int32) (post : HS → Prop) (σ : HS) : Prop := lw (fun (K3 : Int32 → HS → Prop) (x1 : Int32) (σ2 : HS) => (((4 : Int32).toInt ≤ x1.toInt) → post σ2) ∧ ((x1.toInt < (4 : Int32).toInt) → ∀ z5 : Int32, z5 = 8 * x1 → ∀ z6 : Int32, z6 = a1 + z5 → ∀ z7 : Int32, z7 = 4 * a2 → ∀ z8 : Int32, z8 = z7 + x1 → (0 ≤ z8.toInt ∧ z8.toInt < 640) ∧ ∀ z9 : Int64, z9 = sJ σ2 (L 7) z8.toInt.toNat → F_X12_set h0 L z6 8 z9 (fun (σ10 : HS) => ∀ z12 : Int32, z12 = x1 + 1 → K3 z12 σ10) σ2)) 0 σ
theorem dX12_setTimes_0 : decode cX12_setTimes 0 = .ok (.iconst 0, 1) := by decide +kernel
theorem dX12_setTimes_1 : decode cX12_setTimes 1 = .ok (.istore_n 3, 1) := by decide +kernel
theorem dX12_setTimes_2 : decode cX12_setTimes 2 = .ok (.iload_n 3, 1) := by decide +kernel
theorem dX12_setTimes_3 : decode cX12_setTimes 3 = .ok (.iconst 4, 1) := by decide +kernel
theorem dX12_setTimes_4 : decode cX12_setTimes 4 = .ok (.if_icmp .ge 31, 3) := by decide +kernel
theorem dX12_setTimes_7 : decode cX12_setTimes 7 = .ok (.aload_n 0, 1) := by decide +kernel
theorem dX12_setTimes_8 : decode cX12_setTimes 8 = .ok (.iload_n 1, 1) := by decide +kernel
theorem dX12_setTimes_9 : decode cX12_setTimes 9 = .ok (.bipush 8, 2) := by decide +kernel
theorem dX12_setTimes_11 : decode cX12_setTimes 11 = .ok (.iload_n 3, 1) := by decide +kernel
theorem dX12_setTimes_12 : decode cX12_setTimes 12 = .ok (.imul, 1) := by decide +kernel
theorem dX12_setTimes_13 : decode cX12_setTimes 13 = .ok (.iadd, 1) := by decide +kernel
theorem dX12_setTimes_14 : decode cX12_setTimes 14 = .ok (.bipush 8, 2) := by decide +kernel
theorem dX12_setTimes_16 : decode cX12_setTimes 16 = .ok (.aload_n 0, 1) := by decide +kernel
theorem dX12_setTimes_17 : decode cX12_setTimes 17 = .ok (.getfield 33, 3) := by decide +kernel
theorem dX12_setTimes_20 : decode cX12_setTimes 20 = .ok (.iconst 4, 1) := by decide +kernel
theorem dX12_setTimes_21 : decode cX12_setTimes 21 = .ok (.iload_n 2, 1) := by decide +kernel
theorem dX12_setTimes_22 : decode cX12_setTimes 22 = .ok (.imul, 1) := by decide +kernel
theorem dX12_setTimes_23 : decode cX12_setTimes 23 = .ok (.iload_n 3, 1) := by decide +kernel
theorem dX12_setTimes_24 : decode cX12_setTimes 24 = .ok (.iadd, 1) := by decide +kernel
theorem dX12_setTimes_25 : decode cX12_setTimes 25 = .ok (.laload, 1) := by decide +kernel
theorem dX12_setTimes_26 : decode cX12_setTimes 26 = .ok (.invokevirtual 376, 3) := by decide +kernel
theorem dX12_setTimes_29 : decode cX12_setTimes 29 = .ok (.iinc 3 1, 3) := by decide +kernel
theorem dX12_setTimes_32 : decode cX12_setTimes 32 = .ok (.goto (-30), 3) := by decide +kernel
theorem dX12_setTimes_35 : decode cX12_setTimes 35 = .ok (.return_, 1) := by decide +kernel
set_option maxRecDepth 100000 in
set_option maxHeartbeats 4000000 in
theorem c_X12_setTimes (l : Launch) (D : va_G) (t : Nat → ClassId) (h0 : Nat) (L : Nat → Nat) (σ : HS) (hM : MdI h0 L σ) (a1 : Int32) (a2 : Int32) (post : HS → Prop) (hw : F_X12_setTimes h0 L a1 a2 post σ) (sz : Nat) : RMv l D t yX12_setTimes cX12_setTimes 4 ({ frames := 1, cells := 0, slots := 0, locals := 25 }) h0 L σ sz [.ref h0, .int a1, .int a2] post := by
  refine h_go (τ := τT) okT (by decide) (Nat.le_of_ble_eq_true rfl) ?_
  intro p e s m below meth c ls A hF hr hlk hAe hH0 hA hl
  unfold hB
  rw [hAe]
  clear hAe
  have hF : FX p m c cX12_setTimes 4 s _ RX12 D t := hF
  have hx := hF.1.1
  have hb := hF.1.2.1
  have hH : RT D t A s.heap h0 L σ s.heap [] := ⟨hH0, hM⟩
  have hl : lv_has ls 4 [(0, .ref h0), (1, .int a1), (2, .int a2)] := hl
  unfold F_X12_setTimes at hw
  refine lv_iconst (v := 0) hx hb dX12_setTimes_0 (by decide) ?_
  refine lv_istore_n (lv' := [(3, .int 0), (0, .ref h0), (1, .int a1), (2, .int a2)]) hx hb dX12_setTimes_1 rfl hl (by decide) rfl (fun ls hl => ?_)
  have hl : lv_has ls 4 [(3, .int 0), (2, .int a2), (1, .int a1), (0, .ref h0)] := lv_sub hl [0, 3, 2, 1] rfl
  refine w_loop (β := Int32) (fun x1 => [(3, .int x1), (2, .int a2), (1, .int a1), (0, .ref h0)]) 0 hl hw hH (fun K3 x1 σ2 ls H locs hl hw hH ih4 => ?_)
  have hl : lv_has ls 4 [(3, .int x1), (2, .int a2), (1, .int a1), (0, .ref h0)] := hl
  refine lv_iload_n hx hb dX12_setTimes_2 rfl (lv_at hl 0 rfl) ?_
  refine lv_iconst (v := 4) hx hb dX12_setTimes_3 (by decide) ?_
  refine w_icmp_ge (tgt := 35) hF dX12_setTimes_4 rfl hw (fun hw => ?_) (fun hw => ?_)
  · exact w_retv hF hH hr hlk dX12_setTimes_35 hw
  · refine lv_aload_n hx hb dX12_setTimes_7 rfl (lv_at hl 3 rfl) ?_
    refine lv_iload_n hx hb dX12_setTimes_8 rfl (lv_at hl 2 rfl) ?_
    refine lv_bipush (v := 8) hx hb dX12_setTimes_9 (by decide) ?_
    refine lv_iload_n hx hb dX12_setTimes_11 rfl (lv_at hl 0 rfl) ?_
    refine lv_imul hx hb dX12_setTimes_12 ?_
    refine w_nmi hw (fun z5 hw => ?_)
    refine lv_iadd hx hb dX12_setTimes_13 ?_
    refine w_nmi hw (fun z6 hw => ?_)
    refine lv_bipush (v := 8) hx hb dX12_setTimes_14 (by decide) ?_
    refine lv_aload_n hx hb dX12_setTimes_16 rfl (lv_at hl 3 rfl) ?_
    refine w_getA 7 hF hH fk_X12_33 dX12_setTimes_17 (by decide) rfl ?_
    refine lv_iconst (v := 4) hx hb dX12_setTimes_20 (by decide) ?_
    refine lv_iload_n hx hb dX12_setTimes_21 rfl (lv_at hl 1 rfl) ?_
    refine lv_imul hx hb dX12_setTimes_22 ?_
    refine w_nmi hw (fun z7 hw => ?_)
    refine lv_iload_n hx hb dX12_setTimes_23 rfl (lv_at hl 0 rfl) ?_
    refine lv_iadd hx hb dX12_setTimes_24 ?_
    refine w_nmi hw (fun z8 hw => ?_)
    refine w_lald 7 640 hF hH dX12_setTimes_25 (by decide) rfl rfl hw (fun z9 hw => ?_)
    refine w_cVv (As := [.int z6, .int 8, .long z9]) (rest := []) hF hH hA mv_X12_376 (fun sz => c_X12_set l D t h0 L _ hH.2 z6 8 z9 _ hw sz) dX12_setTimes_26 rfl rfl (by decide) rfl hl.1 (Nat.le_of_ble_eq_true rfl) (by decide) rfl (fun σ10 H locs hw hH => ?_)
    obtain ⟨z12, ez12⟩ : ∃ z : Int32, z = x1 + 1 := ⟨_, rfl⟩
    have hw := hw z12 ez12
    refine lv_iinc (lv' := [(3, .int z12), (2, .int a2), (1, .int a1), (0, .ref h0)]) (k := 0) (v := z12) hx hb dX12_setTimes_29 hl rfl ez12.symm (by decide) rfl (fun ls hl => ?_)
    refine lv_goto (tgt := 2) hx hb dX12_setTimes_32 rfl ?_
    exact ih4 z12 σ10 ls _ _ hl hw hH
def F_X12_room (h0 : Nat) (L : Nat → Nat) (a1 : Int32) (post : Int32 → HS → Prop) (σ : HS) : Prop := (0 ≤ a1.toInt ∧ a1.toInt < 160) ∧ ∀ z1 : Int32, z1 = sI σ (L 3) a1.toInt.toNat → jn (fun (K4 : Int32 → HS → Prop) => ((z1.toInt = 0) → (0 ≤ a1.toInt ∧ a1.toInt < 160) ∧ ∀ z7 : Int32, z7 = sI σ (L 8) a1.toInt.toNat → ∀ z8 : Int32, z8 = z7 + 511 → ∀ z9 : Int32, z9 = z8 / 512 → ∀ z10 : Int32, z10 = z9 * 512 → K4 z10 σ) ∧ ((¬ z1.toInt = 0) → K4 0 σ)) (fun (x2 : Int32) (σ3 : HS) => post x2 σ3)
theorem dX12_room_0 : decode cX12_room 0 = .ok (.aload_n 0, 1) := by decide +kernel
theorem dX12_room_1 : decode cX12_room 1 = .ok (.getfield 21, 3) := by decide +kernel
theorem dX12_room_4 : decode cX12_room 4 = .ok (.iload_n 1, 1) := by decide +kernel
theorem dX12_room_5 : decode cX12_room 5 = .ok (.baload, 1) := by decide +kernel
theorem dX12_room_6 : decode cX12_room 6 = .ok (.ifCond .eq 7, 3) := by decide +kernel
theorem dX12_room_9 : decode cX12_room 9 = .ok (.iconst 0, 1) := by decide +kernel
theorem dX12_room_10 : decode cX12_room 10 = .ok (.goto 21, 3) := by decide +kernel
theorem dX12_room_13 : decode cX12_room 13 = .ok (.aload_n 0, 1) := by decide +kernel
theorem dX12_room_14 : decode cX12_room 14 = .ok (.getfield 37, 3) := by decide +kernel
theorem dX12_room_17 : decode cX12_room 17 = .ok (.iload_n 1, 1) := by decide +kernel
theorem dX12_room_18 : decode cX12_room 18 = .ok (.iaload, 1) := by decide +kernel
theorem dX12_room_19 : decode cX12_room 19 = .ok (.sipush 511, 3) := by decide +kernel
theorem dX12_room_22 : decode cX12_room 22 = .ok (.iadd, 1) := by decide +kernel
theorem dX12_room_23 : decode cX12_room 23 = .ok (.sipush 512, 3) := by decide +kernel
theorem dX12_room_26 : decode cX12_room 26 = .ok (.idiv, 1) := by decide +kernel
theorem dX12_room_27 : decode cX12_room 27 = .ok (.sipush 512, 3) := by decide +kernel
theorem dX12_room_30 : decode cX12_room 30 = .ok (.imul, 1) := by decide +kernel
theorem dX12_room_31 : decode cX12_room 31 = .ok (.ireturn, 1) := by decide +kernel
set_option maxRecDepth 100000 in
set_option maxHeartbeats 4000000 in
theorem c_X12_room (l : Launch) (D : va_G) (t : Nat → ClassId) (h0 : Nat) (L : Nat → Nat) (σ : HS) (hM : MdI h0 L σ) (a1 : Int32) (post : Int32 → HS → Prop) (hw : F_X12_room h0 L a1 post σ) (sz : Nat) : RMi l D t yX12_room cX12_room 2 (some .int) ({ frames := 0, cells := 0, slots := 0, locals := 0 }) h0 L σ sz [.ref h0, .int a1] post := by
  refine h_go (τ := τT) okT (by decide) (Nat.le_of_ble_eq_true rfl) ?_
  intro p e s m below meth c ls A hF hr hlk hAe hH0 hA hl
  unfold hB
  rw [hAe]
  clear hAe
  have hF : FX p m c cX12_room 2 s _ RX12 D t := hF
  have hx := hF.1.1
  have hb := hF.1.2.1
  have hH : RT D t A s.heap h0 L σ s.heap [] := ⟨hH0, hM⟩
  have hl : lv_has ls 2 [(0, .ref h0), (1, .int a1)] := hl
  unfold F_X12_room at hw
  refine lv_aload_n hx hb dX12_room_0 rfl (lv_at hl 0 rfl) ?_
  refine w_getA 3 hF hH fk_X12_21 dX12_room_1 (by decide) rfl ?_
  refine lv_iload_n hx hb dX12_room_4 rfl (lv_at hl 1 rfl) ?_
  refine w_zald 3 160 hF hH dX12_room_5 (by decide) rfl rfl hw (fun z1 hw => ?_)
  obtain ⟨K4, hK5, hw⟩ := jn_open hw
  refine w_join (K := K4) 31 (fun (x2 : Int32) => []) (fun (x2 : Int32) => [.int x2]) hl hH (fun x2 σ3 ls H locs hl hw hH => ?_) (fun jn6 => ?_)
  · have hw := hK5 x2 σ3 hw
    have hl : lv_has ls 2 [] := hl
    exact w_reti hF hH hr hlk rfl dX12_room_31 hw
  · skip
    refine w_if_eq (tgt := 13) hF dX12_room_6 rfl hw (fun hw => ?_) (fun hw => ?_)
    · refine lv_aload_n hx hb dX12_room_13 rfl (lv_at hl 0 rfl) ?_
      refine w_getA 8 hF hH fk_X12_37 dX12_room_14 (by decide) rfl ?_
      refine lv_iload_n hx hb dX12_room_17 rfl (lv_at hl 1 rfl) ?_
      refine w_iald 8 160 hF hH dX12_room_18 (by decide) rfl rfl hw (fun z7 hw => ?_)
      refine lv_sipush (v := 511) hx hb dX12_room_19 (by decide) ?_
      refine lv_iadd hx hb dX12_room_22 ?_
      refine w_nmi hw (fun z8 hw => ?_)
      refine lv_sipush (v := 512) hx hb dX12_room_23 (by decide) ?_
      refine lv_idiv hx hb dX12_room_26 (by decide) ?_
      refine w_nmi hw (fun z9 hw => ?_)
      refine lv_sipush (v := 512) hx hb dX12_room_27 (by decide) ?_
      refine lv_imul hx hb dX12_room_30 ?_
      refine w_nmi hw (fun z10 hw => ?_)
      have hl : lv_has ls 2 [] := lv_sub hl [] rfl
      exact jn6 z10 σ ls _ _ hl hw hH
    · refine lv_iconst (v := 0) hx hb dX12_room_9 (by decide) ?_
      refine lv_goto (tgt := 31) hx hb dX12_room_10 rfl ?_
      have hl : lv_has ls 2 [] := lv_sub hl [] rfl
      exact jn6 0 σ ls _ _ hl hw hH
def F_X12_shown (h0 : Nat) (L : Nat → Nat) (a1 : Int32) (post : Int32 → HS → Prop) (σ : HS) : Prop := (0 ≤ a1.toInt ∧ a1.toInt < 160) ∧ ∀ z1 : Int32, z1 = sI σ (L 6) a1.toInt.toNat → (0 ≤ a1.toInt ∧ a1.toInt < 160) ∧ ∀ z2 : Int32, z2 = sI σ (L 3) a1.toInt.toNat → jn (fun (K5 : Int32 → HS → Prop) => ((z2.toInt = 0) → K5 0 σ) ∧ ((¬ z2.toInt = 0) → K5 16 σ)) (fun (x3 : Int32) (σ4 : HS) => ∀ z8 : Int32, z8 = z1 ||| x3 → jn (fun (K11 : Int32 → HS → Prop) => ((¬ z8.toInt = 0) → K11 z8 σ4) ∧ ((z8.toInt = 0) → K11 128 σ4)) (fun (x9 : Int32) (σ10 : HS) => post x9 σ10))
theorem dX12_shown_0 : decode cX12_shown 0 = .ok (.aload_n 0, 1) := by decide +kernel
theorem dX12_shown_1 : decode cX12_shown 1 = .ok (.getfield 30, 3) := by decide +kernel
theorem dX12_shown_4 : decode cX12_shown 4 = .ok (.iload_n 1, 1) := by decide +kernel
theorem dX12_shown_5 : decode cX12_shown 5 = .ok (.iaload, 1) := by decide +kernel
theorem dX12_shown_6 : decode cX12_shown 6 = .ok (.aload_n 0, 1) := by decide +kernel
theorem dX12_shown_7 : decode cX12_shown 7 = .ok (.getfield 21, 3) := by decide +kernel
theorem dX12_shown_10 : decode cX12_shown 10 = .ok (.iload_n 1, 1) := by decide +kernel
theorem dX12_shown_11 : decode cX12_shown 11 = .ok (.baload, 1) := by decide +kernel
theorem dX12_shown_12 : decode cX12_shown 12 = .ok (.ifCond .eq 8, 3) := by decide +kernel
theorem dX12_shown_15 : decode cX12_shown 15 = .ok (.bipush 16, 2) := by decide +kernel
theorem dX12_shown_17 : decode cX12_shown 17 = .ok (.goto 4, 3) := by decide +kernel
theorem dX12_shown_20 : decode cX12_shown 20 = .ok (.iconst 0, 1) := by decide +kernel
theorem dX12_shown_21 : decode cX12_shown 21 = .ok (.ior, 1) := by decide +kernel
theorem dX12_shown_22 : decode cX12_shown 22 = .ok (.istore_n 2, 1) := by decide +kernel
theorem dX12_shown_23 : decode cX12_shown 23 = .ok (.iload_n 2, 1) := by decide +kernel
theorem dX12_shown_24 : decode cX12_shown 24 = .ok (.ifCond .ne 9, 3) := by decide +kernel
theorem dX12_shown_27 : decode cX12_shown 27 = .ok (.sipush 128, 3) := by decide +kernel
theorem dX12_shown_30 : decode cX12_shown 30 = .ok (.goto 4, 3) := by decide +kernel
theorem dX12_shown_33 : decode cX12_shown 33 = .ok (.iload_n 2, 1) := by decide +kernel
theorem dX12_shown_34 : decode cX12_shown 34 = .ok (.ireturn, 1) := by decide +kernel
set_option maxRecDepth 100000 in
set_option maxHeartbeats 4000000 in
theorem c_X12_shown (l : Launch) (D : va_G) (t : Nat → ClassId) (h0 : Nat) (L : Nat → Nat) (σ : HS) (hM : MdI h0 L σ) (a1 : Int32) (post : Int32 → HS → Prop) (hw : F_X12_shown h0 L a1 post σ) (sz : Nat) : RMi l D t yX12_shown cX12_shown 3 (some .int) ({ frames := 0, cells := 0, slots := 0, locals := 0 }) h0 L σ sz [.ref h0, .int a1] post := by
  refine h_go (τ := τT) okT (by decide) (Nat.le_of_ble_eq_true rfl) ?_
  intro p e s m below meth c ls A hF hr hlk hAe hH0 hA hl
  unfold hB
  rw [hAe]
  clear hAe
  have hF : FX p m c cX12_shown 3 s _ RX12 D t := hF
  have hx := hF.1.1
  have hb := hF.1.2.1
  have hH : RT D t A s.heap h0 L σ s.heap [] := ⟨hH0, hM⟩
  have hl : lv_has ls 3 [(0, .ref h0), (1, .int a1)] := hl
  unfold F_X12_shown at hw
  refine lv_aload_n hx hb dX12_shown_0 rfl (lv_at hl 0 rfl) ?_
  refine w_getA 6 hF hH fk_X12_30 dX12_shown_1 (by decide) rfl ?_
  refine lv_iload_n hx hb dX12_shown_4 rfl (lv_at hl 1 rfl) ?_
  refine w_iald 6 160 hF hH dX12_shown_5 (by decide) rfl rfl hw (fun z1 hw => ?_)
  refine lv_aload_n hx hb dX12_shown_6 rfl (lv_at hl 0 rfl) ?_
  refine w_getA 3 hF hH fk_X12_21 dX12_shown_7 (by decide) rfl ?_
  refine lv_iload_n hx hb dX12_shown_10 rfl (lv_at hl 1 rfl) ?_
  refine w_zald 3 160 hF hH dX12_shown_11 (by decide) rfl rfl hw (fun z2 hw => ?_)
  obtain ⟨K5, hK6, hw⟩ := jn_open hw
  refine w_join (K := K5) 21 (fun (x3 : Int32) => []) (fun (x3 : Int32) => [.int x3, .int z1]) hl hH (fun x3 σ4 ls H locs hl hw hH => ?_) (fun jn7 => ?_)
  · have hw := hK6 x3 σ4 hw
    have hl : lv_has ls 3 [] := hl
    refine lv_ior hx hb dX12_shown_21 ?_
    refine w_nmi hw (fun z8 hw => ?_)
    refine lv_istore_n (lv' := [(2, .int z8)]) hx hb dX12_shown_22 rfl hl (by decide) rfl (fun ls hl => ?_)
    refine lv_iload_n hx hb dX12_shown_23 rfl (lv_at hl 0 rfl) ?_
    obtain ⟨K11, hK12, hw⟩ := jn_open hw
    refine w_join (K := K11) 34 (fun (x9 : Int32) => []) (fun (x9 : Int32) => [.int x9]) hl hH (fun x9 σ10 ls H locs hl hw hH => ?_) (fun jn13 => ?_)
    · have hw := hK12 x9 σ10 hw
      have hl : lv_has ls 3 [] := hl
      exact w_reti hF hH hr hlk rfl dX12_shown_34 hw
    · skip
      refine w_if_ne (tgt := 33) hF dX12_shown_24 rfl hw (fun hw => ?_) (fun hw => ?_)
      · refine lv_iload_n hx hb dX12_shown_33 rfl (lv_at hl 0 rfl) ?_
        have hl : lv_has ls 3 [] := lv_sub hl [] rfl
        exact jn13 z8 σ4 ls _ _ hl hw hH
      · refine lv_sipush (v := 128) hx hb dX12_shown_27 (by decide) ?_
        refine lv_goto (tgt := 34) hx hb dX12_shown_30 rfl ?_
        have hl : lv_has ls 3 [] := lv_sub hl [] rfl
        exact jn13 128 σ4 ls _ _ hl hw hH
  · skip
    refine w_if_eq (tgt := 20) hF dX12_shown_12 rfl hw (fun hw => ?_) (fun hw => ?_)
    · refine lv_iconst (v := 0) hx hb dX12_shown_20 (by decide) ?_
      have hl : lv_has ls 3 [] := lv_sub hl [] rfl
      exact jn7 0 σ ls _ _ hl hw hH
    · refine lv_bipush (v := 16) hx hb dX12_shown_15 (by decide) ?_
      refine lv_goto (tgt := 21) hx hb dX12_shown_17 rfl ?_
      have hl : lv_has ls 3 [] := lv_sub hl [] rfl
      exact jn7 16 σ ls _ _ hl hw hH
def F_X12_create (h0 : Nat) (L : Nat → Nat) (a1 : Int32) (post : Int64 → HS → Prop) (σ : HS) : Prop := F_X12_number h0 L 96 4 (fun (z2 : Int64) (σ1 : HS) => F_X12_number h0 L 100 4 (fun (z4 : Int64) (σ3 : HS) => F_X12_number h0 L 104 4 (fun (z6 : Int64) (σ5 : HS) => ∀ z7 : Int64, z7 = z6 &&& 1 → jn (fun (K10 : Int32 → HS → Prop) => ((z7.toInt = (0 : Int64).toInt) → K10 0 σ5) ∧ ((¬ z7.toInt = (0 : Int64).toInt) → K10 1 σ5)) (fun (x8 : Int32) (σ9 : HS) => ∀ z13 : Int64, z13 = z6 &&& 64 → jn (fun (K16 : Int32 → HS → Prop) => ((z13.toInt = (0 : Int64).toInt) → K16 0 σ9) ∧ ((¬ z13.toInt = (0 : Int64).toInt) → K16 1 σ9)) (fun (x14 : Int32) (σ15 : HS) => ∀ z19 : Int64, z19 = z6 &&& 4096 → jn (fun (K22 : Int32 → HS → Prop) => ((z19.toInt = (0 : Int64).toInt) → K22 0 σ15) ∧ ((¬ z19.toInt = (0 : Int64).toInt) → K22 1 σ15)) (fun (x20 : Int32) (σ21 : HS) => jn (fun (K27 : Int32 → HS → Prop) => jn (fun (K189 : Unit → HS → Prop) => ((z4.toInt = (0 : Int64).toInt) → K189 () σ21) ∧ ((¬ z4.toInt = (0 : Int64).toInt) → ((z4.toInt = (4 : Int64).toInt) → K189 () σ21) ∧ ((¬ z4.toInt = (4 : Int64).toInt) → ((¬ z4.toInt = (5 : Int64).toInt) → K27 0 σ21) ∧ ((z4.toInt = (5 : Int64).toInt) → K189 () σ21)))) (fun (x187 : Unit) (σ188 : HS) => K27 1 σ188)) (fun (x25 : Int32) (σ26 : HS) => jn (fun (K32 : Unit → HS → Prop) => (((7 : Int64).toInt < z2.toInt) → K32 () σ26) ∧ ((z2.toInt ≤ (7 : Int64).toInt) → (((5 : Int64).toInt < z4.toInt) → K32 () σ26) ∧ ((z4.toInt ≤ (5 : Int64).toInt) → jn (fun (K37 : Unit → HS → Prop) => ((x8.toInt = 0) → K37 () σ26) ∧ ((¬ x8.toInt = 0) → ((¬ x14.toInt = 0) → K32 () σ26) ∧ ((x14.toInt = 0) → ((x25.toInt = 0) → K37 () σ26) ∧ ((¬ x25.toInt = 0) → K32 () σ26)))) (fun (x35 : Unit) (σ36 : HS) => F_X12_number h0 L 88 4 (fun (z41 : Int64) (σ40 : HS) => F_X12_meant h0 L z41 (fun (z43 : Int32) (σ42 : HS) => jn (fun (K46 : Unit → HS → Prop) => ((z43.toInt = 0) → K46 () σ42) ∧ ((¬ z43.toInt = 0) → jn (fun (K51 : Unit → HS → Prop) => ((x20.toInt = 0) → K51 () σ42) ∧ ((¬ x20.toInt = 0) → ∀ z186 : Int32, z186 = z43 &&& 65536 → ((¬ z186.toInt = 0) → K51 () σ42) ∧ ((z186.toInt = 0) → K46 () σ42))) (fun (x49 : Unit) (σ50 : HS) => F_X12_number2 h0 L 108 (fun (z55 : Int32) (σ54 : HS) => F_X12_number2 h0 L 110 (fun (z57 : Int32) (σ56 : HS) => ∀ z58 : Int64, z58 = (z57 : Int32).toInt64 → F_X12_readPath h0 L z55 z58 (fun (z60 : Int32) (σ59 : HS) => ((¬ z60.toInt = 0) → ∀ z61 : Int32, z61 = sI σ59 h0 99 → (0 ≤ z61.toInt ∧ z61.toInt < 16) ∧ ∀ z62 : Int32, z62 = sI σ59 (L 40) z61.toInt.toNat → (0 ≤ z62.toInt ∧ z62.toInt < 4) ∧ ∀ z63 : Int32, z63 = sI σ59 (L 11) z62.toInt.toNat → F_X12_goes h0 L z63 (fun (z65 : Int32) (σ64 : HS) => ((¬ z65.toInt = 0) → F_X12_number1 h0 L 67 (fun (z67 : Int32) (σ66 : HS) => jn (fun (K70 : Int32 → HS → Prop) => jn (fun (K183 : Unit → HS → Prop) => ((z67.toInt = (1 : Int32).toInt) → K183 () σ66) ∧ ((¬ z67.toInt = (1 : Int32).toInt) → ((z67.toInt = (8 : Int32).toInt) → K183 () σ66) ∧ ((¬ z67.toInt = (8 : Int32).toInt) → ((¬ z67.toInt = (9 : Int32).toInt) → K70 0 σ66) ∧ ((z67.toInt = (9 : Int32).toInt) → K183 () σ66)))) (fun (x181 : Unit) (σ182 : HS) => K70 z67 σ182)) (fun (x68 : Int32) (σ69 : HS) => F_X12_number h0 L 92 4 (fun (z74 : Int64) (σ73 : HS) => ∀ z75 : Int32, z75 = (z74 : Int64).toInt32 → ∀ z76 : Int32, z76 = z75 &&& 39 → ∀ z77 : Int32, z77 = z76 ||| 32 → ∀ z78 : Int32, z78 = sI σ73 h0 117 → jn (fun (K81 : Int32 → HS → Prop) => ((x25.toInt = 0) → K81 1 σ73) ∧ ((¬ x25.toInt = 0) → ((¬ z4.toInt = (0 : Int64).toInt) → K81 3 σ73) ∧ ((z4.toInt = (0 : Int64).toInt) → K81 0 σ73))) (fun (x79 : Int32) (σ80 : HS) => jn (fun (K86 : (Int32 × Int32) → HS → Prop) => ((z78.toInt < 0) → jn (fun (K145 : Unit → HS → Prop) => ((z4.toInt = (1 : Int64).toInt) → K145 () σ80) ∧ ((¬ z4.toInt = (1 : Int64).toInt) → ((¬ z4.toInt = (4 : Int64).toInt) → F_X12_count h0 L 41 40 (fun (z149 : Int32) (σ148 : HS) => ((¬ z149.toInt = (40 : Int32).toInt) → F_X12_nodes h0 L 0 (fun (z151 : Int32) (σ150 : HS) => ((¬ z151.toInt = (80 : Int32).toInt) → jn (fun (K154 : Int32 → HS → Prop) => ((x8.toInt = 0) → K154 z77 σ150) ∧ ((¬ x8.toInt = 0) → F_X12_number h0 L 92 4 (fun (z160 : Int64) (σ159 : HS) => ∀ z161 : Int32, z161 = (z160 : Int64).toInt32 → ∀ z162 : Int32, z162 = z161 &&& 6 → K154 z162 σ159) σ150)) (fun (x152 : Int32) (σ153 : HS) => F_X12_makeNode h0 L x8 x152 (fun (z158 : Int32) (σ157 : HS) => K86 (2, z158) σ157) σ153)) ∧ ((z151.toInt = (80 : Int32).toInt) → post 3221225599 σ150)) σ148) ∧ ((z149.toInt = (40 : Int32).toInt) → post 3221225626 σ148)) σ80) ∧ ((z4.toInt = (4 : Int64).toInt) → K145 () σ80))) (fun (x143 : Unit) (σ144 : HS) => post 3221225524 σ144)) ∧ ((0 ≤ z78.toInt) → ∀ z163 : Int32, z163 = (z2 : Int64).toInt32 → ∀ z164 : Int32, z164 = (z4 : Int64).toInt32 → F_X12_there h0 L z78 a1 z43 z163 z164 x8 x14 x20 x25 z63 (fun (z166 : Int64) (σ165 : HS) => ((z166.toInt = (0 : Int64).toInt) → jn (fun (K169 : Unit → HS → Prop) => ((x25.toInt = 0) → K169 () σ165) ∧ ((¬ x25.toInt = 0) → jn (fun (K174 : Int32 → HS → Prop) => ((¬ z4.toInt = (0 : Int64).toInt) → (0 ≤ z78.toInt ∧ z78.toInt < 160) ∧ ∀ z179 : Int32, z179 = sI σ165 (L 6) z78.toInt.toNat → ∀ z180 : Int32, z180 = z179 ||| z77 → K174 z180 σ165) ∧ ((z4.toInt = (0 : Int64).toInt) → K174 z77 σ165)) (fun (x172 : Int32) (σ173 : HS) => F_X12_emptyIt h0 L z78 x172 (fun (σ177 : HS) => K169 () σ177) σ173))) (fun (x167 : Unit) (σ168 : HS) => K86 (x79, z78) σ168)) ∧ ((¬ z166.toInt = (0 : Int64).toInt) → post z166 σ165)) σ80)) (fun (x84 : Int32 × Int32) (σ85 : HS) => F_X12_granted h0 L x84.2 x68 (fun (z90 : Int32) (σ89 : HS) => F_X12_vacant h0 L 41 40 (fun (z92 : Int32) (σ91 : HS) => ∀ z93 : Int64, z93 = sJ σ91 h0 61 → ∀ z94 : Int64, z94 = z93 + 1 → ∀ σ95 : HS, σ95 = h_uJ σ91 h0 61 z94 → ∀ z96 : Int64, z96 = sJ σ95 h0 61 → (0 ≤ z92.toInt ∧ z92.toInt < 40) ∧ ∀ σ97 : HS, σ97 = h_uJ σ95 (L 41) z92.toInt.toNat z96 → ∀ z98 : Int32, z98 = sI σ97 h0 99 → (0 ≤ z92.toInt ∧ z92.toInt < 40) ∧ ∀ σ99 : HS, σ99 = h_uI σ97 (L 42) z92.toInt.toNat z98 → (0 ≤ z92.toInt ∧ z92.toInt < 40) ∧ ∀ σ100 : HS, σ100 = h_uI σ99 (L 43) z92.toInt.toNat x84.2 → (0 ≤ z92.toInt ∧ z92.toInt < 40) ∧ ∀ σ101 : HS, σ101 = h_uI σ100 (L 44) z92.toInt.toNat z43 → ∀ z102 : Int32, z102 = (z2 : Int64).toInt32 → (0 ≤ z92.toInt ∧ z92.toInt < 40) ∧ ∀ σ103 : HS, σ103 = h_uI σ101 (L 45) z92.toInt.toNat z102 → (0 ≤ z92.toInt ∧ z92.toInt < 40) ∧ ∀ σ104 : HS, σ104 = h_uI σ103 (L 46) z92.toInt.toNat z90 → (0 ≤ z92.toInt ∧ z92.toInt < 40) ∧ ∀ σ105 : HS, σ105 = h_uI σ104 (L 47) z92.toInt.toNat (vp_nar .boolean 0) → (0 ≤ z92.toInt ∧ z92.toInt < 40) ∧ ∀ σ106 : HS, σ106 = h_uI σ105 (L 50) z92.toInt.toNat (vp_nar .boolean x20) → (0 ≤ z92.toInt ∧ z92.toInt < 40) ∧ ∀ σ107 : HS, σ107 = h_uI σ106 (L 51) z92.toInt.toNat (-1) → (0 ≤ z92.toInt ∧ z92.toInt < 40) ∧ ∀ σ108 : HS, σ108 = h_uI σ107 (L 53) z92.toInt.toNat 0 → ∀ z109 : Int64, z109 = sJ σ108 h0 61 → ∀ σ110 : HS, σ110 = h_uJ σ108 h0 111 z109 → F_X12_body h0 L 88 (fun (σ111 : HS) => F_X12_set h0 L 64 2 89 (fun (σ113 : HS) => ∀ z115 : Int64, z115 = (z90 : Int32).toInt64 → F_X12_set h0 L 66 1 z115 (fun (σ116 : HS) => ∀ z118 : Int64, z118 = (x84.1 : Int32).toInt64 → F_X12_set h0 L 68 4 z118 (fun (σ119 : HS) => F_X12_setTimes h0 L 72 x84.2 (fun (σ121 : HS) => F_X12_room h0 L x84.2 (fun (z124 : Int32) (σ123 : HS) => ∀ z125 : Int64, z125 = (z124 : Int32).toInt64 → F_X12_set h0 L 104 8 z125 (fun (σ126 : HS) => (0 ≤ x84.2.toInt ∧ x84.2.toInt < 160) ∧ ∀ z128 : Int32, z128 = sI σ126 (L 8) x84.2.toInt.toNat → ∀ z129 : Int64, z129 = (z128 : Int32).toInt64 → F_X12_set h0 L 112 8 z129 (fun (σ130 : HS) => F_X12_shown h0 L x84.2 (fun (z133 : Int32) (σ132 : HS) => ∀ z134 : Int64, z134 = (z133 : Int32).toInt64 → F_X12_set h0 L 120 4 z134 (fun (σ135 : HS) => ∀ z137 : Int64, z137 = sJ σ135 h0 61 → F_X12_set h0 L 128 8 z137 (fun (σ138 : HS) => ∀ z140 : Int64, z140 = sJ σ138 h0 61 → F_X12_set h0 L 136 8 z140 (fun (σ141 : HS) => post 0 σ141) σ138) σ135) σ132) σ130) σ126) σ123) σ121) σ119) σ116) σ113) σ111) σ110) σ89) σ85))) σ69)) σ64) ∧ ((z65.toInt = 0) → post 3221225530 σ64)) σ59) ∧ ((z60.toInt = 0) → post 3221225523 σ59)) σ56) σ54) σ50))) (fun (x44 : Unit) (σ45 : HS) => post 3221225506 σ45)) σ40) σ36)))) (fun (x30 : Unit) (σ31 : HS) => post 3221225485 σ31)))))) σ3) σ1) σ
theorem dX12_create_0 : decode cX12_create 0 = .ok (.aload_n 0, 1) := by decide +kernel
theorem dX12_create_1 : decode cX12_create 1 = .ok (.bipush 96, 2) := by decide +kernel
theorem dX12_create_3 : decode cX12_create 3 = .ok (.iconst 4, 1) := by decide +kernel
theorem dX12_create_4 : decode cX12_create 4 = .ok (.invokevirtual 364, 3) := by decide +kernel
theorem dX12_create_7 : decode cX12_create 7 = .ok (.lstore_n 2, 1) := by decide +kernel
theorem dX12_create_8 : decode cX12_create 8 = .ok (.aload_n 0, 1) := by decide +kernel
theorem dX12_create_9 : decode cX12_create 9 = .ok (.bipush 100, 2) := by decide +kernel
theorem dX12_create_11 : decode cX12_create 11 = .ok (.iconst 4, 1) := by decide +kernel
theorem dX12_create_12 : decode cX12_create 12 = .ok (.invokevirtual 364, 3) := by decide +kernel
theorem dX12_create_15 : decode cX12_create 15 = .ok (.lstore 4, 2) := by decide +kernel
theorem dX12_create_17 : decode cX12_create 17 = .ok (.aload_n 0, 1) := by decide +kernel
theorem dX12_create_18 : decode cX12_create 18 = .ok (.bipush 104, 2) := by decide +kernel
theorem dX12_create_20 : decode cX12_create 20 = .ok (.iconst 4, 1) := by decide +kernel
theorem dX12_create_21 : decode cX12_create 21 = .ok (.invokevirtual 364, 3) := by decide +kernel
theorem dX12_create_24 : decode cX12_create 24 = .ok (.lstore 6, 2) := by decide +kernel
theorem dX12_create_26 : decode cX12_create 26 = .ok (.lload 6, 2) := by decide +kernel
theorem dX12_create_28 : decode cX12_create 28 = .ok (.lconst 1, 1) := by decide +kernel
theorem dX12_create_29 : decode cX12_create 29 = .ok (.land, 1) := by decide +kernel
theorem dX12_create_30 : decode cX12_create 30 = .ok (.lconst 0, 1) := by decide +kernel
theorem dX12_create_31 : decode cX12_create 31 = .ok (.lcmp, 1) := by decide +kernel
theorem dX12_create_32 : decode cX12_create 32 = .ok (.ifCond .eq 7, 3) := by decide +kernel
theorem dX12_create_35 : decode cX12_create 35 = .ok (.iconst 1, 1) := by decide +kernel
theorem dX12_create_36 : decode cX12_create 36 = .ok (.goto 4, 3) := by decide +kernel
theorem dX12_create_39 : decode cX12_create 39 = .ok (.iconst 0, 1) := by decide +kernel
theorem dX12_create_40 : decode cX12_create 40 = .ok (.istore 8, 2) := by decide +kernel
theorem dX12_create_42 : decode cX12_create 42 = .ok (.lload 6, 2) := by decide +kernel
theorem dX12_create_44 : decode cX12_create 44 = .ok (.ldc2_w 380, 3) := by decide +kernel
theorem dX12_create_47 : decode cX12_create 47 = .ok (.land, 1) := by decide +kernel
theorem dX12_create_48 : decode cX12_create 48 = .ok (.lconst 0, 1) := by decide +kernel
theorem dX12_create_49 : decode cX12_create 49 = .ok (.lcmp, 1) := by decide +kernel
theorem dX12_create_50 : decode cX12_create 50 = .ok (.ifCond .eq 7, 3) := by decide +kernel
theorem dX12_create_53 : decode cX12_create 53 = .ok (.iconst 1, 1) := by decide +kernel
theorem dX12_create_54 : decode cX12_create 54 = .ok (.goto 4, 3) := by decide +kernel
theorem dX12_create_57 : decode cX12_create 57 = .ok (.iconst 0, 1) := by decide +kernel
theorem dX12_create_58 : decode cX12_create 58 = .ok (.istore 9, 2) := by decide +kernel
theorem dX12_create_60 : decode cX12_create 60 = .ok (.lload 6, 2) := by decide +kernel
theorem dX12_create_62 : decode cX12_create 62 = .ok (.ldc2_w 658, 3) := by decide +kernel
theorem dX12_create_65 : decode cX12_create 65 = .ok (.land, 1) := by decide +kernel
theorem dX12_create_66 : decode cX12_create 66 = .ok (.lconst 0, 1) := by decide +kernel
theorem dX12_create_67 : decode cX12_create 67 = .ok (.lcmp, 1) := by decide +kernel
theorem dX12_create_68 : decode cX12_create 68 = .ok (.ifCond .eq 7, 3) := by decide +kernel
theorem dX12_create_71 : decode cX12_create 71 = .ok (.iconst 1, 1) := by decide +kernel
theorem dX12_create_72 : decode cX12_create 72 = .ok (.goto 4, 3) := by decide +kernel
theorem dX12_create_75 : decode cX12_create 75 = .ok (.iconst 0, 1) := by decide +kernel
theorem dX12_create_76 : decode cX12_create 76 = .ok (.istore 10, 2) := by decide +kernel
theorem dX12_create_78 : decode cX12_create 78 = .ok (.lload 4, 2) := by decide +kernel
theorem dX12_create_80 : decode cX12_create 80 = .ok (.lconst 0, 1) := by decide +kernel
theorem dX12_create_81 : decode cX12_create 81 = .ok (.lcmp, 1) := by decide +kernel
theorem dX12_create_82 : decode cX12_create 82 = .ok (.ifCond .eq 21, 3) := by decide +kernel
theorem dX12_create_85 : decode cX12_create 85 = .ok (.lload 4, 2) := by decide +kernel
theorem dX12_create_87 : decode cX12_create 87 = .ok (.ldc2_w 410, 3) := by decide +kernel
theorem dX12_create_90 : decode cX12_create 90 = .ok (.lcmp, 1) := by decide +kernel
theorem dX12_create_91 : decode cX12_create 91 = .ok (.ifCond .eq 12, 3) := by decide +kernel
theorem dX12_create_94 : decode cX12_create 94 = .ok (.lload 4, 2) := by decide +kernel
theorem dX12_create_96 : decode cX12_create 96 = .ok (.ldc2_w 660, 3) := by decide +kernel
theorem dX12_create_99 : decode cX12_create 99 = .ok (.lcmp, 1) := by decide +kernel
theorem dX12_create_100 : decode cX12_create 100 = .ok (.ifCond .ne 7, 3) := by decide +kernel
theorem dX12_create_103 : decode cX12_create 103 = .ok (.iconst 1, 1) := by decide +kernel
theorem dX12_create_104 : decode cX12_create 104 = .ok (.goto 4, 3) := by decide +kernel
theorem dX12_create_107 : decode cX12_create 107 = .ok (.iconst 0, 1) := by decide +kernel
theorem dX12_create_108 : decode cX12_create 108 = .ok (.istore 11, 2) := by decide +kernel
theorem dX12_create_110 : decode cX12_create 110 = .ok (.lload_n 2, 1) := by decide +kernel
theorem dX12_create_111 : decode cX12_create 111 = .ok (.ldc2_w 662, 3) := by decide +kernel
theorem dX12_create_114 : decode cX12_create 114 = .ok (.lcmp, 1) := by decide +kernel
theorem dX12_create_115 : decode cX12_create 115 = .ok (.ifCond .gt 27, 3) := by decide +kernel
theorem dX12_create_118 : decode cX12_create 118 = .ok (.lload 4, 2) := by decide +kernel
theorem dX12_create_120 : decode cX12_create 120 = .ok (.ldc2_w 660, 3) := by decide +kernel
theorem dX12_create_123 : decode cX12_create 123 = .ok (.lcmp, 1) := by decide +kernel
theorem dX12_create_124 : decode cX12_create 124 = .ok (.ifCond .gt 18, 3) := by decide +kernel
theorem dX12_create_127 : decode cX12_create 127 = .ok (.iload 8, 2) := by decide +kernel
theorem dX12_create_129 : decode cX12_create 129 = .ok (.ifCond .eq 17, 3) := by decide +kernel
theorem dX12_create_132 : decode cX12_create 132 = .ok (.iload 9, 2) := by decide +kernel
theorem dX12_create_134 : decode cX12_create 134 = .ok (.ifCond .ne 8, 3) := by decide +kernel
theorem dX12_create_137 : decode cX12_create 137 = .ok (.iload 11, 2) := by decide +kernel
theorem dX12_create_139 : decode cX12_create 139 = .ok (.ifCond .eq 7, 3) := by decide +kernel
theorem dX12_create_142 : decode cX12_create 142 = .ok (.ldc2_w 518, 3) := by decide +kernel
theorem dX12_create_145 : decode cX12_create 145 = .ok (.lreturn, 1) := by decide +kernel
theorem dX12_create_146 : decode cX12_create 146 = .ok (.aload_n 0, 1) := by decide +kernel
theorem dX12_create_147 : decode cX12_create 147 = .ok (.bipush 88, 2) := by decide +kernel
theorem dX12_create_149 : decode cX12_create 149 = .ok (.iconst 4, 1) := by decide +kernel
theorem dX12_create_150 : decode cX12_create 150 = .ok (.invokevirtual 364, 3) := by decide +kernel
theorem dX12_create_153 : decode cX12_create 153 = .ok (.invokestatic 664, 3) := by decide +kernel
theorem dX12_create_156 : decode cX12_create 156 = .ok (.istore 12, 2) := by decide +kernel
theorem dX12_create_158 : decode cX12_create 158 = .ok (.iload 12, 2) := by decide +kernel
theorem dX12_create_160 : decode cX12_create 160 = .ok (.ifCond .eq 17, 3) := by decide +kernel
theorem dX12_create_163 : decode cX12_create 163 = .ok (.iload 10, 2) := by decide +kernel
theorem dX12_create_165 : decode cX12_create 165 = .ok (.ifCond .eq 16, 3) := by decide +kernel
theorem dX12_create_168 : decode cX12_create 168 = .ok (.iload 12, 2) := by decide +kernel
theorem dX12_create_170 : decode cX12_create 170 = .ok (.ldc_w 648, 3) := by decide +kernel
theorem dX12_create_173 : decode cX12_create 173 = .ok (.iand, 1) := by decide +kernel
theorem dX12_create_174 : decode cX12_create 174 = .ok (.ifCond .ne 7, 3) := by decide +kernel
theorem dX12_create_177 : decode cX12_create 177 = .ok (.ldc2_w 667, 3) := by decide +kernel
theorem dX12_create_180 : decode cX12_create 180 = .ok (.lreturn, 1) := by decide +kernel
theorem dX12_create_181 : decode cX12_create 181 = .ok (.aload_n 0, 1) := by decide +kernel
theorem dX12_create_182 : decode cX12_create 182 = .ok (.aload_n 0, 1) := by decide +kernel
theorem dX12_create_183 : decode cX12_create 183 = .ok (.bipush 108, 2) := by decide +kernel
theorem dX12_create_185 : decode cX12_create 185 = .ok (.invokevirtual 415, 3) := by decide +kernel
theorem dX12_create_188 : decode cX12_create 188 = .ok (.aload_n 0, 1) := by decide +kernel
theorem dX12_create_189 : decode cX12_create 189 = .ok (.bipush 110, 2) := by decide +kernel
theorem dX12_create_191 : decode cX12_create 191 = .ok (.invokevirtual 415, 3) := by decide +kernel
theorem dX12_create_194 : decode cX12_create 194 = .ok (.i2l, 1) := by decide +kernel
theorem dX12_create_195 : decode cX12_create 195 = .ok (.invokevirtual 669, 3) := by decide +kernel
theorem dX12_create_198 : decode cX12_create 198 = .ok (.ifCond .ne 7, 3) := by decide +kernel
theorem dX12_create_201 : decode cX12_create 201 = .ok (.ldc2_w 672, 3) := by decide +kernel
theorem dX12_create_204 : decode cX12_create 204 = .ok (.lreturn, 1) := by decide +kernel
theorem dX12_create_205 : decode cX12_create 205 = .ok (.aload_n 0, 1) := by decide +kernel
theorem dX12_create_206 : decode cX12_create 206 = .ok (.getfield 47, 3) := by decide +kernel
theorem dX12_create_209 : decode cX12_create 209 = .ok (.aload_n 0, 1) := by decide +kernel
theorem dX12_create_210 : decode cX12_create 210 = .ok (.getfield 136, 3) := by decide +kernel
theorem dX12_create_213 : decode cX12_create 213 = .ok (.aload_n 0, 1) := by decide +kernel
theorem dX12_create_214 : decode cX12_create 214 = .ok (.getfield 498, 3) := by decide +kernel
theorem dX12_create_217 : decode cX12_create 217 = .ok (.iaload, 1) := by decide +kernel
theorem dX12_create_218 : decode cX12_create 218 = .ok (.iaload, 1) := by decide +kernel
theorem dX12_create_219 : decode cX12_create 219 = .ok (.istore 13, 2) := by decide +kernel
theorem dX12_create_221 : decode cX12_create 221 = .ok (.aload_n 0, 1) := by decide +kernel
theorem dX12_create_222 : decode cX12_create 222 = .ok (.iload 13, 2) := by decide +kernel
theorem dX12_create_224 : decode cX12_create 224 = .ok (.invokevirtual 674, 3) := by decide +kernel
theorem dX12_create_227 : decode cX12_create 227 = .ok (.ifCond .ne 7, 3) := by decide +kernel
theorem dX12_create_230 : decode cX12_create 230 = .ok (.ldc2_w 677, 3) := by decide +kernel
theorem dX12_create_233 : decode cX12_create 233 = .ok (.lreturn, 1) := by decide +kernel
theorem dX12_create_234 : decode cX12_create 234 = .ok (.aload_n 0, 1) := by decide +kernel
theorem dX12_create_235 : decode cX12_create 235 = .ok (.bipush 67, 2) := by decide +kernel
theorem dX12_create_237 : decode cX12_create 237 = .ok (.invokevirtual 600, 3) := by decide +kernel
theorem dX12_create_240 : decode cX12_create 240 = .ok (.istore 14, 2) := by decide +kernel
theorem dX12_create_242 : decode cX12_create 242 = .ok (.iload 14, 2) := by decide +kernel
theorem dX12_create_244 : decode cX12_create 244 = .ok (.iconst 1, 1) := by decide +kernel
theorem dX12_create_245 : decode cX12_create 245 = .ok (.if_icmp .eq 17, 3) := by decide +kernel
theorem dX12_create_248 : decode cX12_create 248 = .ok (.iload 14, 2) := by decide +kernel
theorem dX12_create_250 : decode cX12_create 250 = .ok (.bipush 8, 2) := by decide +kernel
theorem dX12_create_252 : decode cX12_create 252 = .ok (.if_icmp .eq 10, 3) := by decide +kernel
theorem dX12_create_255 : decode cX12_create 255 = .ok (.iload 14, 2) := by decide +kernel
theorem dX12_create_257 : decode cX12_create 257 = .ok (.bipush 9, 2) := by decide +kernel
theorem dX12_create_259 : decode cX12_create 259 = .ok (.if_icmp .ne 8, 3) := by decide +kernel
theorem dX12_create_262 : decode cX12_create 262 = .ok (.iload 14, 2) := by decide +kernel
theorem dX12_create_264 : decode cX12_create 264 = .ok (.goto 4, 3) := by decide +kernel
theorem dX12_create_267 : decode cX12_create 267 = .ok (.iconst 0, 1) := by decide +kernel
theorem dX12_create_268 : decode cX12_create 268 = .ok (.istore 14, 2) := by decide +kernel
theorem dX12_create_270 : decode cX12_create 270 = .ok (.aload_n 0, 1) := by decide +kernel
theorem dX12_create_271 : decode cX12_create 271 = .ok (.bipush 92, 2) := by decide +kernel
theorem dX12_create_273 : decode cX12_create 273 = .ok (.iconst 4, 1) := by decide +kernel
theorem dX12_create_274 : decode cX12_create 274 = .ok (.invokevirtual 364, 3) := by decide +kernel
theorem dX12_create_277 : decode cX12_create 277 = .ok (.l2i, 1) := by decide +kernel
theorem dX12_create_278 : decode cX12_create 278 = .ok (.bipush 39, 2) := by decide +kernel
theorem dX12_create_280 : decode cX12_create 280 = .ok (.iand, 1) := by decide +kernel
theorem dX12_create_281 : decode cX12_create 281 = .ok (.bipush 32, 2) := by decide +kernel
theorem dX12_create_283 : decode cX12_create 283 = .ok (.ior, 1) := by decide +kernel
theorem dX12_create_284 : decode cX12_create 284 = .ok (.istore 15, 2) := by decide +kernel
theorem dX12_create_286 : decode cX12_create 286 = .ok (.aload_n 0, 1) := by decide +kernel
theorem dX12_create_287 : decode cX12_create 287 = .ok (.getfield 628, 3) := by decide +kernel
theorem dX12_create_290 : decode cX12_create 290 = .ok (.istore 16, 2) := by decide +kernel
theorem dX12_create_292 : decode cX12_create 292 = .ok (.iload 11, 2) := by decide +kernel
theorem dX12_create_294 : decode cX12_create 294 = .ok (.ifCond .eq 18, 3) := by decide +kernel
theorem dX12_create_297 : decode cX12_create 297 = .ok (.lload 4, 2) := by decide +kernel
theorem dX12_create_299 : decode cX12_create 299 = .ok (.lconst 0, 1) := by decide +kernel
theorem dX12_create_300 : decode cX12_create 300 = .ok (.lcmp, 1) := by decide +kernel
theorem dX12_create_301 : decode cX12_create 301 = .ok (.ifCond .ne 7, 3) := by decide +kernel
theorem dX12_create_304 : decode cX12_create 304 = .ok (.iconst 0, 1) := by decide +kernel
theorem dX12_create_305 : decode cX12_create 305 = .ok (.goto 8, 3) := by decide +kernel
theorem dX12_create_308 : decode cX12_create 308 = .ok (.iconst 3, 1) := by decide +kernel
theorem dX12_create_309 : decode cX12_create 309 = .ok (.goto 4, 3) := by decide +kernel
theorem dX12_create_312 : decode cX12_create 312 = .ok (.iconst 1, 1) := by decide +kernel
theorem dX12_create_313 : decode cX12_create 313 = .ok (.istore 17, 2) := by decide +kernel
theorem dX12_create_315 : decode cX12_create 315 = .ok (.iload 16, 2) := by decide +kernel
theorem dX12_create_317 : decode cX12_create 317 = .ok (.ifCond .lt 75, 3) := by decide +kernel
theorem dX12_create_320 : decode cX12_create 320 = .ok (.aload_n 0, 1) := by decide +kernel
theorem dX12_create_321 : decode cX12_create 321 = .ok (.iload 16, 2) := by decide +kernel
theorem dX12_create_323 : decode cX12_create 323 = .ok (.iload_n 1, 1) := by decide +kernel
theorem dX12_create_324 : decode cX12_create 324 = .ok (.iload 12, 2) := by decide +kernel
theorem dX12_create_326 : decode cX12_create 326 = .ok (.lload_n 2, 1) := by decide +kernel
theorem dX12_create_327 : decode cX12_create 327 = .ok (.l2i, 1) := by decide +kernel
theorem dX12_create_328 : decode cX12_create 328 = .ok (.lload 4, 2) := by decide +kernel
theorem dX12_create_330 : decode cX12_create 330 = .ok (.l2i, 1) := by decide +kernel
theorem dX12_create_331 : decode cX12_create 331 = .ok (.iload 8, 2) := by decide +kernel
theorem dX12_create_333 : decode cX12_create 333 = .ok (.iload 9, 2) := by decide +kernel
theorem dX12_create_335 : decode cX12_create 335 = .ok (.iload 10, 2) := by decide +kernel
theorem dX12_create_337 : decode cX12_create 337 = .ok (.iload 11, 2) := by decide +kernel
theorem dX12_create_339 : decode cX12_create 339 = .ok (.iload 13, 2) := by decide +kernel
theorem dX12_create_341 : decode cX12_create 341 = .ok (.invokevirtual 679, 3) := by decide +kernel
theorem dX12_create_344 : decode cX12_create 344 = .ok (.lstore 18, 2) := by decide +kernel
theorem dX12_create_346 : decode cX12_create 346 = .ok (.lload 18, 2) := by decide +kernel
theorem dX12_create_348 : decode cX12_create 348 = .ok (.lconst 0, 1) := by decide +kernel
theorem dX12_create_349 : decode cX12_create 349 = .ok (.lcmp, 1) := by decide +kernel
theorem dX12_create_350 : decode cX12_create 350 = .ok (.ifCond .eq 6, 3) := by decide +kernel
theorem dX12_create_353 : decode cX12_create 353 = .ok (.lload 18, 2) := by decide +kernel
theorem dX12_create_355 : decode cX12_create 355 = .ok (.lreturn, 1) := by decide +kernel
theorem dX12_create_356 : decode cX12_create 356 = .ok (.iload 11, 2) := by decide +kernel
theorem dX12_create_358 : decode cX12_create 358 = .ok (.ifCond .eq 31, 3) := by decide +kernel
theorem dX12_create_361 : decode cX12_create 361 = .ok (.aload_n 0, 1) := by decide +kernel
theorem dX12_create_362 : decode cX12_create 362 = .ok (.iload 16, 2) := by decide +kernel
theorem dX12_create_364 : decode cX12_create 364 = .ok (.lload 4, 2) := by decide +kernel
theorem dX12_create_366 : decode cX12_create 366 = .ok (.lconst 0, 1) := by decide +kernel
theorem dX12_create_367 : decode cX12_create 367 = .ok (.lcmp, 1) := by decide +kernel
theorem dX12_create_368 : decode cX12_create 368 = .ok (.ifCond .ne 8, 3) := by decide +kernel
theorem dX12_create_371 : decode cX12_create 371 = .ok (.iload 15, 2) := by decide +kernel
theorem dX12_create_373 : decode cX12_create 373 = .ok (.goto 13, 3) := by decide +kernel
theorem dX12_create_376 : decode cX12_create 376 = .ok (.aload_n 0, 1) := by decide +kernel
theorem dX12_create_377 : decode cX12_create 377 = .ok (.getfield 30, 3) := by decide +kernel
theorem dX12_create_380 : decode cX12_create 380 = .ok (.iload 16, 2) := by decide +kernel
theorem dX12_create_382 : decode cX12_create 382 = .ok (.iaload, 1) := by decide +kernel
theorem dX12_create_383 : decode cX12_create 383 = .ok (.iload 15, 2) := by decide +kernel
theorem dX12_create_385 : decode cX12_create 385 = .ok (.ior, 1) := by decide +kernel
theorem dX12_create_386 : decode cX12_create 386 = .ok (.invokevirtual 683, 3) := by decide +kernel
theorem dX12_create_389 : decode cX12_create 389 = .ok (.goto 86, 3) := by decide +kernel
theorem dX12_create_392 : decode cX12_create 392 = .ok (.lload 4, 2) := by decide +kernel
theorem dX12_create_394 : decode cX12_create 394 = .ok (.lconst 1, 1) := by decide +kernel
theorem dX12_create_395 : decode cX12_create 395 = .ok (.lcmp, 1) := by decide +kernel
theorem dX12_create_396 : decode cX12_create 396 = .ok (.ifCond .eq 12, 3) := by decide +kernel
theorem dX12_create_399 : decode cX12_create 399 = .ok (.lload 4, 2) := by decide +kernel
theorem dX12_create_401 : decode cX12_create 401 = .ok (.ldc2_w 410, 3) := by decide +kernel
theorem dX12_create_404 : decode cX12_create 404 = .ok (.lcmp, 1) := by decide +kernel
theorem dX12_create_405 : decode cX12_create 405 = .ok (.ifCond .ne 7, 3) := by decide +kernel
theorem dX12_create_408 : decode cX12_create 408 = .ok (.ldc2_w 686, 3) := by decide +kernel
theorem dX12_create_411 : decode cX12_create 411 = .ok (.lreturn, 1) := by decide +kernel
theorem dX12_create_412 : decode cX12_create 412 = .ok (.aload_n 0, 1) := by decide +kernel
theorem dX12_create_413 : decode cX12_create 413 = .ok (.aload_n 0, 1) := by decide +kernel
theorem dX12_create_414 : decode cX12_create 414 = .ok (.getfield 139, 3) := by decide +kernel
theorem dX12_create_417 : decode cX12_create 417 = .ok (.invokevirtual 688, 3) := by decide +kernel
theorem dX12_create_420 : decode cX12_create 420 = .ok (.bipush 40, 2) := by decide +kernel
theorem dX12_create_422 : decode cX12_create 422 = .ok (.if_icmp .ne 7, 3) := by decide +kernel
theorem dX12_create_425 : decode cX12_create 425 = .ok (.ldc2_w 607, 3) := by decide +kernel
theorem dX12_create_428 : decode cX12_create 428 = .ok (.lreturn, 1) := by decide +kernel
theorem dX12_create_429 : decode cX12_create 429 = .ok (.aload_n 0, 1) := by decide +kernel
theorem dX12_create_430 : decode cX12_create 430 = .ok (.iconst 0, 1) := by decide +kernel
theorem dX12_create_431 : decode cX12_create 431 = .ok (.invokevirtual 315, 3) := by decide +kernel
theorem dX12_create_434 : decode cX12_create 434 = .ok (.bipush 80, 2) := by decide +kernel
theorem dX12_create_436 : decode cX12_create 436 = .ok (.if_icmp .ne 7, 3) := by decide +kernel
theorem dX12_create_439 : decode cX12_create 439 = .ok (.ldc2_w 691, 3) := by decide +kernel
theorem dX12_create_442 : decode cX12_create 442 = .ok (.lreturn, 1) := by decide +kernel
theorem dX12_create_443 : decode cX12_create 443 = .ok (.aload_n 0, 1) := by decide +kernel
theorem dX12_create_444 : decode cX12_create 444 = .ok (.iload 8, 2) := by decide +kernel
theorem dX12_create_446 : decode cX12_create 446 = .ok (.iload 8, 2) := by decide +kernel
theorem dX12_create_448 : decode cX12_create 448 = .ok (.ifCond .eq 17, 3) := by decide +kernel
theorem dX12_create_451 : decode cX12_create 451 = .ok (.aload_n 0, 1) := by decide +kernel
theorem dX12_create_452 : decode cX12_create 452 = .ok (.bipush 92, 2) := by decide +kernel
theorem dX12_create_454 : decode cX12_create 454 = .ok (.iconst 4, 1) := by decide +kernel
theorem dX12_create_455 : decode cX12_create 455 = .ok (.invokevirtual 364, 3) := by decide +kernel
theorem dX12_create_458 : decode cX12_create 458 = .ok (.l2i, 1) := by decide +kernel
theorem dX12_create_459 : decode cX12_create 459 = .ok (.bipush 6, 2) := by decide +kernel
theorem dX12_create_461 : decode cX12_create 461 = .ok (.iand, 1) := by decide +kernel
theorem dX12_create_462 : decode cX12_create 462 = .ok (.goto 5, 3) := by decide +kernel
theorem dX12_create_465 : decode cX12_create 465 = .ok (.iload 15, 2) := by decide +kernel
theorem dX12_create_467 : decode cX12_create 467 = .ok (.invokevirtual 693, 3) := by decide +kernel
theorem dX12_create_470 : decode cX12_create 470 = .ok (.istore 16, 2) := by decide +kernel
theorem dX12_create_472 : decode cX12_create 472 = .ok (.iconst 2, 1) := by decide +kernel
theorem dX12_create_473 : decode cX12_create 473 = .ok (.istore 17, 2) := by decide +kernel
theorem dX12_create_475 : decode cX12_create 475 = .ok (.aload_n 0, 1) := by decide +kernel
theorem dX12_create_476 : decode cX12_create 476 = .ok (.iload 16, 2) := by decide +kernel
theorem dX12_create_478 : decode cX12_create 478 = .ok (.iload 14, 2) := by decide +kernel
theorem dX12_create_480 : decode cX12_create 480 = .ok (.invokevirtual 697, 3) := by decide +kernel
theorem dX12_create_483 : decode cX12_create 483 = .ok (.istore 18, 2) := by decide +kernel
theorem dX12_create_485 : decode cX12_create 485 = .ok (.aload_n 0, 1) := by decide +kernel
theorem dX12_create_486 : decode cX12_create 486 = .ok (.aload_n 0, 1) := by decide +kernel
theorem dX12_create_487 : decode cX12_create 487 = .ok (.getfield 139, 3) := by decide +kernel
theorem dX12_create_490 : decode cX12_create 490 = .ok (.invokevirtual 603, 3) := by decide +kernel
theorem dX12_create_493 : decode cX12_create 493 = .ok (.istore 19, 2) := by decide +kernel
theorem dX12_create_495 : decode cX12_create 495 = .ok (.aload_n 0, 1) := by decide +kernel
theorem dX12_create_496 : decode cX12_create 496 = .ok (.dup, 1) := by decide +kernel
theorem dX12_create_497 : decode cX12_create 497 = .ok (.getfield 302, 3) := by decide +kernel
theorem dX12_create_500 : decode cX12_create 500 = .ok (.lconst 1, 1) := by decide +kernel
theorem dX12_create_501 : decode cX12_create 501 = .ok (.ladd, 1) := by decide +kernel
theorem dX12_create_502 : decode cX12_create 502 = .ok (.putfield 302, 3) := by decide +kernel
theorem dX12_create_505 : decode cX12_create 505 = .ok (.aload_n 0, 1) := by decide +kernel
theorem dX12_create_506 : decode cX12_create 506 = .ok (.getfield 139, 3) := by decide +kernel
theorem dX12_create_509 : decode cX12_create 509 = .ok (.iload 19, 2) := by decide +kernel
theorem dX12_create_511 : decode cX12_create 511 = .ok (.aload_n 0, 1) := by decide +kernel
theorem dX12_create_512 : decode cX12_create 512 = .ok (.getfield 302, 3) := by decide +kernel
theorem dX12_create_515 : decode cX12_create 515 = .ok (.lastore, 1) := by decide +kernel
theorem dX12_create_516 : decode cX12_create 516 = .ok (.aload_n 0, 1) := by decide +kernel
theorem dX12_create_517 : decode cX12_create 517 = .ok (.getfield 142, 3) := by decide +kernel
theorem dX12_create_520 : decode cX12_create 520 = .ok (.iload 19, 2) := by decide +kernel
theorem dX12_create_522 : decode cX12_create 522 = .ok (.aload_n 0, 1) := by decide +kernel
theorem dX12_create_523 : decode cX12_create 523 = .ok (.getfield 498, 3) := by decide +kernel
theorem dX12_create_526 : decode cX12_create 526 = .ok (.iastore, 1) := by decide +kernel
theorem dX12_create_527 : decode cX12_create 527 = .ok (.aload_n 0, 1) := by decide +kernel
theorem dX12_create_528 : decode cX12_create 528 = .ok (.getfield 145, 3) := by decide +kernel
theorem dX12_create_531 : decode cX12_create 531 = .ok (.iload 19, 2) := by decide +kernel
theorem dX12_create_533 : decode cX12_create 533 = .ok (.iload 16, 2) := by decide +kernel
theorem dX12_create_535 : decode cX12_create 535 = .ok (.iastore, 1) := by decide +kernel
theorem dX12_create_536 : decode cX12_create 536 = .ok (.aload_n 0, 1) := by decide +kernel
theorem dX12_create_537 : decode cX12_create 537 = .ok (.getfield 148, 3) := by decide +kernel
theorem dX12_create_540 : decode cX12_create 540 = .ok (.iload 19, 2) := by decide +kernel
theorem dX12_create_542 : decode cX12_create 542 = .ok (.iload 12, 2) := by decide +kernel
theorem dX12_create_544 : decode cX12_create 544 = .ok (.iastore, 1) := by decide +kernel
theorem dX12_create_545 : decode cX12_create 545 = .ok (.aload_n 0, 1) := by decide +kernel
theorem dX12_create_546 : decode cX12_create 546 = .ok (.getfield 151, 3) := by decide +kernel
theorem dX12_create_549 : decode cX12_create 549 = .ok (.iload 19, 2) := by decide +kernel
theorem dX12_create_551 : decode cX12_create 551 = .ok (.lload_n 2, 1) := by decide +kernel
theorem dX12_create_552 : decode cX12_create 552 = .ok (.l2i, 1) := by decide +kernel
theorem dX12_create_553 : decode cX12_create 553 = .ok (.iastore, 1) := by decide +kernel
theorem dX12_create_554 : decode cX12_create 554 = .ok (.aload_n 0, 1) := by decide +kernel
theorem dX12_create_555 : decode cX12_create 555 = .ok (.getfield 154, 3) := by decide +kernel
theorem dX12_create_558 : decode cX12_create 558 = .ok (.iload 19, 2) := by decide +kernel
theorem dX12_create_560 : decode cX12_create 560 = .ok (.iload 18, 2) := by decide +kernel
theorem dX12_create_562 : decode cX12_create 562 = .ok (.iastore, 1) := by decide +kernel
theorem dX12_create_563 : decode cX12_create 563 = .ok (.aload_n 0, 1) := by decide +kernel
theorem dX12_create_564 : decode cX12_create 564 = .ok (.getfield 157, 3) := by decide +kernel
theorem dX12_create_567 : decode cX12_create 567 = .ok (.iload 19, 2) := by decide +kernel
theorem dX12_create_569 : decode cX12_create 569 = .ok (.iconst 0, 1) := by decide +kernel
theorem dX12_create_570 : decode cX12_create 570 = .ok (.bastore, 1) := by decide +kernel
theorem dX12_create_571 : decode cX12_create 571 = .ok (.aload_n 0, 1) := by decide +kernel
theorem dX12_create_572 : decode cX12_create 572 = .ok (.getfield 166, 3) := by decide +kernel
theorem dX12_create_575 : decode cX12_create 575 = .ok (.iload 19, 2) := by decide +kernel
theorem dX12_create_577 : decode cX12_create 577 = .ok (.iload 10, 2) := by decide +kernel
theorem dX12_create_579 : decode cX12_create 579 = .ok (.bastore, 1) := by decide +kernel
theorem dX12_create_580 : decode cX12_create 580 = .ok (.aload_n 0, 1) := by decide +kernel
theorem dX12_create_581 : decode cX12_create 581 = .ok (.getfield 169, 3) := by decide +kernel
theorem dX12_create_584 : decode cX12_create 584 = .ok (.iload 19, 2) := by decide +kernel
theorem dX12_create_586 : decode cX12_create 586 = .ok (.iconst (-1), 1) := by decide +kernel
theorem dX12_create_587 : decode cX12_create 587 = .ok (.iastore, 1) := by decide +kernel
theorem dX12_create_588 : decode cX12_create 588 = .ok (.aload_n 0, 1) := by decide +kernel
theorem dX12_create_589 : decode cX12_create 589 = .ok (.getfield 175, 3) := by decide +kernel
theorem dX12_create_592 : decode cX12_create 592 = .ok (.iload 19, 2) := by decide +kernel
theorem dX12_create_594 : decode cX12_create 594 = .ok (.iconst 0, 1) := by decide +kernel
theorem dX12_create_595 : decode cX12_create 595 = .ok (.iastore, 1) := by decide +kernel
theorem dX12_create_596 : decode cX12_create 596 = .ok (.aload_n 0, 1) := by decide +kernel
theorem dX12_create_597 : decode cX12_create 597 = .ok (.aload_n 0, 1) := by decide +kernel
theorem dX12_create_598 : decode cX12_create 598 = .ok (.getfield 302, 3) := by decide +kernel
theorem dX12_create_601 : decode cX12_create 601 = .ok (.putfield 443, 3) := by decide +kernel
theorem dX12_create_604 : decode cX12_create 604 = .ok (.aload_n 0, 1) := by decide +kernel
theorem dX12_create_605 : decode cX12_create 605 = .ok (.bipush 88, 2) := by decide +kernel
theorem dX12_create_607 : decode cX12_create 607 = .ok (.invokevirtual 456, 3) := by decide +kernel
theorem dX12_create_610 : decode cX12_create 610 = .ok (.aload_n 0, 1) := by decide +kernel
theorem dX12_create_611 : decode cX12_create 611 = .ok (.bipush 64, 2) := by decide +kernel
theorem dX12_create_613 : decode cX12_create 613 = .ok (.iconst 2, 1) := by decide +kernel
theorem dX12_create_614 : decode cX12_create 614 = .ok (.ldc2_w 700, 3) := by decide +kernel
theorem dX12_create_617 : decode cX12_create 617 = .ok (.invokevirtual 376, 3) := by decide +kernel
theorem dX12_create_620 : decode cX12_create 620 = .ok (.aload_n 0, 1) := by decide +kernel
theorem dX12_create_621 : decode cX12_create 621 = .ok (.bipush 66, 2) := by decide +kernel
theorem dX12_create_623 : decode cX12_create 623 = .ok (.iconst 1, 1) := by decide +kernel
theorem dX12_create_624 : decode cX12_create 624 = .ok (.iload 18, 2) := by decide +kernel
theorem dX12_create_626 : decode cX12_create 626 = .ok (.i2l, 1) := by decide +kernel
theorem dX12_create_627 : decode cX12_create 627 = .ok (.invokevirtual 376, 3) := by decide +kernel
theorem dX12_create_630 : decode cX12_create 630 = .ok (.aload_n 0, 1) := by decide +kernel
theorem dX12_create_631 : decode cX12_create 631 = .ok (.bipush 68, 2) := by decide +kernel
theorem dX12_create_633 : decode cX12_create 633 = .ok (.iconst 4, 1) := by decide +kernel
theorem dX12_create_634 : decode cX12_create 634 = .ok (.iload 17, 2) := by decide +kernel
theorem dX12_create_636 : decode cX12_create 636 = .ok (.i2l, 1) := by decide +kernel
theorem dX12_create_637 : decode cX12_create 637 = .ok (.invokevirtual 376, 3) := by decide +kernel
theorem dX12_create_640 : decode cX12_create 640 = .ok (.aload_n 0, 1) := by decide +kernel
theorem dX12_create_641 : decode cX12_create 641 = .ok (.bipush 72, 2) := by decide +kernel
theorem dX12_create_643 : decode cX12_create 643 = .ok (.iload 16, 2) := by decide +kernel
theorem dX12_create_645 : decode cX12_create 645 = .ok (.invokevirtual 702, 3) := by decide +kernel
theorem dX12_create_648 : decode cX12_create 648 = .ok (.aload_n 0, 1) := by decide +kernel
theorem dX12_create_649 : decode cX12_create 649 = .ok (.bipush 104, 2) := by decide +kernel
theorem dX12_create_651 : decode cX12_create 651 = .ok (.bipush 8, 2) := by decide +kernel
theorem dX12_create_653 : decode cX12_create 653 = .ok (.aload_n 0, 1) := by decide +kernel
theorem dX12_create_654 : decode cX12_create 654 = .ok (.iload 16, 2) := by decide +kernel
theorem dX12_create_656 : decode cX12_create 656 = .ok (.invokevirtual 705, 3) := by decide +kernel
theorem dX12_create_659 : decode cX12_create 659 = .ok (.i2l, 1) := by decide +kernel
theorem dX12_create_660 : decode cX12_create 660 = .ok (.invokevirtual 376, 3) := by decide +kernel
theorem dX12_create_663 : decode cX12_create 663 = .ok (.aload_n 0, 1) := by decide +kernel
theorem dX12_create_664 : decode cX12_create 664 = .ok (.bipush 112, 2) := by decide +kernel
theorem dX12_create_666 : decode cX12_create 666 = .ok (.bipush 8, 2) := by decide +kernel
theorem dX12_create_668 : decode cX12_create 668 = .ok (.aload_n 0, 1) := by decide +kernel
theorem dX12_create_669 : decode cX12_create 669 = .ok (.getfield 37, 3) := by decide +kernel
theorem dX12_create_672 : decode cX12_create 672 = .ok (.iload 16, 2) := by decide +kernel
theorem dX12_create_674 : decode cX12_create 674 = .ok (.iaload, 1) := by decide +kernel
theorem dX12_create_675 : decode cX12_create 675 = .ok (.i2l, 1) := by decide +kernel
theorem dX12_create_676 : decode cX12_create 676 = .ok (.invokevirtual 376, 3) := by decide +kernel
theorem dX12_create_679 : decode cX12_create 679 = .ok (.aload_n 0, 1) := by decide +kernel
theorem dX12_create_680 : decode cX12_create 680 = .ok (.bipush 120, 2) := by decide +kernel
theorem dX12_create_682 : decode cX12_create 682 = .ok (.iconst 4, 1) := by decide +kernel
theorem dX12_create_683 : decode cX12_create 683 = .ok (.aload_n 0, 1) := by decide +kernel
theorem dX12_create_684 : decode cX12_create 684 = .ok (.iload 16, 2) := by decide +kernel
theorem dX12_create_686 : decode cX12_create 686 = .ok (.invokevirtual 708, 3) := by decide +kernel
theorem dX12_create_689 : decode cX12_create 689 = .ok (.i2l, 1) := by decide +kernel
theorem dX12_create_690 : decode cX12_create 690 = .ok (.invokevirtual 376, 3) := by decide +kernel
theorem dX12_create_693 : decode cX12_create 693 = .ok (.aload_n 0, 1) := by decide +kernel
theorem dX12_create_694 : decode cX12_create 694 = .ok (.sipush 128, 3) := by decide +kernel
theorem dX12_create_697 : decode cX12_create 697 = .ok (.bipush 8, 2) := by decide +kernel
theorem dX12_create_699 : decode cX12_create 699 = .ok (.aload_n 0, 1) := by decide +kernel
theorem dX12_create_700 : decode cX12_create 700 = .ok (.getfield 302, 3) := by decide +kernel
theorem dX12_create_703 : decode cX12_create 703 = .ok (.invokevirtual 376, 3) := by decide +kernel
theorem dX12_create_706 : decode cX12_create 706 = .ok (.aload_n 0, 1) := by decide +kernel
theorem dX12_create_707 : decode cX12_create 707 = .ok (.sipush 136, 3) := by decide +kernel
theorem dX12_create_710 : decode cX12_create 710 = .ok (.bipush 8, 2) := by decide +kernel
theorem dX12_create_712 : decode cX12_create 712 = .ok (.aload_n 0, 1) := by decide +kernel
theorem dX12_create_713 : decode cX12_create 713 = .ok (.getfield 302, 3) := by decide +kernel
theorem dX12_create_716 : decode cX12_create 716 = .ok (.invokevirtual 376, 3) := by decide +kernel
theorem dX12_create_719 : decode cX12_create 719 = .ok (.lconst 0, 1) := by decide +kernel
theorem dX12_create_720 : decode cX12_create 720 = .ok (.lreturn, 1) := by decide +kernel
set_option maxRecDepth 100000 in
set_option maxHeartbeats 4000000 in
theorem c_X12_create (l : Launch) (D : va_G) (t : Nat → ClassId) (h0 : Nat) (L : Nat → Nat) (σ : HS) (hM : MdI h0 L σ) (a1 : Int32) (post : Int64 → HS → Prop) (hw : F_X12_create h0 L a1 post σ) (sz : Nat) : RMl l D t yX12_create cX12_create 20 (some .long) ({ frames := 6, cells := 0, slots := 0, locals := 139 }) h0 L σ sz [.ref h0, .int a1] post := by
  refine h_go (τ := τT) okT (by decide) (Nat.le_of_ble_eq_true rfl) ?_
  intro p e s m below meth c ls A hF hr hlk hAe hH0 hA hl
  unfold hB
  rw [hAe]
  clear hAe
  have hF : FX p m c cX12_create 20 s _ RX12 D t := hF
  have hx := hF.1.1
  have hb := hF.1.2.1
  have hH : RT D t A s.heap h0 L σ s.heap [] := ⟨hH0, hM⟩
  have hl : lv_has ls 20 [(0, .ref h0), (1, .int a1)] := hl
  unfold F_X12_create at hw
  refine lv_aload_n hx hb dX12_create_0 rfl (lv_at hl 0 rfl) ?_
  refine lv_bipush (v := 96) hx hb dX12_create_1 (by decide) ?_
  refine lv_iconst (v := 4) hx hb dX12_create_3 (by decide) ?_
  refine w_cVl (As := [.int 96, .int 4]) (rest := []) hF hH hA mv_X12_364 (fun sz => c_X12_number l D t h0 L _ hH.2 96 4 _ hw sz) dX12_create_4 rfl rfl (by decide) rfl hl.1 (Nat.le_of_ble_eq_true rfl) (by decide) rfl (fun z2 σ1 H locs hw hH => ?_)
  refine lv_lstore_n (lv' := [(2, .long z2), (0, .ref h0), (1, .int a1)]) hx hb dX12_create_7 rfl hl (by decide) rfl (fun ls hl => ?_)
  refine lv_aload_n hx hb dX12_create_8 rfl (lv_at hl 1 rfl) ?_
  refine lv_bipush (v := 100) hx hb dX12_create_9 (by decide) ?_
  refine lv_iconst (v := 4) hx hb dX12_create_11 (by decide) ?_
  refine w_cVl (As := [.int 100, .int 4]) (rest := []) hF hH hA mv_X12_364 (fun sz => c_X12_number l D t h0 L _ hH.2 100 4 _ hw sz) dX12_create_12 rfl rfl (by decide) rfl hl.1 (Nat.le_of_ble_eq_true rfl) (by decide) rfl (fun z4 σ3 H locs hw hH => ?_)
  refine lv_lstore (lv' := [(4, .long z4), (2, .long z2), (0, .ref h0), (1, .int a1)]) hx hb dX12_create_15 hl (by decide) rfl (fun ls hl => ?_)
  refine lv_aload_n hx hb dX12_create_17 rfl (lv_at hl 2 rfl) ?_
  refine lv_bipush (v := 104) hx hb dX12_create_18 (by decide) ?_
  refine lv_iconst (v := 4) hx hb dX12_create_20 (by decide) ?_
  refine w_cVl (As := [.int 104, .int 4]) (rest := []) hF hH hA mv_X12_364 (fun sz => c_X12_number l D t h0 L _ hH.2 104 4 _ hw sz) dX12_create_21 rfl rfl (by decide) rfl hl.1 (Nat.le_of_ble_eq_true rfl) (by decide) rfl (fun z6 σ5 H locs hw hH => ?_)
  refine lv_lstore (lv' := [(6, .long z6), (4, .long z4), (2, .long z2), (0, .ref h0), (1, .int a1)]) hx hb dX12_create_24 hl (by decide) rfl (fun ls hl => ?_)
  refine lv_lload hx hb dX12_create_26 (lv_at hl 0 rfl) ?_
  refine lv_lconst (v := 1) hx hb dX12_create_28 (by decide) ?_
  refine lv_land hx hb dX12_create_29 ?_
  refine w_nml hw (fun z7 hw => ?_)
  refine lv_lconst (v := 0) hx hb dX12_create_30 (by decide) ?_
  obtain ⟨K10, hK11, hw⟩ := jn_open hw
  refine w_join (K := K10) 40 (fun (x8 : Int32) => [(6, .long z6), (4, .long z4), (2, .long z2), (1, .int a1), (0, .ref h0)]) (fun (x8 : Int32) => [.int x8]) hl hH (fun x8 σ9 ls H locs hl hw hH => ?_) (fun jn12 => ?_)
  · have hw := hK11 x8 σ9 hw
    have hl : lv_has ls 20 [(6, .long z6), (4, .long z4), (2, .long z2), (1, .int a1), (0, .ref h0)] := hl
    refine lv_istore (lv' := [(8, .int x8), (6, .long z6), (4, .long z4), (2, .long z2), (1, .int a1), (0, .ref h0)]) hx hb dX12_create_40 hl (by decide) rfl (fun ls hl => ?_)
    refine lv_lload hx hb dX12_create_42 (lv_at hl 1 rfl) ?_
    refine lv_ldc2 (v := 64) hx hb hF.1.2.2.2.1 (hF.1.2.2.2.2 _ (wc_47 21 rfl)) dX12_create_44 ?_
    refine lv_land hx hb dX12_create_47 ?_
    refine w_nml hw (fun z13 hw => ?_)
    refine lv_lconst (v := 0) hx hb dX12_create_48 (by decide) ?_
    obtain ⟨K16, hK17, hw⟩ := jn_open hw
    refine w_join (K := K16) 58 (fun (x14 : Int32) => [(8, .int x8), (6, .long z6), (4, .long z4), (2, .long z2), (1, .int a1), (0, .ref h0)]) (fun (x14 : Int32) => [.int x14]) hl hH (fun x14 σ15 ls H locs hl hw hH => ?_) (fun jn18 => ?_)
    · have hw := hK17 x14 σ15 hw
      have hl : lv_has ls 20 [(8, .int x8), (6, .long z6), (4, .long z4), (2, .long z2), (1, .int a1), (0, .ref h0)] := hl
      refine lv_istore (lv' := [(9, .int x14), (8, .int x8), (6, .long z6), (4, .long z4), (2, .long z2), (1, .int a1), (0, .ref h0)]) hx hb dX12_create_58 hl (by decide) rfl (fun ls hl => ?_)
      refine lv_lload hx hb dX12_create_60 (lv_at hl 2 rfl) ?_
      refine lv_ldc2 (v := 4096) hx hb hF.1.2.2.2.1 (hF.1.2.2.2.2 _ (wc_48 13 rfl)) dX12_create_62 ?_
      refine lv_land hx hb dX12_create_65 ?_
      refine w_nml hw (fun z19 hw => ?_)
      refine lv_lconst (v := 0) hx hb dX12_create_66 (by decide) ?_
      obtain ⟨K22, hK23, hw⟩ := jn_open hw
      refine w_join (K := K22) 76 (fun (x20 : Int32) => [(9, .int x14), (8, .int x8), (4, .long z4), (2, .long z2), (1, .int a1), (0, .ref h0)]) (fun (x20 : Int32) => [.int x20]) hl hH (fun x20 σ21 ls H locs hl hw hH => ?_) (fun jn24 => ?_)
      · have hw := hK23 x20 σ21 hw
        have hl : lv_has ls 20 [(9, .int x14), (8, .int x8), (4, .long z4), (2, .long z2), (1, .int a1), (0, .ref h0)] := hl
        refine lv_istore (lv' := [(10, .int x20), (9, .int x14), (8, .int x8), (4, .long z4), (2, .long z2), (1, .int a1), (0, .ref h0)]) hx hb dX12_create_76 hl (by decide) rfl (fun ls hl => ?_)
        refine lv_lload hx hb dX12_create_78 (lv_at hl 3 rfl) ?_
        refine lv_lconst (v := 0) hx hb dX12_create_80 (by decide) ?_
        obtain ⟨K27, hK28, hw⟩ := jn_open hw
        refine w_join (K := K27) 108 (fun (x25 : Int32) => [(10, .int x20), (9, .int x14), (8, .int x8), (4, .long z4), (2, .long z2), (1, .int a1), (0, .ref h0)]) (fun (x25 : Int32) => [.int x25]) hl hH (fun x25 σ26 ls H locs hl hw hH => ?_) (fun jn29 => ?_)
        · have hw := hK28 x25 σ26 hw
          have hl : lv_has ls 20 [(10, .int x20), (9, .int x14), (8, .int x8), (4, .long z4), (2, .long z2), (1, .int a1), (0, .ref h0)] := hl
          refine lv_istore (lv' := [(11, .int x25), (10, .int x20), (9, .int x14), (8, .int x8), (4, .long z4), (2, .long z2), (1, .int a1), (0, .ref h0)]) hx hb dX12_create_108 hl (by decide) rfl (fun ls hl => ?_)
          refine lv_lload_n hx hb dX12_create_110 rfl (lv_at hl 5 rfl) ?_
          refine lv_ldc2 (v := 7) hx hb hF.1.2.2.2.1 (hF.1.2.2.2.2 _ (wc_48 15 rfl)) dX12_create_111 ?_
          obtain ⟨K32, hK33, hw⟩ := jn_open hw
          refine w_join (K := K32) 142 (fun (x30 : Unit) => []) (fun (x30 : Unit) => []) hl hH (fun x30 σ31 ls H locs hl hw hH => ?_) (fun jn34 => ?_)
          · have hw := hK33 x30 σ31 hw
            have hl : lv_has ls 20 [] := hl
            refine lv_ldc2 (v := 3221225485) hx hb hF.1.2.2.2.1 (hF.1.2.2.2.2 _ (wc_47 33 rfl)) dX12_create_142 ?_
            exact w_retl hF hH hr hlk dX12_create_145 hw
          · skip
            refine w_lif_gt (tgt := 142) hF dX12_create_114 dX12_create_115 rfl hw (fun hw => ?_) (fun hw => ?_)
            · have hl : lv_has ls 20 [] := lv_sub hl [] rfl
              exact jn34 () σ26 ls _ _ hl hw hH
            · refine lv_lload hx hb dX12_create_118 (lv_at hl 4 rfl) ?_
              refine lv_ldc2 (v := 5) hx hb hF.1.2.2.2.1 (hF.1.2.2.2.2 _ (wc_48 14 rfl)) dX12_create_120 ?_
              refine w_lif_gt (tgt := 142) hF dX12_create_123 dX12_create_124 rfl hw (fun hw => ?_) (fun hw => ?_)
              · have hl : lv_has ls 20 [] := lv_sub hl [] rfl
                exact jn34 () σ26 ls _ _ hl hw hH
              · refine lv_iload hx hb dX12_create_127 (lv_at hl 3 rfl) ?_
                obtain ⟨K37, hK38, hw⟩ := jn_open hw
                refine w_join (K := K37) 146 (fun (x35 : Unit) => [(11, .int x25), (10, .int x20), (9, .int x14), (8, .int x8), (4, .long z4), (2, .long z2), (1, .int a1), (0, .ref h0)]) (fun (x35 : Unit) => []) hl hH (fun x35 σ36 ls H locs hl hw hH => ?_) (fun jn39 => ?_)
                · have hw := hK38 x35 σ36 hw
                  have hl : lv_has ls 20 [(11, .int x25), (10, .int x20), (9, .int x14), (8, .int x8), (4, .long z4), (2, .long z2), (1, .int a1), (0, .ref h0)] := hl
                  refine lv_aload_n hx hb dX12_create_146 rfl (lv_at hl 7 rfl) ?_
                  refine lv_bipush (v := 88) hx hb dX12_create_147 (by decide) ?_
                  refine lv_iconst (v := 4) hx hb dX12_create_149 (by decide) ?_
                  refine w_cVl (As := [.int 88, .int 4]) (rest := []) hF hH hA mv_X12_364 (fun sz => c_X12_number l D t h0 L _ hH.2 88 4 _ hw sz) dX12_create_150 rfl rfl (by decide) rfl hl.1 (Nat.le_of_ble_eq_true rfl) (by decide) rfl (fun z41 σ40 H locs hw hH => ?_)
                  refine w_cSi (As := [.long z41]) (rest := []) hF hH hA ms_X12_664 (fun sz => c_X12_meant l D t h0 L _ hH.2 z41 _ hw sz) dX12_create_153 rfl rfl (by decide) rfl hl.1 (Nat.le_of_ble_eq_true rfl) (by decide) rfl (fun z43 σ42 H locs hw hH => ?_)
                  refine lv_istore (lv' := [(12, .int z43), (11, .int x25), (10, .int x20), (9, .int x14), (8, .int x8), (4, .long z4), (2, .long z2), (1, .int a1), (0, .ref h0)]) hx hb dX12_create_156 hl (by decide) rfl (fun ls hl => ?_)
                  refine lv_iload hx hb dX12_create_158 (lv_at hl 0 rfl) ?_
                  obtain ⟨K46, hK47, hw⟩ := jn_open hw
                  refine w_join (K := K46) 177 (fun (x44 : Unit) => []) (fun (x44 : Unit) => []) hl hH (fun x44 σ45 ls H locs hl hw hH => ?_) (fun jn48 => ?_)
                  · have hw := hK47 x44 σ45 hw
                    have hl : lv_has ls 20 [] := hl
                    refine lv_ldc2 (v := 3221225506) hx hb hF.1.2.2.2.1 (hF.1.2.2.2.2 _ (wc_53 35 rfl)) dX12_create_177 ?_
                    exact w_retl hF hH hr hlk dX12_create_180 hw
                  · skip
                    refine w_if_eq (tgt := 177) hF dX12_create_160 rfl hw (fun hw => ?_) (fun hw => ?_)
                    · have hl : lv_has ls 20 [] := lv_sub hl [] rfl
                      exact jn48 () σ42 ls _ _ hl hw hH
                    · refine lv_iload hx hb dX12_create_163 (lv_at hl 2 rfl) ?_
                      obtain ⟨K51, hK52, hw⟩ := jn_open hw
                      refine w_join (K := K51) 181 (fun (x49 : Unit) => [(12, .int z43), (11, .int x25), (10, .int x20), (9, .int x14), (8, .int x8), (4, .long z4), (2, .long z2), (1, .int a1), (0, .ref h0)]) (fun (x49 : Unit) => []) hl hH (fun x49 σ50 ls H locs hl hw hH => ?_) (fun jn53 => ?_)
                      · have hw := hK52 x49 σ50 hw
                        have hl : lv_has ls 20 [(12, .int z43), (11, .int x25), (10, .int x20), (9, .int x14), (8, .int x8), (4, .long z4), (2, .long z2), (1, .int a1), (0, .ref h0)] := hl
                        refine lv_aload_n hx hb dX12_create_181 rfl (lv_at hl 8 rfl) ?_
                        refine lv_aload_n hx hb dX12_create_182 rfl (lv_at hl 8 rfl) ?_
                        refine lv_bipush (v := 108) hx hb dX12_create_183 (by decide) ?_
                        refine w_cVi (As := [.int 108]) (rest := [.ref h0]) hF hH hA mv_X12_415 (fun sz => c_X12_number2 l D t h0 L _ hH.2 108 _ hw sz) dX12_create_185 rfl rfl (by decide) rfl hl.1 (Nat.le_of_ble_eq_true rfl) (by decide) rfl (fun z55 σ54 H locs hw hH => ?_)
                        refine lv_aload_n hx hb dX12_create_188 rfl (lv_at hl 8 rfl) ?_
                        refine lv_bipush (v := 110) hx hb dX12_create_189 (by decide) ?_
                        refine w_cVi (As := [.int 110]) (rest := [.int z55, .ref h0]) hF hH hA mv_X12_415 (fun sz => c_X12_number2 l D t h0 L _ hH.2 110 _ hw sz) dX12_create_191 rfl rfl (by decide) rfl hl.1 (Nat.le_of_ble_eq_true rfl) (by decide) rfl (fun z57 σ56 H locs hw hH => ?_)
                        refine lv_i2l hx hb dX12_create_194 rfl ?_
                        refine w_nml hw (fun z58 hw => ?_)
                        refine w_cVi (As := [.int z55, .long z58]) (rest := []) hF hH hA mv_X12_669 (fun sz => c_X12_readPath l D t h0 L _ hH.2 z55 z58 _ hw sz) dX12_create_195 rfl rfl (by decide) rfl hl.1 (Nat.le_of_ble_eq_true rfl) (by decide) rfl (fun z60 σ59 H locs hw hH => ?_)
                        refine w_if_ne (tgt := 205) hF dX12_create_198 rfl hw (fun hw => ?_) (fun hw => ?_)
                        · refine lv_aload_n hx hb dX12_create_205 rfl (lv_at hl 8 rfl) ?_
                          refine w_getA 11 hF hH fk_X12_47 dX12_create_206 (by decide) rfl ?_
                          refine lv_aload_n hx hb dX12_create_209 rfl (lv_at hl 8 rfl) ?_
                          refine w_getA 40 hF hH fk_X12_136 dX12_create_210 (by decide) rfl ?_
                          refine lv_aload_n hx hb dX12_create_213 rfl (lv_at hl 8 rfl) ?_
                          refine w_getI hF hH fk_X12_498 dX12_create_214 hw (fun z61 hw => ?_)
                          refine w_iald 40 16 hF hH dX12_create_217 (by decide) rfl rfl hw (fun z62 hw => ?_)
                          refine w_iald 11 4 hF hH dX12_create_218 (by decide) rfl rfl hw (fun z63 hw => ?_)
                          refine lv_istore (lv' := [(13, .int z63), (12, .int z43), (11, .int x25), (10, .int x20), (9, .int x14), (8, .int x8), (4, .long z4), (2, .long z2), (1, .int a1), (0, .ref h0)]) hx hb dX12_create_219 hl (by decide) rfl (fun ls hl => ?_)
                          refine lv_aload_n hx hb dX12_create_221 rfl (lv_at hl 9 rfl) ?_
                          refine lv_iload hx hb dX12_create_222 (lv_at hl 0 rfl) ?_
                          refine w_cVi (As := [.int z63]) (rest := []) hF hH hA mv_X12_674 (fun sz => c_X12_goes l D t h0 L _ hH.2 z63 _ hw sz) dX12_create_224 rfl rfl (by decide) rfl hl.1 (Nat.le_of_ble_eq_true rfl) (by decide) rfl (fun z65 σ64 H locs hw hH => ?_)
                          refine w_if_ne (tgt := 234) hF dX12_create_227 rfl hw (fun hw => ?_) (fun hw => ?_)
                          · refine lv_aload_n hx hb dX12_create_234 rfl (lv_at hl 9 rfl) ?_
                            refine lv_bipush (v := 67) hx hb dX12_create_235 (by decide) ?_
                            refine w_cVi (As := [.int 67]) (rest := []) hF hH hA mv_X12_600 (fun sz => c_X12_number1 l D t h0 L _ hH.2 67 _ hw sz) dX12_create_237 rfl rfl (by decide) rfl hl.1 (Nat.le_of_ble_eq_true rfl) (by decide) rfl (fun z67 σ66 H locs hw hH => ?_)
                            refine lv_istore (lv' := [(14, .int z67), (13, .int z63), (12, .int z43), (11, .int x25), (10, .int x20), (9, .int x14), (8, .int x8), (4, .long z4), (2, .long z2), (1, .int a1), (0, .ref h0)]) hx hb dX12_create_240 hl (by decide) rfl (fun ls hl => ?_)
                            refine lv_iload hx hb dX12_create_242 (lv_at hl 0 rfl) ?_
                            refine lv_iconst (v := 1) hx hb dX12_create_244 (by decide) ?_
                            obtain ⟨K70, hK71, hw⟩ := jn_open hw
                            refine w_join (K := K70) 268 (fun (x68 : Int32) => [(13, .int z63), (12, .int z43), (11, .int x25), (10, .int x20), (9, .int x14), (8, .int x8), (4, .long z4), (2, .long z2), (1, .int a1), (0, .ref h0)]) (fun (x68 : Int32) => [.int x68]) hl hH (fun x68 σ69 ls H locs hl hw hH => ?_) (fun jn72 => ?_)
                            · have hw := hK71 x68 σ69 hw
                              have hl : lv_has ls 20 [(13, .int z63), (12, .int z43), (11, .int x25), (10, .int x20), (9, .int x14), (8, .int x8), (4, .long z4), (2, .long z2), (1, .int a1), (0, .ref h0)] := hl
                              refine lv_istore (lv' := [(14, .int x68), (13, .int z63), (12, .int z43), (11, .int x25), (10, .int x20), (9, .int x14), (8, .int x8), (4, .long z4), (2, .long z2), (1, .int a1), (0, .ref h0)]) hx hb dX12_create_268 hl (by decide) rfl (fun ls hl => ?_)
                              refine lv_aload_n hx hb dX12_create_270 rfl (lv_at hl 10 rfl) ?_
                              refine lv_bipush (v := 92) hx hb dX12_create_271 (by decide) ?_
                              refine lv_iconst (v := 4) hx hb dX12_create_273 (by decide) ?_
                              refine w_cVl (As := [.int 92, .int 4]) (rest := []) hF hH hA mv_X12_364 (fun sz => c_X12_number l D t h0 L _ hH.2 92 4 _ hw sz) dX12_create_274 rfl rfl (by decide) rfl hl.1 (Nat.le_of_ble_eq_true rfl) (by decide) rfl (fun z74 σ73 H locs hw hH => ?_)
                              refine lv_l2i hx hb dX12_create_277 rfl ?_
                              refine w_nmi hw (fun z75 hw => ?_)
                              refine lv_bipush (v := 39) hx hb dX12_create_278 (by decide) ?_
                              refine lv_iand hx hb dX12_create_280 ?_
                              refine w_nmi hw (fun z76 hw => ?_)
                              refine lv_bipush (v := 32) hx hb dX12_create_281 (by decide) ?_
                              refine lv_ior hx hb dX12_create_283 ?_
                              refine w_nmi hw (fun z77 hw => ?_)
                              refine lv_istore (lv' := [(15, .int z77), (14, .int x68), (13, .int z63), (12, .int z43), (11, .int x25), (10, .int x20), (9, .int x14), (8, .int x8), (4, .long z4), (2, .long z2), (1, .int a1), (0, .ref h0)]) hx hb dX12_create_284 hl (by decide) rfl (fun ls hl => ?_)
                              refine lv_aload_n hx hb dX12_create_286 rfl (lv_at hl 11 rfl) ?_
                              refine w_getI hF hH fk_X12_628 dX12_create_287 hw (fun z78 hw => ?_)
                              refine lv_istore (lv' := [(16, .int z78), (15, .int z77), (14, .int x68), (13, .int z63), (12, .int z43), (11, .int x25), (10, .int x20), (9, .int x14), (8, .int x8), (4, .long z4), (2, .long z2), (1, .int a1), (0, .ref h0)]) hx hb dX12_create_290 hl (by decide) rfl (fun ls hl => ?_)
                              refine lv_iload hx hb dX12_create_292 (lv_at hl 5 rfl) ?_
                              obtain ⟨K81, hK82, hw⟩ := jn_open hw
                              refine w_join (K := K81) 313 (fun (x79 : Int32) => [(16, .int z78), (15, .int z77), (14, .int x68), (13, .int z63), (12, .int z43), (11, .int x25), (10, .int x20), (9, .int x14), (8, .int x8), (4, .long z4), (2, .long z2), (1, .int a1), (0, .ref h0)]) (fun (x79 : Int32) => [.int x79]) hl hH (fun x79 σ80 ls H locs hl hw hH => ?_) (fun jn83 => ?_)
                              · have hw := hK82 x79 σ80 hw
                                have hl : lv_has ls 20 [(16, .int z78), (15, .int z77), (14, .int x68), (13, .int z63), (12, .int z43), (11, .int x25), (10, .int x20), (9, .int x14), (8, .int x8), (4, .long z4), (2, .long z2), (1, .int a1), (0, .ref h0)] := hl
                                refine lv_istore (lv' := [(17, .int x79), (16, .int z78), (15, .int z77), (14, .int x68), (13, .int z63), (12, .int z43), (11, .int x25), (10, .int x20), (9, .int x14), (8, .int x8), (4, .long z4), (2, .long z2), (1, .int a1), (0, .ref h0)]) hx hb dX12_create_313 hl (by decide) rfl (fun ls hl => ?_)
                                refine lv_iload hx hb dX12_create_315 (lv_at hl 1 rfl) ?_
                                obtain ⟨K86, hK87, hw⟩ := jn_open hw
                                refine w_join (K := K86) 475 (fun (x84 : Int32 × Int32) => [(17, .int x84.1), (16, .int x84.2), (14, .int x68), (12, .int z43), (10, .int x20), (2, .long z2), (0, .ref h0)]) (fun (x84 : Int32 × Int32) => []) hl hH (fun x84 σ85 ls H locs hl hw hH => ?_) (fun jn88 => ?_)
                                · have hw := hK87 x84 σ85 hw
                                  have hl : lv_has ls 20 [(17, .int x84.1), (16, .int x84.2), (14, .int x68), (12, .int z43), (10, .int x20), (2, .long z2), (0, .ref h0)] := hl
                                  refine lv_aload_n hx hb dX12_create_475 rfl (lv_at hl 6 rfl) ?_
                                  refine lv_iload hx hb dX12_create_476 (lv_at hl 1 rfl) ?_
                                  refine lv_iload hx hb dX12_create_478 (lv_at hl 2 rfl) ?_
                                  refine w_cVi (As := [.int x84.2, .int x68]) (rest := []) hF hH hA mv_X12_697 (fun sz => c_X12_granted l D t h0 L _ hH.2 x84.2 x68 _ hw sz) dX12_create_480 rfl rfl (by decide) rfl hl.1 (Nat.le_of_ble_eq_true rfl) (by decide) rfl (fun z90 σ89 H locs hw hH => ?_)
                                  refine lv_istore (lv' := [(18, .int z90), (17, .int x84.1), (16, .int x84.2), (14, .int x68), (12, .int z43), (10, .int x20), (2, .long z2), (0, .ref h0)]) hx hb dX12_create_483 hl (by decide) rfl (fun ls hl => ?_)
                                  refine lv_aload_n hx hb dX12_create_485 rfl (lv_at hl 7 rfl) ?_
                                  refine lv_aload_n hx hb dX12_create_486 rfl (lv_at hl 7 rfl) ?_
                                  refine w_getA 41 hF hH fk_X12_139 dX12_create_487 (by decide) rfl ?_
                                  refine w_cVi (As := [.ref (L 41)]) (rest := []) hF hH hA mv_X12_603 (fun sz => c_X12_vacant l D t h0 L _ hH.2 41 40 (by decide) rfl rfl (by decide) _ hw sz) dX12_create_490 rfl rfl (by decide) rfl hl.1 (Nat.le_of_ble_eq_true rfl) (by decide) rfl (fun z92 σ91 H locs hw hH => ?_)
                                  refine lv_istore (lv' := [(19, .int z92), (18, .int z90), (17, .int x84.1), (16, .int x84.2), (14, .int x68), (12, .int z43), (10, .int x20), (2, .long z2), (0, .ref h0)]) hx hb dX12_create_493 hl (by decide) rfl (fun ls hl => ?_)
                                  refine lv_aload_n hx hb dX12_create_495 rfl (lv_at hl 8 rfl) ?_
                                  refine lv_dup hx hb dX12_create_496 rfl ?_
                                  refine w_getJ hF hH fk_X12_302 dX12_create_497 hw (fun z93 hw => ?_)
                                  refine lv_lconst (v := 1) hx hb dX12_create_500 (by decide) ?_
                                  refine lv_ladd hx hb dX12_create_501 ?_
                                  refine w_nml hw (fun z94 hw => ?_)
                                  refine w_putJ hF hH fk_X12_302 dX12_create_502 rfl rfl rfl hw (fun σ95 H locs hw hH => ?_)
                                  refine lv_aload_n hx hb dX12_create_505 rfl (lv_at hl 8 rfl) ?_
                                  refine w_getA 41 hF hH fk_X12_139 dX12_create_506 (by decide) rfl ?_
                                  refine lv_iload hx hb dX12_create_509 (lv_at hl 0 rfl) ?_
                                  refine lv_aload_n hx hb dX12_create_511 rfl (lv_at hl 8 rfl) ?_
                                  refine w_getJ hF hH fk_X12_302 dX12_create_512 hw (fun z96 hw => ?_)
                                  refine w_last 41 40 hF hH dX12_create_515 (by decide) rfl rfl hw (fun σ97 H locs hw hH => ?_)
                                  refine lv_aload_n hx hb dX12_create_516 rfl (lv_at hl 8 rfl) ?_
                                  refine w_getA 42 hF hH fk_X12_142 dX12_create_517 (by decide) rfl ?_
                                  refine lv_iload hx hb dX12_create_520 (lv_at hl 0 rfl) ?_
                                  refine lv_aload_n hx hb dX12_create_522 rfl (lv_at hl 8 rfl) ?_
                                  refine w_getI hF hH fk_X12_498 dX12_create_523 hw (fun z98 hw => ?_)
                                  refine w_iast 42 40 hF hH dX12_create_526 (by decide) rfl rfl hw (fun σ99 H locs hw hH => ?_)
                                  refine lv_aload_n hx hb dX12_create_527 rfl (lv_at hl 8 rfl) ?_
                                  refine w_getA 43 hF hH fk_X12_145 dX12_create_528 (by decide) rfl ?_
                                  refine lv_iload hx hb dX12_create_531 (lv_at hl 0 rfl) ?_
                                  refine lv_iload hx hb dX12_create_533 (lv_at hl 3 rfl) ?_
                                  refine w_iast 43 40 hF hH dX12_create_535 (by decide) rfl rfl hw (fun σ100 H locs hw hH => ?_)
                                  refine lv_aload_n hx hb dX12_create_536 rfl (lv_at hl 8 rfl) ?_
                                  refine w_getA 44 hF hH fk_X12_148 dX12_create_537 (by decide) rfl ?_
                                  refine lv_iload hx hb dX12_create_540 (lv_at hl 0 rfl) ?_
                                  refine lv_iload hx hb dX12_create_542 (lv_at hl 5 rfl) ?_
                                  refine w_iast 44 40 hF hH dX12_create_544 (by decide) rfl rfl hw (fun σ101 H locs hw hH => ?_)
                                  refine lv_aload_n hx hb dX12_create_545 rfl (lv_at hl 8 rfl) ?_
                                  refine w_getA 45 hF hH fk_X12_151 dX12_create_546 (by decide) rfl ?_
                                  refine lv_iload hx hb dX12_create_549 (lv_at hl 0 rfl) ?_
                                  refine lv_lload_n hx hb dX12_create_551 rfl (lv_at hl 7 rfl) ?_
                                  refine lv_l2i hx hb dX12_create_552 rfl ?_
                                  refine w_nmi hw (fun z102 hw => ?_)
                                  refine w_iast 45 40 hF hH dX12_create_553 (by decide) rfl rfl hw (fun σ103 H locs hw hH => ?_)
                                  refine lv_aload_n hx hb dX12_create_554 rfl (lv_at hl 8 rfl) ?_
                                  refine w_getA 46 hF hH fk_X12_154 dX12_create_555 (by decide) rfl ?_
                                  refine lv_iload hx hb dX12_create_558 (lv_at hl 0 rfl) ?_
                                  refine lv_iload hx hb dX12_create_560 (lv_at hl 1 rfl) ?_
                                  refine w_iast 46 40 hF hH dX12_create_562 (by decide) rfl rfl hw (fun σ104 H locs hw hH => ?_)
                                  refine lv_aload_n hx hb dX12_create_563 rfl (lv_at hl 8 rfl) ?_
                                  refine w_getA 47 hF hH fk_X12_157 dX12_create_564 (by decide) rfl ?_
                                  refine lv_iload hx hb dX12_create_567 (lv_at hl 0 rfl) ?_
                                  refine lv_iconst (v := 0) hx hb dX12_create_569 (by decide) ?_
                                  refine w_zast 47 40 hF hH dX12_create_570 (by decide) rfl rfl hw (fun σ105 H locs hw hH => ?_)
                                  refine lv_aload_n hx hb dX12_create_571 rfl (lv_at hl 8 rfl) ?_
                                  refine w_getA 50 hF hH fk_X12_166 dX12_create_572 (by decide) rfl ?_
                                  refine lv_iload hx hb dX12_create_575 (lv_at hl 0 rfl) ?_
                                  refine lv_iload hx hb dX12_create_577 (lv_at hl 6 rfl) ?_
                                  refine w_zast 50 40 hF hH dX12_create_579 (by decide) rfl rfl hw (fun σ106 H locs hw hH => ?_)
                                  refine lv_aload_n hx hb dX12_create_580 rfl (lv_at hl 8 rfl) ?_
                                  refine w_getA 51 hF hH fk_X12_169 dX12_create_581 (by decide) rfl ?_
                                  refine lv_iload hx hb dX12_create_584 (lv_at hl 0 rfl) ?_
                                  refine lv_iconst (v := (-1)) hx hb dX12_create_586 (by decide) ?_
                                  refine w_iast 51 40 hF hH dX12_create_587 (by decide) rfl rfl hw (fun σ107 H locs hw hH => ?_)
                                  refine lv_aload_n hx hb dX12_create_588 rfl (lv_at hl 8 rfl) ?_
                                  refine w_getA 53 hF hH fk_X12_175 dX12_create_589 (by decide) rfl ?_
                                  refine lv_iload hx hb dX12_create_592 (lv_at hl 0 rfl) ?_
                                  refine lv_iconst (v := 0) hx hb dX12_create_594 (by decide) ?_
                                  refine w_iast 53 40 hF hH dX12_create_595 (by decide) rfl rfl hw (fun σ108 H locs hw hH => ?_)
                                  refine lv_aload_n hx hb dX12_create_596 rfl (lv_at hl 8 rfl) ?_
                                  refine lv_aload_n hx hb dX12_create_597 rfl (lv_at hl 8 rfl) ?_
                                  refine w_getJ hF hH fk_X12_302 dX12_create_598 hw (fun z109 hw => ?_)
                                  refine w_putJ hF hH fk_X12_443 dX12_create_601 rfl rfl rfl hw (fun σ110 H locs hw hH => ?_)
                                  refine lv_aload_n hx hb dX12_create_604 rfl (lv_at hl 8 rfl) ?_
                                  refine lv_bipush (v := 88) hx hb dX12_create_605 (by decide) ?_
                                  refine w_cVv (As := [.int 88]) (rest := []) hF hH hA mv_X12_456 (fun sz => c_X12_body l D t h0 L _ hH.2 88 _ hw sz) dX12_create_607 rfl rfl (by decide) rfl hl.1 (Nat.le_of_ble_eq_true rfl) (by decide) rfl (fun σ111 H locs hw hH => ?_)
                                  refine lv_aload_n hx hb dX12_create_610 rfl (lv_at hl 8 rfl) ?_
                                  refine lv_bipush (v := 64) hx hb dX12_create_611 (by decide) ?_
                                  refine lv_iconst (v := 2) hx hb dX12_create_613 (by decide) ?_
                                  refine lv_ldc2 (v := 89) hx hb hF.1.2.2.2.1 (hF.1.2.2.2.2 _ (wc_54 21 rfl)) dX12_create_614 ?_
                                  refine w_cVv (As := [.int 64, .int 2, .long 89]) (rest := []) hF hH hA mv_X12_376 (fun sz => c_X12_set l D t h0 L _ hH.2 64 2 89 _ hw sz) dX12_create_617 rfl rfl (by decide) rfl hl.1 (Nat.le_of_ble_eq_true rfl) (by decide) rfl (fun σ113 H locs hw hH => ?_)
                                  refine lv_aload_n hx hb dX12_create_620 rfl (lv_at hl 8 rfl) ?_
                                  refine lv_bipush (v := 66) hx hb dX12_create_621 (by decide) ?_
                                  refine lv_iconst (v := 1) hx hb dX12_create_623 (by decide) ?_
                                  refine lv_iload hx hb dX12_create_624 (lv_at hl 1 rfl) ?_
                                  refine lv_i2l hx hb dX12_create_626 rfl ?_
                                  refine w_nml hw (fun z115 hw => ?_)
                                  refine w_cVv (As := [.int 66, .int 1, .long z115]) (rest := []) hF hH hA mv_X12_376 (fun sz => c_X12_set l D t h0 L _ hH.2 66 1 z115 _ hw sz) dX12_create_627 rfl rfl (by decide) rfl hl.1 (Nat.le_of_ble_eq_true rfl) (by decide) rfl (fun σ116 H locs hw hH => ?_)
                                  refine lv_aload_n hx hb dX12_create_630 rfl (lv_at hl 8 rfl) ?_
                                  refine lv_bipush (v := 68) hx hb dX12_create_631 (by decide) ?_
                                  refine lv_iconst (v := 4) hx hb dX12_create_633 (by decide) ?_
                                  refine lv_iload hx hb dX12_create_634 (lv_at hl 2 rfl) ?_
                                  refine lv_i2l hx hb dX12_create_636 rfl ?_
                                  refine w_nml hw (fun z118 hw => ?_)
                                  refine w_cVv (As := [.int 68, .int 4, .long z118]) (rest := []) hF hH hA mv_X12_376 (fun sz => c_X12_set l D t h0 L _ hH.2 68 4 z118 _ hw sz) dX12_create_637 rfl rfl (by decide) rfl hl.1 (Nat.le_of_ble_eq_true rfl) (by decide) rfl (fun σ119 H locs hw hH => ?_)
                                  refine lv_aload_n hx hb dX12_create_640 rfl (lv_at hl 8 rfl) ?_
                                  refine lv_bipush (v := 72) hx hb dX12_create_641 (by decide) ?_
                                  refine lv_iload hx hb dX12_create_643 (lv_at hl 3 rfl) ?_
                                  refine w_cVv (As := [.int 72, .int x84.2]) (rest := []) hF hH hA mv_X12_702 (fun sz => c_X12_setTimes l D t h0 L _ hH.2 72 x84.2 _ hw sz) dX12_create_645 rfl rfl (by decide) rfl hl.1 (Nat.le_of_ble_eq_true rfl) (by decide) rfl (fun σ121 H locs hw hH => ?_)
                                  refine lv_aload_n hx hb dX12_create_648 rfl (lv_at hl 8 rfl) ?_
                                  refine lv_bipush (v := 104) hx hb dX12_create_649 (by decide) ?_
                                  refine lv_bipush (v := 8) hx hb dX12_create_651 (by decide) ?_
                                  refine lv_aload_n hx hb dX12_create_653 rfl (lv_at hl 8 rfl) ?_
                                  refine lv_iload hx hb dX12_create_654 (lv_at hl 3 rfl) ?_
                                  refine w_cVi (As := [.int x84.2]) (rest := [.int 8, .int 104, .ref h0]) hF hH hA mv_X12_705 (fun sz => c_X12_room l D t h0 L _ hH.2 x84.2 _ hw sz) dX12_create_656 rfl rfl (by decide) rfl hl.1 (Nat.le_of_ble_eq_true rfl) (by decide) rfl (fun z124 σ123 H locs hw hH => ?_)
                                  refine lv_i2l hx hb dX12_create_659 rfl ?_
                                  refine w_nml hw (fun z125 hw => ?_)
                                  refine w_cVv (As := [.int 104, .int 8, .long z125]) (rest := []) hF hH hA mv_X12_376 (fun sz => c_X12_set l D t h0 L _ hH.2 104 8 z125 _ hw sz) dX12_create_660 rfl rfl (by decide) rfl hl.1 (Nat.le_of_ble_eq_true rfl) (by decide) rfl (fun σ126 H locs hw hH => ?_)
                                  refine lv_aload_n hx hb dX12_create_663 rfl (lv_at hl 8 rfl) ?_
                                  refine lv_bipush (v := 112) hx hb dX12_create_664 (by decide) ?_
                                  refine lv_bipush (v := 8) hx hb dX12_create_666 (by decide) ?_
                                  refine lv_aload_n hx hb dX12_create_668 rfl (lv_at hl 8 rfl) ?_
                                  refine w_getA 8 hF hH fk_X12_37 dX12_create_669 (by decide) rfl ?_
                                  refine lv_iload hx hb dX12_create_672 (lv_at hl 3 rfl) ?_
                                  refine w_iald 8 160 hF hH dX12_create_674 (by decide) rfl rfl hw (fun z128 hw => ?_)
                                  refine lv_i2l hx hb dX12_create_675 rfl ?_
                                  refine w_nml hw (fun z129 hw => ?_)
                                  refine w_cVv (As := [.int 112, .int 8, .long z129]) (rest := []) hF hH hA mv_X12_376 (fun sz => c_X12_set l D t h0 L _ hH.2 112 8 z129 _ hw sz) dX12_create_676 rfl rfl (by decide) rfl hl.1 (Nat.le_of_ble_eq_true rfl) (by decide) rfl (fun σ130 H locs hw hH => ?_)
                                  refine lv_aload_n hx hb dX12_create_679 rfl (lv_at hl 8 rfl) ?_
                                  refine lv_bipush (v := 120) hx hb dX12_create_680 (by decide) ?_
                                  refine lv_iconst (v := 4) hx hb dX12_create_682 (by decide) ?_
                                  refine lv_aload_n hx hb dX12_create_683 rfl (lv_at hl 8 rfl) ?_
                                  refine lv_iload hx hb dX12_create_684 (lv_at hl 3 rfl) ?_
                                  refine w_cVi (As := [.int x84.2]) (rest := [.int 4, .int 120, .ref h0]) hF hH hA mv_X12_708 (fun sz => c_X12_shown l D t h0 L _ hH.2 x84.2 _ hw sz) dX12_create_686 rfl rfl (by decide) rfl hl.1 (Nat.le_of_ble_eq_true rfl) (by decide) rfl (fun z133 σ132 H locs hw hH => ?_)
                                  refine lv_i2l hx hb dX12_create_689 rfl ?_
                                  refine w_nml hw (fun z134 hw => ?_)
                                  refine w_cVv (As := [.int 120, .int 4, .long z134]) (rest := []) hF hH hA mv_X12_376 (fun sz => c_X12_set l D t h0 L _ hH.2 120 4 z134 _ hw sz) dX12_create_690 rfl rfl (by decide) rfl hl.1 (Nat.le_of_ble_eq_true rfl) (by decide) rfl (fun σ135 H locs hw hH => ?_)
                                  refine lv_aload_n hx hb dX12_create_693 rfl (lv_at hl 8 rfl) ?_
                                  refine lv_sipush (v := 128) hx hb dX12_create_694 (by decide) ?_
                                  refine lv_bipush (v := 8) hx hb dX12_create_697 (by decide) ?_
                                  refine lv_aload_n hx hb dX12_create_699 rfl (lv_at hl 8 rfl) ?_
                                  refine w_getJ hF hH fk_X12_302 dX12_create_700 hw (fun z137 hw => ?_)
                                  refine w_cVv (As := [.int 128, .int 8, .long z137]) (rest := []) hF hH hA mv_X12_376 (fun sz => c_X12_set l D t h0 L _ hH.2 128 8 z137 _ hw sz) dX12_create_703 rfl rfl (by decide) rfl hl.1 (Nat.le_of_ble_eq_true rfl) (by decide) rfl (fun σ138 H locs hw hH => ?_)
                                  refine lv_aload_n hx hb dX12_create_706 rfl (lv_at hl 8 rfl) ?_
                                  refine lv_sipush (v := 136) hx hb dX12_create_707 (by decide) ?_
                                  refine lv_bipush (v := 8) hx hb dX12_create_710 (by decide) ?_
                                  refine lv_aload_n hx hb dX12_create_712 rfl (lv_at hl 8 rfl) ?_
                                  refine w_getJ hF hH fk_X12_302 dX12_create_713 hw (fun z140 hw => ?_)
                                  refine w_cVv (As := [.int 136, .int 8, .long z140]) (rest := []) hF hH hA mv_X12_376 (fun sz => c_X12_set l D t h0 L _ hH.2 136 8 z140 _ hw sz) dX12_create_716 rfl rfl (by decide) rfl hl.1 (Nat.le_of_ble_eq_true rfl) (by decide) rfl (fun σ141 H locs hw hH => ?_)
                                  refine lv_lconst (v := 0) hx hb dX12_create_719 (by decide) ?_
                                  exact w_retl hF hH hr hlk dX12_create_720 hw
                                · skip
                                  refine w_if_lt (tgt := 392) hF dX12_create_317 rfl hw (fun hw => ?_) (fun hw => ?_)
                                  · refine lv_lload hx hb dX12_create_392 (lv_at hl 10 rfl) ?_
                                    refine lv_lconst (v := 1) hx hb dX12_create_394 (by decide) ?_
                                    obtain ⟨K145, hK146, hw⟩ := jn_open hw
                                    refine w_join (K := K145) 408 (fun (x143 : Unit) => []) (fun (x143 : Unit) => []) hl hH (fun x143 σ144 ls H locs hl hw hH => ?_) (fun jn147 => ?_)
                                    · have hw := hK146 x143 σ144 hw
                                      have hl : lv_has ls 20 [] := hl
                                      refine lv_ldc2 (v := 3221225524) hx hb hF.1.2.2.2.1 (hF.1.2.2.2.2 _ (wc_54 10 rfl)) dX12_create_408 ?_
                                      exact w_retl hF hH hr hlk dX12_create_411 hw
                                    · skip
                                      refine w_lif_eq (tgt := 408) hF dX12_create_395 dX12_create_396 rfl hw (fun hw => ?_) (fun hw => ?_)
                                      · have hl : lv_has ls 20 [] := lv_sub hl [] rfl
                                        exact jn147 () σ80 ls _ _ hl hw hH
                                      · refine lv_lload hx hb dX12_create_399 (lv_at hl 10 rfl) ?_
                                        refine lv_ldc2 (v := 4) hx hb hF.1.2.2.2.1 (hF.1.2.2.2.2 _ (wc_47 22 rfl)) dX12_create_401 ?_
                                        refine w_lif_ne (tgt := 412) hF dX12_create_404 dX12_create_405 rfl hw (fun hw => ?_) (fun hw => ?_)
                                        · refine lv_aload_n hx hb dX12_create_412 rfl (lv_at hl 13 rfl) ?_
                                          refine lv_aload_n hx hb dX12_create_413 rfl (lv_at hl 13 rfl) ?_
                                          refine w_getA 41 hF hH fk_X12_139 dX12_create_414 (by decide) rfl ?_
                                          refine w_cVi (As := [.ref (L 41)]) (rest := []) hF hH hA mv_X12_688 (fun sz => c_X12_count l D t h0 L _ hH.2 41 40 (by decide) rfl rfl (by decide) _ hw sz) dX12_create_417 rfl rfl (by decide) rfl hl.1 (Nat.le_of_ble_eq_true rfl) (by decide) rfl (fun z149 σ148 H locs hw hH => ?_)
                                          refine lv_bipush (v := 40) hx hb dX12_create_420 (by decide) ?_
                                          refine w_icmp_ne (tgt := 429) hF dX12_create_422 rfl hw (fun hw => ?_) (fun hw => ?_)
                                          · refine lv_aload_n hx hb dX12_create_429 rfl (lv_at hl 13 rfl) ?_
                                            refine lv_iconst (v := 0) hx hb dX12_create_430 (by decide) ?_
                                            refine w_cVi (As := [.int 0]) (rest := []) hF hH hA mv_X12_315 (fun sz => c_X12_nodes l D t h0 L _ hH.2 0 _ hw sz) dX12_create_431 rfl rfl (by decide) rfl hl.1 (Nat.le_of_ble_eq_true rfl) (by decide) rfl (fun z151 σ150 H locs hw hH => ?_)
                                            refine lv_bipush (v := 80) hx hb dX12_create_434 (by decide) ?_
                                            refine w_icmp_ne (tgt := 443) hF dX12_create_436 rfl hw (fun hw => ?_) (fun hw => ?_)
                                            · refine lv_aload_n hx hb dX12_create_443 rfl (lv_at hl 13 rfl) ?_
                                              refine lv_iload hx hb dX12_create_444 (lv_at hl 9 rfl) ?_
                                              refine lv_iload hx hb dX12_create_446 (lv_at hl 9 rfl) ?_
                                              obtain ⟨K154, hK155, hw⟩ := jn_open hw
                                              refine w_join (K := K154) 467 (fun (x152 : Int32) => [(14, .int x68), (12, .int z43), (10, .int x20), (2, .long z2), (0, .ref h0)]) (fun (x152 : Int32) => [.int x152, .int x8, .ref h0]) hl hH (fun x152 σ153 ls H locs hl hw hH => ?_) (fun jn156 => ?_)
                                              · have hw := hK155 x152 σ153 hw
                                                have hl : lv_has ls 20 [(14, .int x68), (12, .int z43), (10, .int x20), (2, .long z2), (0, .ref h0)] := hl
                                                refine w_cVi (As := [.int x8, .int x152]) (rest := []) hF hH hA mv_X12_693 (fun sz => c_X12_makeNode l D t h0 L _ hH.2 x8 x152 _ hw sz) dX12_create_467 rfl rfl (by decide) rfl hl.1 (Nat.le_of_ble_eq_true rfl) (by decide) rfl (fun z158 σ157 H locs hw hH => ?_)
                                                refine lv_istore (lv' := [(16, .int z158), (14, .int x68), (12, .int z43), (10, .int x20), (2, .long z2), (0, .ref h0)]) hx hb dX12_create_470 hl (by decide) rfl (fun ls hl => ?_)
                                                refine lv_iconst (v := 2) hx hb dX12_create_472 (by decide) ?_
                                                refine lv_istore (lv' := [(17, .int 2), (16, .int z158), (14, .int x68), (12, .int z43), (10, .int x20), (2, .long z2), (0, .ref h0)]) hx hb dX12_create_473 hl (by decide) rfl (fun ls hl => ?_)
                                                exact jn88 (2, z158) σ157 ls _ _ hl hw hH
                                              · skip
                                                refine w_if_eq (tgt := 465) hF dX12_create_448 rfl hw (fun hw => ?_) (fun hw => ?_)
                                                · refine lv_iload hx hb dX12_create_465 (lv_at hl 2 rfl) ?_
                                                  have hl : lv_has ls 20 [(14, .int x68), (12, .int z43), (10, .int x20), (2, .long z2), (0, .ref h0)] := lv_sub hl [3, 5, 7, 11, 13] rfl
                                                  exact jn156 z77 σ150 ls _ _ hl hw hH
                                                · refine lv_aload_n hx hb dX12_create_451 rfl (lv_at hl 13 rfl) ?_
                                                  refine lv_bipush (v := 92) hx hb dX12_create_452 (by decide) ?_
                                                  refine lv_iconst (v := 4) hx hb dX12_create_454 (by decide) ?_
                                                  refine w_cVl (As := [.int 92, .int 4]) (rest := [.int x8, .ref h0]) hF hH hA mv_X12_364 (fun sz => c_X12_number l D t h0 L _ hH.2 92 4 _ hw sz) dX12_create_455 rfl rfl (by decide) rfl hl.1 (Nat.le_of_ble_eq_true rfl) (by decide) rfl (fun z160 σ159 H locs hw hH => ?_)
                                                  refine lv_l2i hx hb dX12_create_458 rfl ?_
                                                  refine w_nmi hw (fun z161 hw => ?_)
                                                  refine lv_bipush (v := 6) hx hb dX12_create_459 (by decide) ?_
                                                  refine lv_iand hx hb dX12_create_461 ?_
                                                  refine w_nmi hw (fun z162 hw => ?_)
                                                  refine lv_goto (tgt := 467) hx hb dX12_create_462 rfl ?_
                                                  have hl : lv_has ls 20 [(14, .int x68), (12, .int z43), (10, .int x20), (2, .long z2), (0, .ref h0)] := lv_sub hl [3, 5, 7, 11, 13] rfl
                                                  exact jn156 z162 σ159 ls _ _ hl hw hH
                                            · refine lv_ldc2 (v := 3221225599) hx hb hF.1.2.2.2.1 (hF.1.2.2.2.2 _ (wc_54 14 rfl)) dX12_create_439 ?_
                                              exact w_retl hF hH hr hlk dX12_create_442 hw
                                          · refine lv_ldc2 (v := 3221225626) hx hb hF.1.2.2.2.1 (hF.1.2.2.2.2 _ (wc_53 8 rfl)) dX12_create_425 ?_
                                            exact w_retl hF hH hr hlk dX12_create_428 hw
                                        · have hl : lv_has ls 20 [] := lv_sub hl [] rfl
                                          exact jn147 () σ80 ls _ _ hl hw hH
                                  · refine lv_aload_n hx hb dX12_create_320 rfl (lv_at hl 13 rfl) ?_
                                    refine lv_iload hx hb dX12_create_321 (lv_at hl 1 rfl) ?_
                                    refine lv_iload_n hx hb dX12_create_323 rfl (lv_at hl 12 rfl) ?_
                                    refine lv_iload hx hb dX12_create_324 (lv_at hl 5 rfl) ?_
                                    refine lv_lload_n hx hb dX12_create_326 rfl (lv_at hl 11 rfl) ?_
                                    refine lv_l2i hx hb dX12_create_327 rfl ?_
                                    refine w_nmi hw (fun z163 hw => ?_)
                                    refine lv_lload hx hb dX12_create_328 (lv_at hl 10 rfl) ?_
                                    refine lv_l2i hx hb dX12_create_330 rfl ?_
                                    refine w_nmi hw (fun z164 hw => ?_)
                                    refine lv_iload hx hb dX12_create_331 (lv_at hl 9 rfl) ?_
                                    refine lv_iload hx hb dX12_create_333 (lv_at hl 8 rfl) ?_
                                    refine lv_iload hx hb dX12_create_335 (lv_at hl 7 rfl) ?_
                                    refine lv_iload hx hb dX12_create_337 (lv_at hl 6 rfl) ?_
                                    refine lv_iload hx hb dX12_create_339 (lv_at hl 4 rfl) ?_
                                    refine w_cVl (As := [.int z78, .int a1, .int z43, .int z163, .int z164, .int x8, .int x14, .int x20, .int x25, .int z63]) (rest := []) hF hH hA mv_X12_679 (fun sz => c_X12_there l D t h0 L _ hH.2 z78 a1 z43 z163 z164 x8 x14 x20 x25 z63 _ hw sz) dX12_create_341 rfl rfl (by decide) rfl hl.1 (Nat.le_of_ble_eq_true rfl) (by decide) rfl (fun z166 σ165 H locs hw hH => ?_)
                                    refine lv_lstore (lv' := [(18, .long z166), (17, .int x79), (16, .int z78), (15, .int z77), (14, .int x68), (13, .int z63), (12, .int z43), (11, .int x25), (10, .int x20), (9, .int x14), (8, .int x8), (4, .long z4), (2, .long z2), (1, .int a1), (0, .ref h0)]) hx hb dX12_create_344 hl (by decide) rfl (fun ls hl => ?_)
                                    refine lv_lload hx hb dX12_create_346 (lv_at hl 0 rfl) ?_
                                    refine lv_lconst (v := 0) hx hb dX12_create_348 (by decide) ?_
                                    refine w_lif_eq (tgt := 356) hF dX12_create_349 dX12_create_350 rfl hw (fun hw => ?_) (fun hw => ?_)
                                    · refine lv_iload hx hb dX12_create_356 (lv_at hl 7 rfl) ?_
                                      obtain ⟨K169, hK170, hw⟩ := jn_open hw
                                      refine w_join (K := K169) 389 (fun (x167 : Unit) => [(17, .int x79), (16, .int z78), (14, .int x68), (12, .int z43), (10, .int x20), (2, .long z2), (0, .ref h0)]) (fun (x167 : Unit) => []) hl hH (fun x167 σ168 ls H locs hl hw hH => ?_) (fun jn171 => ?_)
                                      · have hw := hK170 x167 σ168 hw
                                        have hl : lv_has ls 20 [(17, .int x79), (16, .int z78), (14, .int x68), (12, .int z43), (10, .int x20), (2, .long z2), (0, .ref h0)] := hl
                                        refine lv_goto (tgt := 475) hx hb dX12_create_389 rfl ?_
                                        exact jn88 (x79, z78) σ168 ls _ _ hl hw hH
                                      · skip
                                        refine w_if_eq (tgt := 389) hF dX12_create_358 rfl hw (fun hw => ?_) (fun hw => ?_)
                                        · have hl : lv_has ls 20 [(17, .int x79), (16, .int z78), (14, .int x68), (12, .int z43), (10, .int x20), (2, .long z2), (0, .ref h0)] := lv_sub hl [1, 2, 4, 6, 8, 12, 14] rfl
                                          exact jn171 () σ165 ls _ _ hl hw hH
                                        · refine lv_aload_n hx hb dX12_create_361 rfl (lv_at hl 14 rfl) ?_
                                          refine lv_iload hx hb dX12_create_362 (lv_at hl 2 rfl) ?_
                                          refine lv_lload hx hb dX12_create_364 (lv_at hl 11 rfl) ?_
                                          refine lv_lconst (v := 0) hx hb dX12_create_366 (by decide) ?_
                                          obtain ⟨K174, hK175, hw⟩ := jn_open hw
                                          refine w_join (K := K174) 386 (fun (x172 : Int32) => [(17, .int x79), (16, .int z78), (14, .int x68), (12, .int z43), (10, .int x20), (2, .long z2), (0, .ref h0)]) (fun (x172 : Int32) => [.int x172, .int z78, .ref h0]) hl hH (fun x172 σ173 ls H locs hl hw hH => ?_) (fun jn176 => ?_)
                                          · have hw := hK175 x172 σ173 hw
                                            have hl : lv_has ls 20 [(17, .int x79), (16, .int z78), (14, .int x68), (12, .int z43), (10, .int x20), (2, .long z2), (0, .ref h0)] := hl
                                            refine w_cVv (As := [.int z78, .int x172]) (rest := []) hF hH hA mv_X12_683 (fun sz => c_X12_emptyIt l D t h0 L _ hH.2 z78 x172 _ hw sz) dX12_create_386 rfl rfl (by decide) rfl hl.1 (Nat.le_of_ble_eq_true rfl) (by decide) rfl (fun σ177 H locs hw hH => ?_)
                                            exact jn171 () σ177 ls _ _ hl hw hH
                                          · skip
                                            refine w_lif_ne (tgt := 376) hF dX12_create_367 dX12_create_368 rfl hw (fun hw => ?_) (fun hw => ?_)
                                            · refine lv_aload_n hx hb dX12_create_376 rfl (lv_at hl 14 rfl) ?_
                                              refine w_getA 6 hF hH fk_X12_30 dX12_create_377 (by decide) rfl ?_
                                              refine lv_iload hx hb dX12_create_380 (lv_at hl 2 rfl) ?_
                                              refine w_iald 6 160 hF hH dX12_create_382 (by decide) rfl rfl hw (fun z179 hw => ?_)
                                              refine lv_iload hx hb dX12_create_383 (lv_at hl 3 rfl) ?_
                                              refine lv_ior hx hb dX12_create_385 ?_
                                              refine w_nmi hw (fun z180 hw => ?_)
                                              have hl : lv_has ls 20 [(17, .int x79), (16, .int z78), (14, .int x68), (12, .int z43), (10, .int x20), (2, .long z2), (0, .ref h0)] := lv_sub hl [1, 2, 4, 6, 8, 12, 14] rfl
                                              exact jn176 z180 σ165 ls _ _ hl hw hH
                                            · refine lv_iload hx hb dX12_create_371 (lv_at hl 3 rfl) ?_
                                              refine lv_goto (tgt := 386) hx hb dX12_create_373 rfl ?_
                                              have hl : lv_has ls 20 [(17, .int x79), (16, .int z78), (14, .int x68), (12, .int z43), (10, .int x20), (2, .long z2), (0, .ref h0)] := lv_sub hl [1, 2, 4, 6, 8, 12, 14] rfl
                                              exact jn176 z77 σ165 ls _ _ hl hw hH
                                    · refine lv_lload hx hb dX12_create_353 (lv_at hl 0 rfl) ?_
                                      exact w_retl hF hH hr hlk dX12_create_355 hw
                              · skip
                                refine w_if_eq (tgt := 312) hF dX12_create_294 rfl hw (fun hw => ?_) (fun hw => ?_)
                                · refine lv_iconst (v := 1) hx hb dX12_create_312 (by decide) ?_
                                  exact jn83 1 σ73 ls _ _ hl hw hH
                                · refine lv_lload hx hb dX12_create_297 (lv_at hl 9 rfl) ?_
                                  refine lv_lconst (v := 0) hx hb dX12_create_299 (by decide) ?_
                                  refine w_lif_ne (tgt := 308) hF dX12_create_300 dX12_create_301 rfl hw (fun hw => ?_) (fun hw => ?_)
                                  · refine lv_iconst (v := 3) hx hb dX12_create_308 (by decide) ?_
                                    refine lv_goto (tgt := 313) hx hb dX12_create_309 rfl ?_
                                    exact jn83 3 σ73 ls _ _ hl hw hH
                                  · refine lv_iconst (v := 0) hx hb dX12_create_304 (by decide) ?_
                                    refine lv_goto (tgt := 313) hx hb dX12_create_305 rfl ?_
                                    exact jn83 0 σ73 ls _ _ hl hw hH
                            · skip
                              obtain ⟨K183, hK184, hw⟩ := jn_open hw
                              refine w_join (K := K183) 262 (fun (x181 : Unit) => [(14, .int z67), (13, .int z63), (12, .int z43), (11, .int x25), (10, .int x20), (9, .int x14), (8, .int x8), (4, .long z4), (2, .long z2), (1, .int a1), (0, .ref h0)]) (fun (x181 : Unit) => []) hl hH (fun x181 σ182 ls H locs hl hw hH => ?_) (fun jn185 => ?_)
                              · have hw := hK184 x181 σ182 hw
                                have hl : lv_has ls 20 [(14, .int z67), (13, .int z63), (12, .int z43), (11, .int x25), (10, .int x20), (9, .int x14), (8, .int x8), (4, .long z4), (2, .long z2), (1, .int a1), (0, .ref h0)] := hl
                                refine lv_iload hx hb dX12_create_262 (lv_at hl 0 rfl) ?_
                                refine lv_goto (tgt := 268) hx hb dX12_create_264 rfl ?_
                                have hl : lv_has ls 20 [(13, .int z63), (12, .int z43), (11, .int x25), (10, .int x20), (9, .int x14), (8, .int x8), (4, .long z4), (2, .long z2), (1, .int a1), (0, .ref h0)] := lv_sub hl [1, 2, 3, 4, 5, 6, 7, 8, 9, 10] rfl
                                exact jn72 z67 σ182 ls _ _ hl hw hH
                              · skip
                                refine w_icmp_eq (tgt := 262) hF dX12_create_245 rfl hw (fun hw => ?_) (fun hw => ?_)
                                · exact jn185 () σ66 ls _ _ hl hw hH
                                · refine lv_iload hx hb dX12_create_248 (lv_at hl 0 rfl) ?_
                                  refine lv_bipush (v := 8) hx hb dX12_create_250 (by decide) ?_
                                  refine w_icmp_eq (tgt := 262) hF dX12_create_252 rfl hw (fun hw => ?_) (fun hw => ?_)
                                  · exact jn185 () σ66 ls _ _ hl hw hH
                                  · refine lv_iload hx hb dX12_create_255 (lv_at hl 0 rfl) ?_
                                    refine lv_bipush (v := 9) hx hb dX12_create_257 (by decide) ?_
                                    refine w_icmp_ne (tgt := 267) hF dX12_create_259 rfl hw (fun hw => ?_) (fun hw => ?_)
                                    · refine lv_iconst (v := 0) hx hb dX12_create_267 (by decide) ?_
                                      have hl : lv_has ls 20 [(13, .int z63), (12, .int z43), (11, .int x25), (10, .int x20), (9, .int x14), (8, .int x8), (4, .long z4), (2, .long z2), (1, .int a1), (0, .ref h0)] := lv_sub hl [1, 2, 3, 4, 5, 6, 7, 8, 9, 10] rfl
                                      exact jn72 0 σ66 ls _ _ hl hw hH
                                    · exact jn185 () σ66 ls _ _ hl hw hH
                          · refine lv_ldc2 (v := 3221225530) hx hb hF.1.2.2.2.1 (hF.1.2.2.2.2 _ (wc_54 3 rfl)) dX12_create_230 ?_
                            exact w_retl hF hH hr hlk dX12_create_233 hw
                        · refine lv_ldc2 (v := 3221225523) hx hb hF.1.2.2.2.1 (hF.1.2.2.2.2 _ (wc_53 39 rfl)) dX12_create_201 ?_
                          exact w_retl hF hH hr hlk dX12_create_204 hw
                      · skip
                        refine w_if_eq (tgt := 181) hF dX12_create_165 rfl hw (fun hw => ?_) (fun hw => ?_)
                        · exact jn53 () σ42 ls _ _ hl hw hH
                        · refine lv_iload hx hb dX12_create_168 (lv_at hl 0 rfl) ?_
                          refine lv_ldcw (v := 65536) hx hb hF.1.2.2.2.1 (hF.1.2.2.2.2 _ (wc_53 27 rfl)) dX12_create_170 ?_
                          refine lv_iand hx hb dX12_create_173 ?_
                          refine w_nmi hw (fun z186 hw => ?_)
                          refine w_if_ne (tgt := 181) hF dX12_create_174 rfl hw (fun hw => ?_) (fun hw => ?_)
                          · exact jn53 () σ42 ls _ _ hl hw hH
                          · have hl : lv_has ls 20 [] := lv_sub hl [] rfl
                            exact jn48 () σ42 ls _ _ hl hw hH
                · skip
                  refine w_if_eq (tgt := 146) hF dX12_create_129 rfl hw (fun hw => ?_) (fun hw => ?_)
                  · exact jn39 () σ26 ls _ _ hl hw hH
                  · refine lv_iload hx hb dX12_create_132 (lv_at hl 2 rfl) ?_
                    refine w_if_ne (tgt := 142) hF dX12_create_134 rfl hw (fun hw => ?_) (fun hw => ?_)
                    · have hl : lv_has ls 20 [] := lv_sub hl [] rfl
                      exact jn34 () σ26 ls _ _ hl hw hH
                    · refine lv_iload hx hb dX12_create_137 (lv_at hl 0 rfl) ?_
                      refine w_if_eq (tgt := 146) hF dX12_create_139 rfl hw (fun hw => ?_) (fun hw => ?_)
                      · exact jn39 () σ26 ls _ _ hl hw hH
                      · have hl : lv_has ls 20 [] := lv_sub hl [] rfl
                        exact jn34 () σ26 ls _ _ hl hw hH
        · skip
          obtain ⟨K189, hK190, hw⟩ := jn_open hw
          refine w_join (K := K189) 103 (fun (x187 : Unit) => [(10, .int x20), (9, .int x14), (8, .int x8), (4, .long z4), (2, .long z2), (1, .int a1), (0, .ref h0)]) (fun (x187 : Unit) => []) hl hH (fun x187 σ188 ls H locs hl hw hH => ?_) (fun jn191 => ?_)
          · have hw := hK190 x187 σ188 hw
            have hl : lv_has ls 20 [(10, .int x20), (9, .int x14), (8, .int x8), (4, .long z4), (2, .long z2), (1, .int a1), (0, .ref h0)] := hl
            refine lv_iconst (v := 1) hx hb dX12_create_103 (by decide) ?_
            refine lv_goto (tgt := 108) hx hb dX12_create_104 rfl ?_
            exact jn29 1 σ188 ls _ _ hl hw hH
          · skip
            refine w_lif_eq (tgt := 103) hF dX12_create_81 dX12_create_82 rfl hw (fun hw => ?_) (fun hw => ?_)
            · exact jn191 () σ21 ls _ _ hl hw hH
            · refine lv_lload hx hb dX12_create_85 (lv_at hl 3 rfl) ?_
              refine lv_ldc2 (v := 4) hx hb hF.1.2.2.2.1 (hF.1.2.2.2.2 _ (wc_47 22 rfl)) dX12_create_87 ?_
              refine w_lif_eq (tgt := 103) hF dX12_create_90 dX12_create_91 rfl hw (fun hw => ?_) (fun hw => ?_)
              · exact jn191 () σ21 ls _ _ hl hw hH
              · refine lv_lload hx hb dX12_create_94 (lv_at hl 3 rfl) ?_
                refine lv_ldc2 (v := 5) hx hb hF.1.2.2.2.1 (hF.1.2.2.2.2 _ (wc_48 14 rfl)) dX12_create_96 ?_
                refine w_lif_ne (tgt := 107) hF dX12_create_99 dX12_create_100 rfl hw (fun hw => ?_) (fun hw => ?_)
                · refine lv_iconst (v := 0) hx hb dX12_create_107 (by decide) ?_
                  exact jn29 0 σ21 ls _ _ hl hw hH
                · exact jn191 () σ21 ls _ _ hl hw hH
      · skip
        refine w_lif_eq (tgt := 75) hF dX12_create_67 dX12_create_68 rfl hw (fun hw => ?_) (fun hw => ?_)
        · refine lv_iconst (v := 0) hx hb dX12_create_75 (by decide) ?_
          have hl : lv_has ls 20 [(9, .int x14), (8, .int x8), (4, .long z4), (2, .long z2), (1, .int a1), (0, .ref h0)] := lv_sub hl [0, 1, 3, 4, 5, 6] rfl
          exact jn24 0 σ15 ls _ _ hl hw hH
        · refine lv_iconst (v := 1) hx hb dX12_create_71 (by decide) ?_
          refine lv_goto (tgt := 76) hx hb dX12_create_72 rfl ?_
          have hl : lv_has ls 20 [(9, .int x14), (8, .int x8), (4, .long z4), (2, .long z2), (1, .int a1), (0, .ref h0)] := lv_sub hl [0, 1, 3, 4, 5, 6] rfl
          exact jn24 1 σ15 ls _ _ hl hw hH
    · skip
      refine w_lif_eq (tgt := 57) hF dX12_create_49 dX12_create_50 rfl hw (fun hw => ?_) (fun hw => ?_)
      · refine lv_iconst (v := 0) hx hb dX12_create_57 (by decide) ?_
        exact jn18 0 σ9 ls _ _ hl hw hH
      · refine lv_iconst (v := 1) hx hb dX12_create_53 (by decide) ?_
        refine lv_goto (tgt := 58) hx hb dX12_create_54 rfl ?_
        exact jn18 1 σ9 ls _ _ hl hw hH
  · skip
    refine w_lif_eq (tgt := 39) hF dX12_create_31 dX12_create_32 rfl hw (fun hw => ?_) (fun hw => ?_)
    · refine lv_iconst (v := 0) hx hb dX12_create_39 (by decide) ?_
      have hl : lv_has ls 20 [(6, .long z6), (4, .long z4), (2, .long z2), (1, .int a1), (0, .ref h0)] := lv_sub hl [0, 1, 2, 4, 3] rfl
      exact jn12 0 σ5 ls _ _ hl hw hH
    · refine lv_iconst (v := 1) hx hb dX12_create_35 (by decide) ?_
      refine lv_goto (tgt := 40) hx hb dX12_create_36 rfl ?_
      have hl : lv_has ls 20 [(6, .long z6), (4, .long z4), (2, .long z2), (1, .int a1), (0, .ref h0)] := lv_sub hl [0, 1, 2, 4, 3] rfl
      exact jn12 1 σ5 ls _ _ hl hw hH

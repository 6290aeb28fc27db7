/-! the reference, lifted: 3 -/
def F_X12_addLock (h0 : Nat) (L : Nat → Nat) (a1 : Int64) (a3 : Int32) (a4 : Int64) (a6 : Int64) (a8 : Int32) (post : HS → Prop) (σ : HS) : Prop := ∀ z1 : Int32, z1 = sI σ h0 63 → (0 ≤ z1.toInt ∧ z1.toInt < 80) ∧ ∀ σ2 : HS, σ2 = h_uJ σ (L 56) z1.toInt.toNat a1 → ∀ z3 : Int32, z3 = sI σ2 h0 63 → (0 ≤ z3.toInt ∧ z3.toInt < 80) ∧ ∀ σ4 : HS, σ4 = h_uI σ2 (L 57) z3.toInt.toNat a3 → ∀ z5 : Int32, z5 = sI σ4 h0 63 → (0 ≤ z5.toInt ∧ z5.toInt < 80) ∧ ∀ σ6 : HS, σ6 = h_uJ σ4 (L 58) z5.toInt.toNat a4 → ∀ z7 : Int32, z7 = sI σ6 h0 63 → (0 ≤ z7.toInt ∧ z7.toInt < 80) ∧ ∀ σ8 : HS, σ8 = h_uJ σ6 (L 59) z7.toInt.toNat a6 → ∀ z9 : Int32, z9 = sI σ8 h0 63 → (0 ≤ z9.toInt ∧ z9.toInt < 80) ∧ ∀ σ10 : HS, σ10 = h_uI σ8 (L 60) z9.toInt.toNat (vp_nar .boolean a8) → ∀ z11 : Int32, z11 = sI σ10 h0 63 → ∀ z12 : Int32, z12 = z11 + 1 → ∀ σ13 : HS, σ13 = h_uI σ10 h0 63 z12 → post σ13
theorem dX12_addLock_0 : decode cX12_addLock 0 = .ok (.aload_n 0, 1) := by decide +kernel
theorem dX12_addLock_1 : decode cX12_addLock 1 = .ok (.getfield 184, 3) := by decide +kernel
theorem dX12_addLock_4 : decode cX12_addLock 4 = .ok (.aload_n 0, 1) := by decide +kernel
theorem dX12_addLock_5 : decode cX12_addLock 5 = .ok (.getfield 289, 3) := by decide +kernel
theorem dX12_addLock_8 : decode cX12_addLock 8 = .ok (.lload_n 1, 1) := by decide +kernel
theorem dX12_addLock_9 : decode cX12_addLock 9 = .ok (.lastore, 1) := by decide +kernel
theorem dX12_addLock_10 : decode cX12_addLock 10 = .ok (.aload_n 0, 1) := by decide +kernel
theorem dX12_addLock_11 : decode cX12_addLock 11 = .ok (.getfield 187, 3) := by decide +kernel
theorem dX12_addLock_14 : decode cX12_addLock 14 = .ok (.aload_n 0, 1) := by decide +kernel
theorem dX12_addLock_15 : decode cX12_addLock 15 = .ok (.getfield 289, 3) := by decide +kernel
theorem dX12_addLock_18 : decode cX12_addLock 18 = .ok (.iload_n 3, 1) := by decide +kernel
theorem dX12_addLock_19 : decode cX12_addLock 19 = .ok (.iastore, 1) := by decide +kernel
theorem dX12_addLock_20 : decode cX12_addLock 20 = .ok (.aload_n 0, 1) := by decide +kernel
theorem dX12_addLock_21 : decode cX12_addLock 21 = .ok (.getfield 190, 3) := by decide +kernel
theorem dX12_addLock_24 : decode cX12_addLock 24 = .ok (.aload_n 0, 1) := by decide +kernel
theorem dX12_addLock_25 : decode cX12_addLock 25 = .ok (.getfield 289, 3) := by decide +kernel
theorem dX12_addLock_28 : decode cX12_addLock 28 = .ok (.lload 4, 2) := by decide +kernel
theorem dX12_addLock_30 : decode cX12_addLock 30 = .ok (.lastore, 1) := by decide +kernel
theorem dX12_addLock_31 : decode cX12_addLock 31 = .ok (.aload_n 0, 1) := by decide +kernel
theorem dX12_addLock_32 : decode cX12_addLock 32 = .ok (.getfield 193, 3) := by decide +kernel
theorem dX12_addLock_35 : decode cX12_addLock 35 = .ok (.aload_n 0, 1) := by decide +kernel
theorem dX12_addLock_36 : decode cX12_addLock 36 = .ok (.getfield 289, 3) := by decide +kernel
theorem dX12_addLock_39 : decode cX12_addLock 39 = .ok (.lload 6, 2) := by decide +kernel
theorem dX12_addLock_41 : decode cX12_addLock 41 = .ok (.lastore, 1) := by decide +kernel
theorem dX12_addLock_42 : decode cX12_addLock 42 = .ok (.aload_n 0, 1) := by decide +kernel
theorem dX12_addLock_43 : decode cX12_addLock 43 = .ok (.getfield 196, 3) := by decide +kernel
theorem dX12_addLock_46 : decode cX12_addLock 46 = .ok (.aload_n 0, 1) := by decide +kernel
theorem dX12_addLock_47 : decode cX12_addLock 47 = .ok (.getfield 289, 3) := by decide +kernel
theorem dX12_addLock_50 : decode cX12_addLock 50 = .ok (.iload 8, 2) := by decide +kernel
theorem dX12_addLock_52 : decode cX12_addLock 52 = .ok (.bastore, 1) := by decide +kernel
theorem dX12_addLock_53 : decode cX12_addLock 53 = .ok (.aload_n 0, 1) := by decide +kernel
theorem dX12_addLock_54 : decode cX12_addLock 54 = .ok (.dup, 1) := by decide +kernel
theorem dX12_addLock_55 : decode cX12_addLock 55 = .ok (.getfield 289, 3) := by decide +kernel
theorem dX12_addLock_58 : decode cX12_addLock 58 = .ok (.iconst 1, 1) := by decide +kernel
theorem dX12_addLock_59 : decode cX12_addLock 59 = .ok (.iadd, 1) := by decide +kernel
theorem dX12_addLock_60 : decode cX12_addLock 60 = .ok (.putfield 289, 3) := by decide +kernel
theorem dX12_addLock_63 : decode cX12_addLock 63 = .ok (.return_, 1) := by decide +kernel
set_option maxRecDepth 100000 in
set_option maxHeartbeats 4000000 in
theorem c_X12_addLock (l : Launch) (D : va_G) (t : Nat → ClassId) (h0 : Nat) (L : Nat → Nat) (σ : HS) (hM : MdI h0 L σ) (a1 : Int64) (a3 : Int32) (a4 : Int64) (a6 : Int64) (a8 : Int32) (post : HS → Prop) (hw : F_X12_addLock h0 L a1 a3 a4 a6 a8 post σ) (sz : Nat) : RMv l D t yX12_addLock cX12_addLock 9 ({ frames := 0, cells := 0, slots := 0, locals := 0 }) h0 L σ sz [.ref h0, .long a1, .int a3, .long a4, .long a6, .int a8] post := by
  refine h_go (τ := τT) okT (by decide) (Nat.le_of_ble_eq_true rfl) ?_
  intro p e s m below meth c ls A hF hr hlk hAe hH0 hA hl
  unfold hB
  rw [hAe]
  clear hAe
  have hF : FX p m c cX12_addLock 9 s _ RX12 D t := hF
  have hx := hF.1.1
  have hb := hF.1.2.1
  have hH : RT D t A s.heap h0 L σ s.heap [] := ⟨hH0, hM⟩
  have hl : lv_has ls 9 [(0, .ref h0), (1, .long a1), (3, .int a3), (4, .long a4), (6, .long a6), (8, .int a8)] := hl
  unfold F_X12_addLock at hw
  refine lv_aload_n hx hb dX12_addLock_0 rfl (lv_at hl 0 rfl) ?_
  refine w_getA 56 hF hH fk_X12_184 dX12_addLock_1 (by decide) rfl ?_
  refine lv_aload_n hx hb dX12_addLock_4 rfl (lv_at hl 0 rfl) ?_
  refine w_getI hF hH fk_X12_289 dX12_addLock_5 hw (fun z1 hw => ?_)
  refine lv_lload_n hx hb dX12_addLock_8 rfl (lv_at hl 1 rfl) ?_
  refine w_last 56 80 hF hH dX12_addLock_9 (by decide) rfl rfl hw (fun σ2 H locs hw hH => ?_)
  refine lv_aload_n hx hb dX12_addLock_10 rfl (lv_at hl 0 rfl) ?_
  refine w_getA 57 hF hH fk_X12_187 dX12_addLock_11 (by decide) rfl ?_
  refine lv_aload_n hx hb dX12_addLock_14 rfl (lv_at hl 0 rfl) ?_
  refine w_getI hF hH fk_X12_289 dX12_addLock_15 hw (fun z3 hw => ?_)
  refine lv_iload_n hx hb dX12_addLock_18 rfl (lv_at hl 2 rfl) ?_
  refine w_iast 57 80 hF hH dX12_addLock_19 (by decide) rfl rfl hw (fun σ4 H locs hw hH => ?_)
  refine lv_aload_n hx hb dX12_addLock_20 rfl (lv_at hl 0 rfl) ?_
  refine w_getA 58 hF hH fk_X12_190 dX12_addLock_21 (by decide) rfl ?_
  refine lv_aload_n hx hb dX12_addLock_24 rfl (lv_at hl 0 rfl) ?_
  refine w_getI hF hH fk_X12_289 dX12_addLock_25 hw (fun z5 hw => ?_)
  refine lv_lload hx hb dX12_addLock_28 (lv_at hl 3 rfl) ?_
  refine w_last 58 80 hF hH dX12_addLock_30 (by decide) rfl rfl hw (fun σ6 H locs hw hH => ?_)
  refine lv_aload_n hx hb dX12_addLock_31 rfl (lv_at hl 0 rfl) ?_
  refine w_getA 59 hF hH fk_X12_193 dX12_addLock_32 (by decide) rfl ?_
  refine lv_aload_n hx hb dX12_addLock_35 rfl (lv_at hl 0 rfl) ?_
  refine w_getI hF hH fk_X12_289 dX12_addLock_36 hw (fun z7 hw => ?_)
  refine lv_lload hx hb dX12_addLock_39 (lv_at hl 4 rfl) ?_
  refine w_last 59 80 hF hH dX12_addLock_41 (by decide) rfl rfl hw (fun σ8 H locs hw hH => ?_)
  refine lv_aload_n hx hb dX12_addLock_42 rfl (lv_at hl 0 rfl) ?_
  refine w_getA 60 hF hH fk_X12_196 dX12_addLock_43 (by decide) rfl ?_
  refine lv_aload_n hx hb dX12_addLock_46 rfl (lv_at hl 0 rfl) ?_
  refine w_getI hF hH fk_X12_289 dX12_addLock_47 hw (fun z9 hw => ?_)
  refine lv_iload hx hb dX12_addLock_50 (lv_at hl 5 rfl) ?_
  refine w_zast 60 80 hF hH dX12_addLock_52 (by decide) rfl rfl hw (fun σ10 H locs hw hH => ?_)
  refine lv_aload_n hx hb dX12_addLock_53 rfl (lv_at hl 0 rfl) ?_
  refine lv_dup hx hb dX12_addLock_54 rfl ?_
  refine w_getI hF hH fk_X12_289 dX12_addLock_55 hw (fun z11 hw => ?_)
  refine lv_iconst (v := 1) hx hb dX12_addLock_58 (by decide) ?_
  refine lv_iadd hx hb dX12_addLock_59 ?_
  refine w_nmi hw (fun z12 hw => ?_)
  refine w_putI hF hH fk_X12_289 dX12_addLock_60 rfl rfl rfl hw (fun σ13 H locs hw hH => ?_)
  exact w_retv hF hH hr hlk dX12_addLock_63 hw
def F_X12_lookLocks (h0 : Nat) (L : Nat → Nat)  (post : HS → Prop) (σ : HS) : Prop := lw (fun (K3 : Int32 → HS → Prop) (x1 : Int32) (σ2 : HS) => ∀ z5 : Int32, z5 = sI σ2 h0 69 → ((z5.toInt ≤ x1.toInt) → post σ2) ∧ ((x1.toInt < z5.toInt) → (0 ≤ x1.toInt ∧ x1.toInt < 16) ∧ ∀ z6 : Int32, z6 = sI σ2 (L 62) x1.toInt.toNat → jn (fun (K9 : Unit → HS → Prop) => ((¬ z6.toInt = (10 : Int32).toInt) → K9 () σ2) ∧ ((z6.toInt = (10 : Int32).toInt) → ∀ z13 : Int32, z13 = sI σ2 h0 63 → (((60 : Int32).toInt ≤ z13.toInt) → K9 () σ2) ∧ ((z13.toInt < (60 : Int32).toInt) → (0 ≤ x1.toInt ∧ x1.toInt < 16) ∧ ∀ z14 : Int32, z14 = sI σ2 (L 70) x1.toInt.toNat → (0 ≤ x1.toInt ∧ x1.toInt < 16) ∧ ∀ z15 : Int64, z15 = sJ σ2 (L 71) x1.toInt.toNat → (0 ≤ x1.toInt ∧ x1.toInt < 16) ∧ ∀ z16 : Int64, z16 = sJ σ2 (L 72) x1.toInt.toNat → (0 ≤ x1.toInt ∧ x1.toInt < 16) ∧ ∀ z17 : Int32, z17 = sI σ2 (L 73) x1.toInt.toNat → F_X12_canBe h0 L z14 z15 z16 z17 (fun (z19 : Int32) (σ18 : HS) => ((z19.toInt = 0) → K9 () σ18) ∧ ((¬ z19.toInt = 0) → (0 ≤ x1.toInt ∧ x1.toInt < 16) ∧ ∀ z20 : Int64, z20 = sJ σ18 (L 69) x1.toInt.toNat → (0 ≤ x1.toInt ∧ x1.toInt < 16) ∧ ∀ z21 : Int32, z21 = sI σ18 (L 70) x1.toInt.toNat → (0 ≤ x1.toInt ∧ x1.toInt < 16) ∧ ∀ z22 : Int64, z22 = sJ σ18 (L 71) x1.toInt.toNat → (0 ≤ x1.toInt ∧ x1.toInt < 16) ∧ ∀ z23 : Int64, z23 = sJ σ18 (L 72) x1.toInt.toNat → (0 ≤ x1.toInt ∧ x1.toInt < 16) ∧ ∀ z24 : Int32, z24 = sI σ18 (L 73) x1.toInt.toNat → F_X12_addLock h0 L z20 z21 z22 z23 z24 (fun (σ25 : HS) => F_X12_give h0 L x1 0 (fun (σ27 : HS) => K3 x1 σ27) σ25) σ18)) σ2))) (fun (x7 : Unit) (σ8 : HS) => ∀ z12 : Int32, z12 = x1 + 1 → K3 z12 σ8))) 0 σ
theorem dX12_lookLocks_0 : decode cX12_lookLocks 0 = .ok (.iconst 0, 1) := by decide +kernel
theorem dX12_lookLocks_1 : decode cX12_lookLocks 1 = .ok (.istore_n 1, 1) := by decide +kernel
theorem dX12_lookLocks_2 : decode cX12_lookLocks 2 = .ok (.iload_n 1, 1) := by decide +kernel
theorem dX12_lookLocks_3 : decode cX12_lookLocks 3 = .ok (.aload_n 0, 1) := by decide +kernel
theorem dX12_lookLocks_4 : decode cX12_lookLocks 4 = .ok (.getfield 292, 3) := by decide +kernel
theorem dX12_lookLocks_7 : decode cX12_lookLocks 7 = .ok (.if_icmp .ge 103, 3) := by decide +kernel
theorem dX12_lookLocks_10 : decode cX12_lookLocks 10 = .ok (.aload_n 0, 1) := by decide +kernel
theorem dX12_lookLocks_11 : decode cX12_lookLocks 11 = .ok (.getfield 202, 3) := by decide +kernel
theorem dX12_lookLocks_14 : decode cX12_lookLocks 14 = .ok (.iload_n 1, 1) := by decide +kernel
theorem dX12_lookLocks_15 : decode cX12_lookLocks 15 = .ok (.iaload, 1) := by decide +kernel
theorem dX12_lookLocks_16 : decode cX12_lookLocks 16 = .ok (.bipush 10, 2) := by decide +kernel
theorem dX12_lookLocks_18 : decode cX12_lookLocks 18 = .ok (.if_icmp .ne 86, 3) := by decide +kernel
theorem dX12_lookLocks_21 : decode cX12_lookLocks 21 = .ok (.aload_n 0, 1) := by decide +kernel
theorem dX12_lookLocks_22 : decode cX12_lookLocks 22 = .ok (.getfield 289, 3) := by decide +kernel
theorem dX12_lookLocks_25 : decode cX12_lookLocks 25 = .ok (.bipush 60, 2) := by decide +kernel
theorem dX12_lookLocks_27 : decode cX12_lookLocks 27 = .ok (.if_icmp .ge 77, 3) := by decide +kernel
theorem dX12_lookLocks_30 : decode cX12_lookLocks 30 = .ok (.aload_n 0, 1) := by decide +kernel
theorem dX12_lookLocks_31 : decode cX12_lookLocks 31 = .ok (.aload_n 0, 1) := by decide +kernel
theorem dX12_lookLocks_32 : decode cX12_lookLocks 32 = .ok (.getfield 226, 3) := by decide +kernel
theorem dX12_lookLocks_35 : decode cX12_lookLocks 35 = .ok (.iload_n 1, 1) := by decide +kernel
theorem dX12_lookLocks_36 : decode cX12_lookLocks 36 = .ok (.iaload, 1) := by decide +kernel
theorem dX12_lookLocks_37 : decode cX12_lookLocks 37 = .ok (.aload_n 0, 1) := by decide +kernel
theorem dX12_lookLocks_38 : decode cX12_lookLocks 38 = .ok (.getfield 229, 3) := by decide +kernel
theorem dX12_lookLocks_41 : decode cX12_lookLocks 41 = .ok (.iload_n 1, 1) := by decide +kernel
theorem dX12_lookLocks_42 : decode cX12_lookLocks 42 = .ok (.laload, 1) := by decide +kernel
theorem dX12_lookLocks_43 : decode cX12_lookLocks 43 = .ok (.aload_n 0, 1) := by decide +kernel
theorem dX12_lookLocks_44 : decode cX12_lookLocks 44 = .ok (.getfield 232, 3) := by decide +kernel
theorem dX12_lookLocks_47 : decode cX12_lookLocks 47 = .ok (.iload_n 1, 1) := by decide +kernel
theorem dX12_lookLocks_48 : decode cX12_lookLocks 48 = .ok (.laload, 1) := by decide +kernel
theorem dX12_lookLocks_49 : decode cX12_lookLocks 49 = .ok (.aload_n 0, 1) := by decide +kernel
theorem dX12_lookLocks_50 : decode cX12_lookLocks 50 = .ok (.getfield 235, 3) := by decide +kernel
theorem dX12_lookLocks_53 : decode cX12_lookLocks 53 = .ok (.iload_n 1, 1) := by decide +kernel
theorem dX12_lookLocks_54 : decode cX12_lookLocks 54 = .ok (.baload, 1) := by decide +kernel
theorem dX12_lookLocks_55 : decode cX12_lookLocks 55 = .ok (.invokevirtual 780, 3) := by decide +kernel
theorem dX12_lookLocks_58 : decode cX12_lookLocks 58 = .ok (.ifCond .eq 46, 3) := by decide +kernel
theorem dX12_lookLocks_61 : decode cX12_lookLocks 61 = .ok (.aload_n 0, 1) := by decide +kernel
theorem dX12_lookLocks_62 : decode cX12_lookLocks 62 = .ok (.aload_n 0, 1) := by decide +kernel
theorem dX12_lookLocks_63 : decode cX12_lookLocks 63 = .ok (.getfield 223, 3) := by decide +kernel
theorem dX12_lookLocks_66 : decode cX12_lookLocks 66 = .ok (.iload_n 1, 1) := by decide +kernel
theorem dX12_lookLocks_67 : decode cX12_lookLocks 67 = .ok (.laload, 1) := by decide +kernel
theorem dX12_lookLocks_68 : decode cX12_lookLocks 68 = .ok (.aload_n 0, 1) := by decide +kernel
theorem dX12_lookLocks_69 : decode cX12_lookLocks 69 = .ok (.getfield 226, 3) := by decide +kernel
theorem dX12_lookLocks_72 : decode cX12_lookLocks 72 = .ok (.iload_n 1, 1) := by decide +kernel
theorem dX12_lookLocks_73 : decode cX12_lookLocks 73 = .ok (.iaload, 1) := by decide +kernel
theorem dX12_lookLocks_74 : decode cX12_lookLocks 74 = .ok (.aload_n 0, 1) := by decide +kernel
theorem dX12_lookLocks_75 : decode cX12_lookLocks 75 = .ok (.getfield 229, 3) := by decide +kernel
theorem dX12_lookLocks_78 : decode cX12_lookLocks 78 = .ok (.iload_n 1, 1) := by decide +kernel
theorem dX12_lookLocks_79 : decode cX12_lookLocks 79 = .ok (.laload, 1) := by decide +kernel
theorem dX12_lookLocks_80 : decode cX12_lookLocks 80 = .ok (.aload_n 0, 1) := by decide +kernel
theorem dX12_lookLocks_81 : decode cX12_lookLocks 81 = .ok (.getfield 232, 3) := by decide +kernel
theorem dX12_lookLocks_84 : decode cX12_lookLocks 84 = .ok (.iload_n 1, 1) := by decide +kernel
theorem dX12_lookLocks_85 : decode cX12_lookLocks 85 = .ok (.laload, 1) := by decide +kernel
theorem dX12_lookLocks_86 : decode cX12_lookLocks 86 = .ok (.aload_n 0, 1) := by decide +kernel
theorem dX12_lookLocks_87 : decode cX12_lookLocks 87 = .ok (.getfield 235, 3) := by decide +kernel
theorem dX12_lookLocks_90 : decode cX12_lookLocks 90 = .ok (.iload_n 1, 1) := by decide +kernel
theorem dX12_lookLocks_91 : decode cX12_lookLocks 91 = .ok (.baload, 1) := by decide +kernel
theorem dX12_lookLocks_92 : decode cX12_lookLocks 92 = .ok (.invokevirtual 784, 3) := by decide +kernel
theorem dX12_lookLocks_95 : decode cX12_lookLocks 95 = .ok (.aload_n 0, 1) := by decide +kernel
theorem dX12_lookLocks_96 : decode cX12_lookLocks 96 = .ok (.iload_n 1, 1) := by decide +kernel
theorem dX12_lookLocks_97 : decode cX12_lookLocks 97 = .ok (.lconst 0, 1) := by decide +kernel
theorem dX12_lookLocks_98 : decode cX12_lookLocks 98 = .ok (.invokevirtual 586, 3) := by decide +kernel
theorem dX12_lookLocks_101 : decode cX12_lookLocks 101 = .ok (.goto (-99), 3) := by decide +kernel
theorem dX12_lookLocks_104 : decode cX12_lookLocks 104 = .ok (.iinc 1 1, 3) := by decide +kernel
theorem dX12_lookLocks_107 : decode cX12_lookLocks 107 = .ok (.goto (-105), 3) := by decide +kernel
theorem dX12_lookLocks_110 : decode cX12_lookLocks 110 = .ok (.return_, 1) := by decide +kernel
set_option maxRecDepth 100000 in
set_option maxHeartbeats 4000000 in
theorem c_X12_lookLocks (l : Launch) (D : va_G) (t : Nat → ClassId) (h0 : Nat) (L : Nat → Nat) (σ : HS) (hM : MdI h0 L σ)  (post : HS → Prop) (hw : F_X12_lookLocks h0 L  post σ) (sz : Nat) : RMv l D t yX12_lookLocks cX12_lookLocks 2 ({ frames := 4, cells := 0, slots := 0, locals := 108 }) h0 L σ sz [.ref h0] post := by
  refine h_go (τ := τT) okT (by decide) (Nat.le_of_ble_eq_true rfl) ?_
  intro p e s m below meth c ls A hF hr hlk hAe hH0 hA hl
  unfold hB
  rw [hAe]
  clear hAe
  have hF : FX p m c cX12_lookLocks 2 s _ RX12 D t := hF
  have hx := hF.1.1
  have hb := hF.1.2.1
  have hH : RT D t A s.heap h0 L σ s.heap [] := ⟨hH0, hM⟩
  have hl : lv_has ls 2 [(0, .ref h0)] := hl
  unfold F_X12_lookLocks at hw
  refine lv_iconst (v := 0) hx hb dX12_lookLocks_0 (by decide) ?_
  refine lv_istore_n (lv' := [(1, .int 0), (0, .ref h0)]) hx hb dX12_lookLocks_1 rfl hl (by decide) rfl (fun ls hl => ?_)
  refine w_loop (β := Int32) (fun x1 => [(1, .int x1), (0, .ref h0)]) 0 hl hw hH (fun K3 x1 σ2 ls H locs hl hw hH ih4 => ?_)
  have hl : lv_has ls 2 [(1, .int x1), (0, .ref h0)] := hl
  refine lv_iload_n hx hb dX12_lookLocks_2 rfl (lv_at hl 0 rfl) ?_
  refine lv_aload_n hx hb dX12_lookLocks_3 rfl (lv_at hl 1 rfl) ?_
  refine w_getI hF hH fk_X12_292 dX12_lookLocks_4 hw (fun z5 hw => ?_)
  refine w_icmp_ge (tgt := 110) hF dX12_lookLocks_7 rfl hw (fun hw => ?_) (fun hw => ?_)
  · exact w_retv hF hH hr hlk dX12_lookLocks_110 hw
  · refine lv_aload_n hx hb dX12_lookLocks_10 rfl (lv_at hl 1 rfl) ?_
    refine w_getA 62 hF hH fk_X12_202 dX12_lookLocks_11 (by decide) rfl ?_
    refine lv_iload_n hx hb dX12_lookLocks_14 rfl (lv_at hl 0 rfl) ?_
    refine w_iald 62 16 hF hH dX12_lookLocks_15 (by decide) rfl rfl hw (fun z6 hw => ?_)
    refine lv_bipush (v := 10) hx hb dX12_lookLocks_16 (by decide) ?_
    obtain ⟨K9, hK10, hw⟩ := jn_open hw
    refine w_join (K := K9) 104 (fun (x7 : Unit) => [(1, .int x1), (0, .ref h0)]) (fun (x7 : Unit) => []) hl hH (fun x7 σ8 ls H locs hl hw hH => ?_) (fun jn11 => ?_)
    · have hw := hK10 x7 σ8 hw
      have hl : lv_has ls 2 [(1, .int x1), (0, .ref h0)] := hl
      obtain ⟨z12, ez12⟩ : ∃ z : Int32, z = x1 + 1 := ⟨_, rfl⟩
      have hw := hw z12 ez12
      refine lv_iinc (lv' := [(1, .int z12), (0, .ref h0)]) (k := 0) (v := z12) hx hb dX12_lookLocks_104 hl rfl ez12.symm (by decide) rfl (fun ls hl => ?_)
      refine lv_goto (tgt := 2) hx hb dX12_lookLocks_107 rfl ?_
      exact ih4 z12 σ8 ls _ _ hl hw hH
    · skip
      refine w_icmp_ne (tgt := 104) hF dX12_lookLocks_18 rfl hw (fun hw => ?_) (fun hw => ?_)
      · exact jn11 () σ2 ls _ _ hl hw hH
      · refine lv_aload_n hx hb dX12_lookLocks_21 rfl (lv_at hl 1 rfl) ?_
        refine w_getI hF hH fk_X12_289 dX12_lookLocks_22 hw (fun z13 hw => ?_)
        refine lv_bipush (v := 60) hx hb dX12_lookLocks_25 (by decide) ?_
        refine w_icmp_ge (tgt := 104) hF dX12_lookLocks_27 rfl hw (fun hw => ?_) (fun hw => ?_)
        · exact jn11 () σ2 ls _ _ hl hw hH
        · refine lv_aload_n hx hb dX12_lookLocks_30 rfl (lv_at hl 1 rfl) ?_
          refine lv_aload_n hx hb dX12_lookLocks_31 rfl (lv_at hl 1 rfl) ?_
          refine w_getA 70 hF hH fk_X12_226 dX12_lookLocks_32 (by decide) rfl ?_
          refine lv_iload_n hx hb dX12_lookLocks_35 rfl (lv_at hl 0 rfl) ?_
          refine w_iald 70 16 hF hH dX12_lookLocks_36 (by decide) rfl rfl hw (fun z14 hw => ?_)
          refine lv_aload_n hx hb dX12_lookLocks_37 rfl (lv_at hl 1 rfl) ?_
          refine w_getA 71 hF hH fk_X12_229 dX12_lookLocks_38 (by decide) rfl ?_
          refine lv_iload_n hx hb dX12_lookLocks_41 rfl (lv_at hl 0 rfl) ?_
          refine w_lald 71 16 hF hH dX12_lookLocks_42 (by decide) rfl rfl hw (fun z15 hw => ?_)
          refine lv_aload_n hx hb dX12_lookLocks_43 rfl (lv_at hl 1 rfl) ?_
          refine w_getA 72 hF hH fk_X12_232 dX12_lookLocks_44 (by decide) rfl ?_
          refine lv_iload_n hx hb dX12_lookLocks_47 rfl (lv_at hl 0 rfl) ?_
          refine w_lald 72 16 hF hH dX12_lookLocks_48 (by decide) rfl rfl hw (fun z16 hw => ?_)
          refine lv_aload_n hx hb dX12_lookLocks_49 rfl (lv_at hl 1 rfl) ?_
          refine w_getA 73 hF hH fk_X12_235 dX12_lookLocks_50 (by decide) rfl ?_
          refine lv_iload_n hx hb dX12_lookLocks_53 rfl (lv_at hl 0 rfl) ?_
          refine w_zald 73 16 hF hH dX12_lookLocks_54 (by decide) rfl rfl hw (fun z17 hw => ?_)
          refine w_cVi (As := [.int z14, .long z15, .long z16, .int z17]) (rest := []) hF hH hA mv_X12_780 (fun sz => c_X12_canBe l D t h0 L _ hH.2 z14 z15 z16 z17 _ hw sz) dX12_lookLocks_55 rfl rfl (by decide) rfl hl.1 (Nat.le_of_ble_eq_true rfl) (by decide) rfl (fun z19 σ18 H locs hw hH => ?_)
          refine w_if_eq (tgt := 104) hF dX12_lookLocks_58 rfl hw (fun hw => ?_) (fun hw => ?_)
          · exact jn11 () σ18 ls _ _ hl hw hH
          · refine lv_aload_n hx hb dX12_lookLocks_61 rfl (lv_at hl 1 rfl) ?_
            refine lv_aload_n hx hb dX12_lookLocks_62 rfl (lv_at hl 1 rfl) ?_
            refine w_getA 69 hF hH fk_X12_223 dX12_lookLocks_63 (by decide) rfl ?_
            refine lv_iload_n hx hb dX12_lookLocks_66 rfl (lv_at hl 0 rfl) ?_
            refine w_lald 69 16 hF hH dX12_lookLocks_67 (by decide) rfl rfl hw (fun z20 hw => ?_)
            refine lv_aload_n hx hb dX12_lookLocks_68 rfl (lv_at hl 1 rfl) ?_
            refine w_getA 70 hF hH fk_X12_226 dX12_lookLocks_69 (by decide) rfl ?_
            refine lv_iload_n hx hb dX12_lookLocks_72 rfl (lv_at hl 0 rfl) ?_
            refine w_iald 70 16 hF hH dX12_lookLocks_73 (by decide) rfl rfl hw (fun z21 hw => ?_)
            refine lv_aload_n hx hb dX12_lookLocks_74 rfl (lv_at hl 1 rfl) ?_
            refine w_getA 71 hF hH fk_X12_229 dX12_lookLocks_75 (by decide) rfl ?_
            refine lv_iload_n hx hb dX12_lookLocks_78 rfl (lv_at hl 0 rfl) ?_
            refine w_lald 71 16 hF hH dX12_lookLocks_79 (by decide) rfl rfl hw (fun z22 hw => ?_)
            refine lv_aload_n hx hb dX12_lookLocks_80 rfl (lv_at hl 1 rfl) ?_
            refine w_getA 72 hF hH fk_X12_232 dX12_lookLocks_81 (by decide) rfl ?_
            refine lv_iload_n hx hb dX12_lookLocks_84 rfl (lv_at hl 0 rfl) ?_
            refine w_lald 72 16 hF hH dX12_lookLocks_85 (by decide) rfl rfl hw (fun z23 hw => ?_)
            refine lv_aload_n hx hb dX12_lookLocks_86 rfl (lv_at hl 1 rfl) ?_
            refine w_getA 73 hF hH fk_X12_235 dX12_lookLocks_87 (by decide) rfl ?_
            refine lv_iload_n hx hb dX12_lookLocks_90 rfl (lv_at hl 0 rfl) ?_
            refine w_zald 73 16 hF hH dX12_lookLocks_91 (by decide) rfl rfl hw (fun z24 hw => ?_)
            refine w_cVv (As := [.long z20, .int z21, .long z22, .long z23, .int z24]) (rest := []) hF hH hA mv_X12_784 (fun sz => c_X12_addLock l D t h0 L _ hH.2 z20 z21 z22 z23 z24 _ hw sz) dX12_lookLocks_92 rfl rfl (by decide) rfl hl.1 (Nat.le_of_ble_eq_true rfl) (by decide) rfl (fun σ25 H locs hw hH => ?_)
            refine lv_aload_n hx hb dX12_lookLocks_95 rfl (lv_at hl 1 rfl) ?_
            refine lv_iload_n hx hb dX12_lookLocks_96 rfl (lv_at hl 0 rfl) ?_
            refine lv_lconst (v := 0) hx hb dX12_lookLocks_97 (by decide) ?_
            refine w_cVv (As := [.int x1, .long 0]) (rest := []) hF hH hA mv_X12_586 (fun sz => c_X12_give l D t h0 L _ hH.2 x1 0 _ hw sz) dX12_lookLocks_98 rfl rfl (by decide) rfl hl.1 (Nat.le_of_ble_eq_true rfl) (by decide) rfl (fun σ27 H locs hw hH => ?_)
            refine lv_goto (tgt := 2) hx hb dX12_lookLocks_101 rfl ?_
            exact ih4 x1 σ27 ls _ _ hl hw hH
def F_X12_number (h0 : Nat) (L : Nat → Nat) (a1 : Int32) (a2 : Int32) (post : Int64 → HS → Prop) (σ : HS) : Prop := ∀ z1 : Int32, z1 = a2 - 1 → lw (fun (K4 : (Int32 × Int64) → HS → Prop) (x2 : Int32 × Int64) (σ3 : HS) => ((x2.1.toInt < 0) → post x2.2 σ3) ∧ ((0 ≤ x2.1.toInt) → ∀ z6 : Int64, z6 = x2.2 <<< ((8 : Int32).toInt64 &&& 63) → ∀ z7 : Option Nat, z7 = sP σ3 h0 85 → ∀ z8 : Int32, z8 = sI σ3 h0 86 → ∀ z9 : Int32, z9 = z8 + a1 → ∀ z10 : Int32, z10 = z9 + x2.1 → ∃ j : Nat, (j = 29 ∨ j = 75) ∧ z7 = some (L j) ∧ (0 ≤ z10.toInt ∧ z10.toInt < (lnL.getD j 0 : Int)) ∧ ∀ z11 : Int32, z11 = sI σ3 (L j) z10.toInt.toNat → ∀ z12 : Int64, z12 = (z11 : Int32).toInt64 → ∀ z13 : Int64, z13 = z12 &&& 255 → ∀ z14 : Int64, z14 = z6 ||| z13 → ∀ z15 : Int32, z15 = x2.1 + (-1) → K4 (z15, z14) σ3)) (z1, 0) σ
theorem dX12_number_0 : decode cX12_number 0 = .ok (.lconst 0, 1) := by decide +kernel
theorem dX12_number_1 : decode cX12_number 1 = .ok (.lstore_n 3, 1) := by decide +kernel
theorem dX12_number_2 : decode cX12_number 2 = .ok (.iload_n 2, 1) := by decide +kernel
theorem dX12_number_3 : decode cX12_number 3 = .ok (.iconst 1, 1) := by decide +kernel
theorem dX12_number_4 : decode cX12_number 4 = .ok (.isub, 1) := by decide +kernel
theorem dX12_number_5 : decode cX12_number 5 = .ok (.istore 5, 2) := by decide +kernel
theorem dX12_number_7 : decode cX12_number 7 = .ok (.iload 5, 2) := by decide +kernel
theorem dX12_number_9 : decode cX12_number 9 = .ok (.ifCond .lt 34, 3) := by decide +kernel
theorem dX12_number_12 : decode cX12_number 12 = .ok (.lload_n 3, 1) := by decide +kernel
theorem dX12_number_13 : decode cX12_number 13 = .ok (.bipush 8, 2) := by decide +kernel
theorem dX12_number_15 : decode cX12_number 15 = .ok (.lshl, 1) := by decide +kernel
theorem dX12_number_16 : decode cX12_number 16 = .ok (.aload_n 0, 1) := by decide +kernel
theorem dX12_number_17 : decode cX12_number 17 = .ok (.getfield 356, 3) := by decide +kernel
theorem dX12_number_20 : decode cX12_number 20 = .ok (.aload_n 0, 1) := by decide +kernel
theorem dX12_number_21 : decode cX12_number 21 = .ok (.getfield 359, 3) := by decide +kernel
theorem dX12_number_24 : decode cX12_number 24 = .ok (.iload_n 1, 1) := by decide +kernel
theorem dX12_number_25 : decode cX12_number 25 = .ok (.iadd, 1) := by decide +kernel
theorem dX12_number_26 : decode cX12_number 26 = .ok (.iload 5, 2) := by decide +kernel
theorem dX12_number_28 : decode cX12_number 28 = .ok (.iadd, 1) := by decide +kernel
theorem dX12_number_29 : decode cX12_number 29 = .ok (.baload, 1) := by decide +kernel
theorem dX12_number_30 : decode cX12_number 30 = .ok (.i2l, 1) := by decide +kernel
theorem dX12_number_31 : decode cX12_number 31 = .ok (.ldc2_w 362, 3) := by decide +kernel
theorem dX12_number_34 : decode cX12_number 34 = .ok (.land, 1) := by decide +kernel
theorem dX12_number_35 : decode cX12_number 35 = .ok (.lor, 1) := by decide +kernel
theorem dX12_number_36 : decode cX12_number 36 = .ok (.lstore_n 3, 1) := by decide +kernel
theorem dX12_number_37 : decode cX12_number 37 = .ok (.iinc 5 (-1), 3) := by decide +kernel
theorem dX12_number_40 : decode cX12_number 40 = .ok (.goto (-33), 3) := by decide +kernel
theorem dX12_number_43 : decode cX12_number 43 = .ok (.lload_n 3, 1) := by decide +kernel
theorem dX12_number_44 : decode cX12_number 44 = .ok (.lreturn, 1) := by decide +kernel
set_option maxRecDepth 100000 in
set_option maxHeartbeats 4000000 in
theorem c_X12_number (l : Launch) (D : va_G) (t : Nat → ClassId) (h0 : Nat) (L : Nat → Nat) (σ : HS) (hM : MdI h0 L σ) (a1 : Int32) (a2 : Int32) (post : Int64 → HS → Prop) (hw : F_X12_number h0 L a1 a2 post σ) (sz : Nat) : RMl l D t yX12_number cX12_number 6 (some .long) ({ frames := 0, cells := 0, slots := 0, locals := 0 }) h0 L σ sz [.ref h0, .int a1, .int a2] post := by
  refine h_go (τ := τT) okT (by decide) (Nat.le_of_ble_eq_true rfl) ?_
  intro p e s m below meth c ls A hF hr hlk hAe hH0 hA hl
  unfold hB
  rw [hAe]
  clear hAe
  have hF : FX p m c cX12_number 6 s _ RX12 D t := hF
  have hx := hF.1.1
  have hb := hF.1.2.1
  have hH : RT D t A s.heap h0 L σ s.heap [] := ⟨hH0, hM⟩
  have hl : lv_has ls 6 [(0, .ref h0), (1, .int a1), (2, .int a2)] := hl
  unfold F_X12_number at hw
  refine lv_lconst (v := 0) hx hb dX12_number_0 (by decide) ?_
  refine lv_lstore_n (lv' := [(3, .long 0), (0, .ref h0), (1, .int a1), (2, .int a2)]) hx hb dX12_number_1 rfl hl (by decide) rfl (fun ls hl => ?_)
  refine lv_iload_n hx hb dX12_number_2 rfl (lv_at hl 3 rfl) ?_
  refine lv_iconst (v := 1) hx hb dX12_number_3 (by decide) ?_
  refine lv_isub hx hb dX12_number_4 ?_
  refine w_nmi hw (fun z1 hw => ?_)
  refine lv_istore (lv' := [(5, .int z1), (3, .long 0), (0, .ref h0), (1, .int a1), (2, .int a2)]) hx hb dX12_number_5 hl (by decide) rfl (fun ls hl => ?_)
  have hl : lv_has ls 6 [(5, .int z1), (3, .long 0), (1, .int a1), (0, .ref h0)] := lv_sub hl [0, 1, 3, 2] rfl
  refine w_loop (β := Int32 × Int64) (fun x2 => [(5, .int x2.1), (3, .long x2.2), (1, .int a1), (0, .ref h0)]) (z1, 0) hl hw hH (fun K4 x2 σ3 ls H locs hl hw hH ih5 => ?_)
  have hl : lv_has ls 6 [(5, .int x2.1), (3, .long x2.2), (1, .int a1), (0, .ref h0)] := hl
  refine lv_iload hx hb dX12_number_7 (lv_at hl 0 rfl) ?_
  refine w_if_lt (tgt := 43) hF dX12_number_9 rfl hw (fun hw => ?_) (fun hw => ?_)
  · refine lv_lload_n hx hb dX12_number_43 rfl (lv_at hl 1 rfl) ?_
    exact w_retl hF hH hr hlk dX12_number_44 hw
  · refine lv_lload_n hx hb dX12_number_12 rfl (lv_at hl 1 rfl) ?_
    refine lv_bipush (v := 8) hx hb dX12_number_13 (by decide) ?_
    refine lv_lshl hx hb dX12_number_15 rfl ?_
    refine w_nml hw (fun z6 hw => ?_)
    refine lv_aload_n hx hb dX12_number_16 rfl (lv_at hl 3 rfl) ?_
    refine w_getQ hF hH fk_X12_356 dX12_number_17 hw (fun z7 hw => ?_)
    refine lv_aload_n hx hb dX12_number_20 rfl (lv_at hl 3 rfl) ?_
    refine w_getI hF hH fk_X12_359 dX12_number_21 hw (fun z8 hw => ?_)
    refine lv_iload_n hx hb dX12_number_24 rfl (lv_at hl 2 rfl) ?_
    refine lv_iadd hx hb dX12_number_25 ?_
    refine w_nmi hw (fun z9 hw => ?_)
    refine lv_iload hx hb dX12_number_26 (lv_at hl 0 rfl) ?_
    refine lv_iadd hx hb dX12_number_28 ?_
    refine w_nmi hw (fun z10 hw => ?_)
    refine w_inald hF hH dX12_number_29 hw (fun z11 hw => ?_)
    refine lv_i2l hx hb dX12_number_30 rfl ?_
    refine w_nml hw (fun z12 hw => ?_)
    refine lv_ldc2 (v := 255) hx hb hF.1.2.2.2.1 (hF.1.2.2.2.2 _ (wc_47 13 rfl)) dX12_number_31 ?_
    refine lv_land hx hb dX12_number_34 ?_
    refine w_nml hw (fun z13 hw => ?_)
    refine lv_lor hx hb dX12_number_35 ?_
    refine w_nml hw (fun z14 hw => ?_)
    refine lv_lstore_n (lv' := [(3, .long z14), (5, .int x2.1), (1, .int a1), (0, .ref h0)]) hx hb dX12_number_36 rfl hl (by decide) rfl (fun ls hl => ?_)
    obtain ⟨z15, ez15⟩ : ∃ z : Int32, z = x2.1 + (-1) := ⟨_, rfl⟩
    have hw := hw z15 ez15
    refine lv_iinc (lv' := [(5, .int z15), (3, .long z14), (1, .int a1), (0, .ref h0)]) (k := 1) (v := z15) hx hb dX12_number_37 hl rfl ez15.symm (by decide) rfl (fun ls hl => ?_)
    refine lv_goto (tgt := 7) hx hb dX12_number_40 rfl ?_
    exact ih5 (z15, z14) σ3 ls _ _ hl hw hH
def F_X12_meant (h0 : Nat) (L : Nat → Nat) (a0 : Int64) (post : Int32 → HS → Prop) (σ : HS) : Prop := ∀ z1 : Int64, z1 = a0 &&& 2032127 → ∀ z2 : Int64, z2 = a0 &&& 2147483648 → jn (fun (K5 : Int64 → HS → Prop) => ((z2.toInt = (0 : Int64).toInt) → K5 0 σ) ∧ ((¬ z2.toInt = (0 : Int64).toInt) → K5 1179785 σ)) (fun (x3 : Int64) (σ4 : HS) => ∀ z8 : Int64, z8 = z1 ||| x3 → ∀ z9 : Int64, z9 = a0 &&& 1073741824 → jn (fun (K12 : Int64 → HS → Prop) => ((z9.toInt = (0 : Int64).toInt) → K12 0 σ4) ∧ ((¬ z9.toInt = (0 : Int64).toInt) → K12 1179926 σ4)) (fun (x10 : Int64) (σ11 : HS) => ∀ z15 : Int64, z15 = z8 ||| x10 → ∀ z16 : Int64, z16 = a0 &&& 536870912 → jn (fun (K19 : Int64 → HS → Prop) => ((z16.toInt = (0 : Int64).toInt) → K19 0 σ11) ∧ ((¬ z16.toInt = (0 : Int64).toInt) → K19 1179808 σ11)) (fun (x17 : Int64) (σ18 : HS) => ∀ z22 : Int64, z22 = z15 ||| x17 → ∀ z23 : Int64, z23 = a0 &&& 301989888 → jn (fun (K26 : Int64 → HS → Prop) => ((z23.toInt = (0 : Int64).toInt) → K26 0 σ18) ∧ ((¬ z23.toInt = (0 : Int64).toInt) → K26 2032127 σ18)) (fun (x24 : Int64) (σ25 : HS) => ∀ z29 : Int64, z29 = z22 ||| x24 → ∀ z30 : Int32, z30 = (z29 : Int64).toInt32 → post z30 σ25))))
theorem dX12_meant_0 : decode cX12_meant 0 = .ok (.lload_n 0, 1) := by decide +kernel
theorem dX12_meant_1 : decode cX12_meant 1 = .ok (.ldc2_w 615, 3) := by decide +kernel
theorem dX12_meant_4 : decode cX12_meant 4 = .ok (.land, 1) := by decide +kernel
theorem dX12_meant_5 : decode cX12_meant 5 = .ok (.lstore_n 2, 1) := by decide +kernel
theorem dX12_meant_6 : decode cX12_meant 6 = .ok (.lload_n 2, 1) := by decide +kernel
theorem dX12_meant_7 : decode cX12_meant 7 = .ok (.lload_n 0, 1) := by decide +kernel
theorem dX12_meant_8 : decode cX12_meant 8 = .ok (.ldc2_w 634, 3) := by decide +kernel
theorem dX12_meant_11 : decode cX12_meant 11 = .ok (.land, 1) := by decide +kernel
theorem dX12_meant_12 : decode cX12_meant 12 = .ok (.lconst 0, 1) := by decide +kernel
theorem dX12_meant_13 : decode cX12_meant 13 = .ok (.lcmp, 1) := by decide +kernel
theorem dX12_meant_14 : decode cX12_meant 14 = .ok (.ifCond .eq 9, 3) := by decide +kernel
theorem dX12_meant_17 : decode cX12_meant 17 = .ok (.ldc2_w 636, 3) := by decide +kernel
theorem dX12_meant_20 : decode cX12_meant 20 = .ok (.goto 4, 3) := by decide +kernel
theorem dX12_meant_23 : decode cX12_meant 23 = .ok (.lconst 0, 1) := by decide +kernel
theorem dX12_meant_24 : decode cX12_meant 24 = .ok (.lor, 1) := by decide +kernel
theorem dX12_meant_25 : decode cX12_meant 25 = .ok (.lstore_n 2, 1) := by decide +kernel
theorem dX12_meant_26 : decode cX12_meant 26 = .ok (.lload_n 2, 1) := by decide +kernel
theorem dX12_meant_27 : decode cX12_meant 27 = .ok (.lload_n 0, 1) := by decide +kernel
theorem dX12_meant_28 : decode cX12_meant 28 = .ok (.ldc2_w 638, 3) := by decide +kernel
theorem dX12_meant_31 : decode cX12_meant 31 = .ok (.land, 1) := by decide +kernel
theorem dX12_meant_32 : decode cX12_meant 32 = .ok (.lconst 0, 1) := by decide +kernel
theorem dX12_meant_33 : decode cX12_meant 33 = .ok (.lcmp, 1) := by decide +kernel
theorem dX12_meant_34 : decode cX12_meant 34 = .ok (.ifCond .eq 9, 3) := by decide +kernel
theorem dX12_meant_37 : decode cX12_meant 37 = .ok (.ldc2_w 640, 3) := by decide +kernel
theorem dX12_meant_40 : decode cX12_meant 40 = .ok (.goto 4, 3) := by decide +kernel
theorem dX12_meant_43 : decode cX12_meant 43 = .ok (.lconst 0, 1) := by decide +kernel
theorem dX12_meant_44 : decode cX12_meant 44 = .ok (.lor, 1) := by decide +kernel
theorem dX12_meant_45 : decode cX12_meant 45 = .ok (.lstore_n 2, 1) := by decide +kernel
theorem dX12_meant_46 : decode cX12_meant 46 = .ok (.lload_n 2, 1) := by decide +kernel
theorem dX12_meant_47 : decode cX12_meant 47 = .ok (.lload_n 0, 1) := by decide +kernel
theorem dX12_meant_48 : decode cX12_meant 48 = .ok (.ldc2_w 642, 3) := by decide +kernel
theorem dX12_meant_51 : decode cX12_meant 51 = .ok (.land, 1) := by decide +kernel
theorem dX12_meant_52 : decode cX12_meant 52 = .ok (.lconst 0, 1) := by decide +kernel
theorem dX12_meant_53 : decode cX12_meant 53 = .ok (.lcmp, 1) := by decide +kernel
theorem dX12_meant_54 : decode cX12_meant 54 = .ok (.ifCond .eq 9, 3) := by decide +kernel
theorem dX12_meant_57 : decode cX12_meant 57 = .ok (.ldc2_w 644, 3) := by decide +kernel
theorem dX12_meant_60 : decode cX12_meant 60 = .ok (.goto 4, 3) := by decide +kernel
theorem dX12_meant_63 : decode cX12_meant 63 = .ok (.lconst 0, 1) := by decide +kernel
theorem dX12_meant_64 : decode cX12_meant 64 = .ok (.lor, 1) := by decide +kernel
theorem dX12_meant_65 : decode cX12_meant 65 = .ok (.lstore_n 2, 1) := by decide +kernel
theorem dX12_meant_66 : decode cX12_meant 66 = .ok (.lload_n 2, 1) := by decide +kernel
theorem dX12_meant_67 : decode cX12_meant 67 = .ok (.lload_n 0, 1) := by decide +kernel
theorem dX12_meant_68 : decode cX12_meant 68 = .ok (.ldc2_w 646, 3) := by decide +kernel
theorem dX12_meant_71 : decode cX12_meant 71 = .ok (.land, 1) := by decide +kernel
theorem dX12_meant_72 : decode cX12_meant 72 = .ok (.lconst 0, 1) := by decide +kernel
theorem dX12_meant_73 : decode cX12_meant 73 = .ok (.lcmp, 1) := by decide +kernel
theorem dX12_meant_74 : decode cX12_meant 74 = .ok (.ifCond .eq 9, 3) := by decide +kernel
theorem dX12_meant_77 : decode cX12_meant 77 = .ok (.ldc2_w 615, 3) := by decide +kernel
theorem dX12_meant_80 : decode cX12_meant 80 = .ok (.goto 4, 3) := by decide +kernel
theorem dX12_meant_83 : decode cX12_meant 83 = .ok (.lconst 0, 1) := by decide +kernel
theorem dX12_meant_84 : decode cX12_meant 84 = .ok (.lor, 1) := by decide +kernel
theorem dX12_meant_85 : decode cX12_meant 85 = .ok (.lstore_n 2, 1) := by decide +kernel
theorem dX12_meant_86 : decode cX12_meant 86 = .ok (.lload_n 2, 1) := by decide +kernel
theorem dX12_meant_87 : decode cX12_meant 87 = .ok (.l2i, 1) := by decide +kernel
theorem dX12_meant_88 : decode cX12_meant 88 = .ok (.ireturn, 1) := by decide +kernel
set_option maxRecDepth 100000 in
set_option maxHeartbeats 4000000 in
theorem c_X12_meant (l : Launch) (D : va_G) (t : Nat → ClassId) (h0 : Nat) (L : Nat → Nat) (σ : HS) (hM : MdI h0 L σ) (a0 : Int64) (post : Int32 → HS → Prop) (hw : F_X12_meant h0 L a0 post σ) (sz : Nat) : RMi l D t yX12_meant cX12_meant 4 (some .int) ({ frames := 0, cells := 0, slots := 0, locals := 0 }) h0 L σ sz [.long a0] post := by
  refine h_go (τ := τT) okT (by decide) (Nat.le_of_ble_eq_true rfl) ?_
  intro p e s m below meth c ls A hF hr hlk hAe hH0 hA hl
  unfold hB
  rw [hAe]
  clear hAe
  have hF : FX p m c cX12_meant 4 s _ RX12 D t := hF
  have hx := hF.1.1
  have hb := hF.1.2.1
  have hH : RT D t A s.heap h0 L σ s.heap [] := ⟨hH0, hM⟩
  have hl : lv_has ls 4 [(0, .long a0)] := hl
  unfold F_X12_meant at hw
  refine lv_lload_n hx hb dX12_meant_0 rfl (lv_at hl 0 rfl) ?_
  refine lv_ldc2 (v := 2032127) hx hb hF.1.2.2.2.1 (hF.1.2.2.2.2 _ (wc_53 12 rfl)) dX12_meant_1 ?_
  refine lv_land hx hb dX12_meant_4 ?_
  refine w_nml hw (fun z1 hw => ?_)
  refine lv_lstore_n (lv' := [(2, .long z1), (0, .long a0)]) hx hb dX12_meant_5 rfl hl (by decide) rfl (fun ls hl => ?_)
  refine lv_lload_n hx hb dX12_meant_6 rfl (lv_at hl 0 rfl) ?_
  refine lv_lload_n hx hb dX12_meant_7 rfl (lv_at hl 1 rfl) ?_
  refine lv_ldc2 (v := 2147483648) hx hb hF.1.2.2.2.1 (hF.1.2.2.2.2 _ (wc_53 20 rfl)) dX12_meant_8 ?_
  refine lv_land hx hb dX12_meant_11 ?_
  refine w_nml hw (fun z2 hw => ?_)
  refine lv_lconst (v := 0) hx hb dX12_meant_12 (by decide) ?_
  obtain ⟨K5, hK6, hw⟩ := jn_open hw
  refine w_join (K := K5) 24 (fun (x3 : Int64) => [(0, .long a0)]) (fun (x3 : Int64) => [.long x3, .long z1]) hl hH (fun x3 σ4 ls H locs hl hw hH => ?_) (fun jn7 => ?_)
  · have hw := hK6 x3 σ4 hw
    have hl : lv_has ls 4 [(0, .long a0)] := hl
    refine lv_lor hx hb dX12_meant_24 ?_
    refine w_nml hw (fun z8 hw => ?_)
    refine lv_lstore_n (lv' := [(2, .long z8), (0, .long a0)]) hx hb dX12_meant_25 rfl hl (by decide) rfl (fun ls hl => ?_)
    refine lv_lload_n hx hb dX12_meant_26 rfl (lv_at hl 0 rfl) ?_
    refine lv_lload_n hx hb dX12_meant_27 rfl (lv_at hl 1 rfl) ?_
    refine lv_ldc2 (v := 1073741824) hx hb hF.1.2.2.2.1 (hF.1.2.2.2.2 _ (wc_53 22 rfl)) dX12_meant_28 ?_
    refine lv_land hx hb dX12_meant_31 ?_
    refine w_nml hw (fun z9 hw => ?_)
    refine lv_lconst (v := 0) hx hb dX12_meant_32 (by decide) ?_
    obtain ⟨K12, hK13, hw⟩ := jn_open hw
    refine w_join (K := K12) 44 (fun (x10 : Int64) => [(0, .long a0)]) (fun (x10 : Int64) => [.long x10, .long z8]) hl hH (fun x10 σ11 ls H locs hl hw hH => ?_) (fun jn14 => ?_)
    · have hw := hK13 x10 σ11 hw
      have hl : lv_has ls 4 [(0, .long a0)] := hl
      refine lv_lor hx hb dX12_meant_44 ?_
      refine w_nml hw (fun z15 hw => ?_)
      refine lv_lstore_n (lv' := [(2, .long z15), (0, .long a0)]) hx hb dX12_meant_45 rfl hl (by decide) rfl (fun ls hl => ?_)
      refine lv_lload_n hx hb dX12_meant_46 rfl (lv_at hl 0 rfl) ?_
      refine lv_lload_n hx hb dX12_meant_47 rfl (lv_at hl 1 rfl) ?_
      refine lv_ldc2 (v := 536870912) hx hb hF.1.2.2.2.1 (hF.1.2.2.2.2 _ (wc_53 24 rfl)) dX12_meant_48 ?_
      refine lv_land hx hb dX12_meant_51 ?_
      refine w_nml hw (fun z16 hw => ?_)
      refine lv_lconst (v := 0) hx hb dX12_meant_52 (by decide) ?_
      obtain ⟨K19, hK20, hw⟩ := jn_open hw
      refine w_join (K := K19) 64 (fun (x17 : Int64) => [(0, .long a0)]) (fun (x17 : Int64) => [.long x17, .long z15]) hl hH (fun x17 σ18 ls H locs hl hw hH => ?_) (fun jn21 => ?_)
      · have hw := hK20 x17 σ18 hw
        have hl : lv_has ls 4 [(0, .long a0)] := hl
        refine lv_lor hx hb dX12_meant_64 ?_
        refine w_nml hw (fun z22 hw => ?_)
        refine lv_lstore_n (lv' := [(2, .long z22), (0, .long a0)]) hx hb dX12_meant_65 rfl hl (by decide) rfl (fun ls hl => ?_)
        refine lv_lload_n hx hb dX12_meant_66 rfl (lv_at hl 0 rfl) ?_
        refine lv_lload_n hx hb dX12_meant_67 rfl (lv_at hl 1 rfl) ?_
        refine lv_ldc2 (v := 301989888) hx hb hF.1.2.2.2.1 (hF.1.2.2.2.2 _ (wc_53 26 rfl)) dX12_meant_68 ?_
        refine lv_land hx hb dX12_meant_71 ?_
        refine w_nml hw (fun z23 hw => ?_)
        refine lv_lconst (v := 0) hx hb dX12_meant_72 (by decide) ?_
        obtain ⟨K26, hK27, hw⟩ := jn_open hw
        refine w_join (K := K26) 84 (fun (x24 : Int64) => []) (fun (x24 : Int64) => [.long x24, .long z22]) hl hH (fun x24 σ25 ls H locs hl hw hH => ?_) (fun jn28 => ?_)
        · have hw := hK27 x24 σ25 hw
          have hl : lv_has ls 4 [] := hl
          refine lv_lor hx hb dX12_meant_84 ?_
          refine w_nml hw (fun z29 hw => ?_)
          refine lv_lstore_n (lv' := [(2, .long z29)]) hx hb dX12_meant_85 rfl hl (by decide) rfl (fun ls hl => ?_)
          refine lv_lload_n hx hb dX12_meant_86 rfl (lv_at hl 0 rfl) ?_
          refine lv_l2i hx hb dX12_meant_87 rfl ?_
          refine w_nmi hw (fun z30 hw => ?_)
          exact w_reti hF hH hr hlk rfl dX12_meant_88 hw
        · skip
          refine w_lif_eq (tgt := 83) hF dX12_meant_73 dX12_meant_74 rfl hw (fun hw => ?_) (fun hw => ?_)
          · refine lv_lconst (v := 0) hx hb dX12_meant_83 (by decide) ?_
            have hl : lv_has ls 4 [] := lv_sub hl [] rfl
            exact jn28 0 σ18 ls _ _ hl hw hH
          · refine lv_ldc2 (v := 2032127) hx hb hF.1.2.2.2.1 (hF.1.2.2.2.2 _ (wc_53 12 rfl)) dX12_meant_77 ?_
            refine lv_goto (tgt := 84) hx hb dX12_meant_80 rfl ?_
            have hl : lv_has ls 4 [] := lv_sub hl [] rfl
            exact jn28 2032127 σ18 ls _ _ hl hw hH
      · skip
        refine w_lif_eq (tgt := 63) hF dX12_meant_53 dX12_meant_54 rfl hw (fun hw => ?_) (fun hw => ?_)
        · refine lv_lconst (v := 0) hx hb dX12_meant_63 (by decide) ?_
          have hl : lv_has ls 4 [(0, .long a0)] := lv_sub hl [1] rfl
          exact jn21 0 σ11 ls _ _ hl hw hH
        · refine lv_ldc2 (v := 1179808) hx hb hF.1.2.2.2.1 (hF.1.2.2.2.2 _ (wc_53 25 rfl)) dX12_meant_57 ?_
          refine lv_goto (tgt := 64) hx hb dX12_meant_60 rfl ?_
          have hl : lv_has ls 4 [(0, .long a0)] := lv_sub hl [1] rfl
          exact jn21 1179808 σ11 ls _ _ hl hw hH
    · skip
      refine w_lif_eq (tgt := 43) hF dX12_meant_33 dX12_meant_34 rfl hw (fun hw => ?_) (fun hw => ?_)
      · refine lv_lconst (v := 0) hx hb dX12_meant_43 (by decide) ?_
        have hl : lv_has ls 4 [(0, .long a0)] := lv_sub hl [1] rfl
        exact jn14 0 σ4 ls _ _ hl hw hH
      · refine lv_ldc2 (v := 1179926) hx hb hF.1.2.2.2.1 (hF.1.2.2.2.2 _ (wc_53 23 rfl)) dX12_meant_37 ?_
        refine lv_goto (tgt := 44) hx hb dX12_meant_40 rfl ?_
        have hl : lv_has ls 4 [(0, .long a0)] := lv_sub hl [1] rfl
        exact jn14 1179926 σ4 ls _ _ hl hw hH
  · skip
    refine w_lif_eq (tgt := 23) hF dX12_meant_13 dX12_meant_14 rfl hw (fun hw => ?_) (fun hw => ?_)
    · refine lv_lconst (v := 0) hx hb dX12_meant_23 (by decide) ?_
      have hl : lv_has ls 4 [(0, .long a0)] := lv_sub hl [1] rfl
      exact jn7 0 σ ls _ _ hl hw hH
    · refine lv_ldc2 (v := 1179785) hx hb hF.1.2.2.2.1 (hF.1.2.2.2.2 _ (wc_53 21 rfl)) dX12_meant_17 ?_
      refine lv_goto (tgt := 24) hx hb dX12_meant_20 rfl ?_
      have hl : lv_has ls 4 [(0, .long a0)] := lv_sub hl [1] rfl
      exact jn7 1179785 σ ls _ _ hl hw hH
def F_X12_number2 (h0 : Nat) (L : Nat → Nat) (a1 : Int32) (post : Int32 → HS → Prop) (σ : HS) : Prop := F_X12_number h0 L a1 2 (fun (z2 : Int64) (σ1 : HS) => ∀ z3 : Int32, z3 = (z2 : Int64).toInt32 → post z3 σ1) σ
theorem dX12_number2_0 : decode cX12_number2 0 = .ok (.aload_n 0, 1) := by decide +kernel
theorem dX12_number2_1 : decode cX12_number2 1 = .ok (.iload_n 1, 1) := by decide +kernel
theorem dX12_number2_2 : decode cX12_number2 2 = .ok (.iconst 2, 1) := by decide +kernel
theorem dX12_number2_3 : decode cX12_number2 3 = .ok (.invokevirtual 364, 3) := by decide +kernel
theorem dX12_number2_6 : decode cX12_number2 6 = .ok (.l2i, 1) := by decide +kernel
theorem dX12_number2_7 : decode cX12_number2 7 = .ok (.ireturn, 1) := by decide +kernel
set_option maxRecDepth 100000 in
set_option maxHeartbeats 4000000 in
theorem c_X12_number2 (l : Launch) (D : va_G) (t : Nat → ClassId) (h0 : Nat) (L : Nat → Nat) (σ : HS) (hM : MdI h0 L σ) (a1 : Int32) (post : Int32 → HS → Prop) (hw : F_X12_number2 h0 L a1 post σ) (sz : Nat) : RMi l D t yX12_number2 cX12_number2 2 (some .int) ({ frames := 1, cells := 0, slots := 0, locals := 25 }) h0 L σ sz [.ref h0, .int a1] post := by
  refine h_go (τ := τT) okT (by decide) (Nat.le_of_ble_eq_true rfl) ?_
  intro p e s m below meth c ls A hF hr hlk hAe hH0 hA hl
  unfold hB
  rw [hAe]
  clear hAe
  have hF : FX p m c cX12_number2 2 s _ RX12 D t := hF
  have hx := hF.1.1
  have hb := hF.1.2.1
  have hH : RT D t A s.heap h0 L σ s.heap [] := ⟨hH0, hM⟩
  have hl : lv_has ls 2 [(0, .ref h0), (1, .int a1)] := hl
  unfold F_X12_number2 at hw
  refine lv_aload_n hx hb dX12_number2_0 rfl (lv_at hl 0 rfl) ?_
  refine lv_iload_n hx hb dX12_number2_1 rfl (lv_at hl 1 rfl) ?_
  refine lv_iconst (v := 2) hx hb dX12_number2_2 (by decide) ?_
  refine w_cVl (As := [.int a1, .int 2]) (rest := []) hF hH hA mv_X12_364 (fun sz => c_X12_number l D t h0 L _ hH.2 a1 2 _ hw sz) dX12_number2_3 rfl rfl (by decide) rfl hl.1 (Nat.le_of_ble_eq_true rfl) (by decide) rfl (fun z2 σ1 H locs hw hH => ?_)
  refine lv_l2i hx hb dX12_number2_6 rfl ?_
  refine w_nmi hw (fun z3 hw => ?_)
  exact w_reti hF hH hr hlk rfl dX12_number2_7 hw
def F_X12_isNameUnit (h0 : Nat) (L : Nat → Nat) (a0 : Int32) (post : Int32 → HS → Prop) (σ : HS) : Prop := jn (fun (K3 : Int32 → HS → Prop) => jn (fun (K8 : Unit → HS → Prop) => ((a0.toInt < (32 : Int32).toInt) → K8 () σ) ∧ (((32 : Int32).toInt ≤ a0.toInt) → (((126 : Int32).toInt < a0.toInt) → K8 () σ) ∧ ((a0.toInt ≤ (126 : Int32).toInt) → ((a0.toInt = (92 : Int32).toInt) → K8 () σ) ∧ ((¬ a0.toInt = (92 : Int32).toInt) → ((a0.toInt = (47 : Int32).toInt) → K8 () σ) ∧ ((¬ a0.toInt = (47 : Int32).toInt) → ((a0.toInt = (58 : Int32).toInt) → K8 () σ) ∧ ((¬ a0.toInt = (58 : Int32).toInt) → ((a0.toInt = (42 : Int32).toInt) → K8 () σ) ∧ ((¬ a0.toInt = (42 : Int32).toInt) → ((a0.toInt = (63 : Int32).toInt) → K8 () σ) ∧ ((¬ a0.toInt = (63 : Int32).toInt) → ((a0.toInt = (34 : Int32).toInt) → K8 () σ) ∧ ((¬ a0.toInt = (34 : Int32).toInt) → ((a0.toInt = (60 : Int32).toInt) → K8 () σ) ∧ ((¬ a0.toInt = (60 : Int32).toInt) → ((a0.toInt = (62 : Int32).toInt) → K8 () σ) ∧ ((¬ a0.toInt = (62 : Int32).toInt) → ((a0.toInt = (124 : Int32).toInt) → K8 () σ) ∧ ((¬ a0.toInt = (124 : Int32).toInt) → K3 1 σ)))))))))))) (fun (x6 : Unit) (σ7 : HS) => K3 0 σ7)) (fun (x1 : Int32) (σ2 : HS) => (0 ≤ x1.toInt ∧ x1.toInt ≤ 1) ∧ post x1 σ2)
theorem dX12_isNameUnit_0 : decode cX12_isNameUnit 0 = .ok (.iload_n 0, 1) := by decide +kernel
theorem dX12_isNameUnit_1 : decode cX12_isNameUnit 1 = .ok (.bipush 32, 2) := by decide +kernel
theorem dX12_isNameUnit_3 : decode cX12_isNameUnit 3 = .ok (.if_icmp .lt 67, 3) := by decide +kernel
theorem dX12_isNameUnit_6 : decode cX12_isNameUnit 6 = .ok (.iload_n 0, 1) := by decide +kernel
theorem dX12_isNameUnit_7 : decode cX12_isNameUnit 7 = .ok (.bipush 126, 2) := by decide +kernel
theorem dX12_isNameUnit_9 : decode cX12_isNameUnit 9 = .ok (.if_icmp .gt 61, 3) := by decide +kernel
theorem dX12_isNameUnit_12 : decode cX12_isNameUnit 12 = .ok (.iload_n 0, 1) := by decide +kernel
theorem dX12_isNameUnit_13 : decode cX12_isNameUnit 13 = .ok (.bipush 92, 2) := by decide +kernel
theorem dX12_isNameUnit_15 : decode cX12_isNameUnit 15 = .ok (.if_icmp .eq 55, 3) := by decide +kernel
theorem dX12_isNameUnit_18 : decode cX12_isNameUnit 18 = .ok (.iload_n 0, 1) := by decide +kernel
theorem dX12_isNameUnit_19 : decode cX12_isNameUnit 19 = .ok (.bipush 47, 2) := by decide +kernel
theorem dX12_isNameUnit_21 : decode cX12_isNameUnit 21 = .ok (.if_icmp .eq 49, 3) := by decide +kernel
theorem dX12_isNameUnit_24 : decode cX12_isNameUnit 24 = .ok (.iload_n 0, 1) := by decide +kernel
theorem dX12_isNameUnit_25 : decode cX12_isNameUnit 25 = .ok (.bipush 58, 2) := by decide +kernel
theorem dX12_isNameUnit_27 : decode cX12_isNameUnit 27 = .ok (.if_icmp .eq 43, 3) := by decide +kernel
theorem dX12_isNameUnit_30 : decode cX12_isNameUnit 30 = .ok (.iload_n 0, 1) := by decide +kernel
theorem dX12_isNameUnit_31 : decode cX12_isNameUnit 31 = .ok (.bipush 42, 2) := by decide +kernel
theorem dX12_isNameUnit_33 : decode cX12_isNameUnit 33 = .ok (.if_icmp .eq 37, 3) := by decide +kernel
theorem dX12_isNameUnit_36 : decode cX12_isNameUnit 36 = .ok (.iload_n 0, 1) := by decide +kernel
theorem dX12_isNameUnit_37 : decode cX12_isNameUnit 37 = .ok (.bipush 63, 2) := by decide +kernel
theorem dX12_isNameUnit_39 : decode cX12_isNameUnit 39 = .ok (.if_icmp .eq 31, 3) := by decide +kernel
theorem dX12_isNameUnit_42 : decode cX12_isNameUnit 42 = .ok (.iload_n 0, 1) := by decide +kernel
theorem dX12_isNameUnit_43 : decode cX12_isNameUnit 43 = .ok (.bipush 34, 2) := by decide +kernel
theorem dX12_isNameUnit_45 : decode cX12_isNameUnit 45 = .ok (.if_icmp .eq 25, 3) := by decide +kernel
theorem dX12_isNameUnit_48 : decode cX12_isNameUnit 48 = .ok (.iload_n 0, 1) := by decide +kernel
theorem dX12_isNameUnit_49 : decode cX12_isNameUnit 49 = .ok (.bipush 60, 2) := by decide +kernel
theorem dX12_isNameUnit_51 : decode cX12_isNameUnit 51 = .ok (.if_icmp .eq 19, 3) := by decide +kernel
theorem dX12_isNameUnit_54 : decode cX12_isNameUnit 54 = .ok (.iload_n 0, 1) := by decide +kernel
theorem dX12_isNameUnit_55 : decode cX12_isNameUnit 55 = .ok (.bipush 62, 2) := by decide +kernel
theorem dX12_isNameUnit_57 : decode cX12_isNameUnit 57 = .ok (.if_icmp .eq 13, 3) := by decide +kernel
theorem dX12_isNameUnit_60 : decode cX12_isNameUnit 60 = .ok (.iload_n 0, 1) := by decide +kernel
theorem dX12_isNameUnit_61 : decode cX12_isNameUnit 61 = .ok (.bipush 124, 2) := by decide +kernel
theorem dX12_isNameUnit_63 : decode cX12_isNameUnit 63 = .ok (.if_icmp .eq 7, 3) := by decide +kernel
theorem dX12_isNameUnit_66 : decode cX12_isNameUnit 66 = .ok (.iconst 1, 1) := by decide +kernel
theorem dX12_isNameUnit_67 : decode cX12_isNameUnit 67 = .ok (.goto 4, 3) := by decide +kernel
theorem dX12_isNameUnit_70 : decode cX12_isNameUnit 70 = .ok (.iconst 0, 1) := by decide +kernel
theorem dX12_isNameUnit_71 : decode cX12_isNameUnit 71 = .ok (.ireturn, 1) := by decide +kernel
set_option maxRecDepth 100000 in
set_option maxHeartbeats 4000000 in
theorem c_X12_isNameUnit (l : Launch) (D : va_G) (t : Nat → ClassId) (h0 : Nat) (L : Nat → Nat) (σ : HS) (hM : MdI h0 L σ) (a0 : Int32) (post : Int32 → HS → Prop) (hw : F_X12_isNameUnit h0 L a0 post σ) (sz : Nat) : RMi l D t yX12_isNameUnit cX12_isNameUnit 1 (some .boolean) ({ frames := 0, cells := 0, slots := 0, locals := 0 }) h0 L σ sz [.int a0] post := by
  refine h_go (τ := τT) okT (by decide) (Nat.le_of_ble_eq_true rfl) ?_
  intro p e s m below meth c ls A hF hr hlk hAe hH0 hA hl
  unfold hB
  rw [hAe]
  clear hAe
  have hF : FX p m c cX12_isNameUnit 1 s _ RX12 D t := hF
  have hx := hF.1.1
  have hb := hF.1.2.1
  have hH : RT D t A s.heap h0 L σ s.heap [] := ⟨hH0, hM⟩
  have hl : lv_has ls 1 [(0, .int a0)] := hl
  unfold F_X12_isNameUnit at hw
  refine lv_iload_n hx hb dX12_isNameUnit_0 rfl (lv_at hl 0 rfl) ?_
  refine lv_bipush (v := 32) hx hb dX12_isNameUnit_1 (by decide) ?_
  obtain ⟨K3, hK4, hw⟩ := jn_open hw
  refine w_join (K := K3) 71 (fun (x1 : Int32) => []) (fun (x1 : Int32) => [.int x1]) hl hH (fun x1 σ2 ls H locs hl hw hH => ?_) (fun jn5 => ?_)
  · have hw := hK4 x1 σ2 hw
    have hl : lv_has ls 1 [] := hl
    exact w_retz hF hH hr hlk dX12_isNameUnit_71 hw
  · skip
    obtain ⟨K8, hK9, hw⟩ := jn_open hw
    refine w_join (K := K8) 70 (fun (x6 : Unit) => []) (fun (x6 : Unit) => []) hl hH (fun x6 σ7 ls H locs hl hw hH => ?_) (fun jn10 => ?_)
    · have hw := hK9 x6 σ7 hw
      have hl : lv_has ls 1 [] := hl
      refine lv_iconst (v := 0) hx hb dX12_isNameUnit_70 (by decide) ?_
      exact jn5 0 σ7 ls _ _ hl hw hH
    · skip
      refine w_icmp_lt (tgt := 70) hF dX12_isNameUnit_3 rfl hw (fun hw => ?_) (fun hw => ?_)
      · have hl : lv_has ls 1 [] := lv_sub hl [] rfl
        exact jn10 () σ ls _ _ hl hw hH
      · refine lv_iload_n hx hb dX12_isNameUnit_6 rfl (lv_at hl 0 rfl) ?_
        refine lv_bipush (v := 126) hx hb dX12_isNameUnit_7 (by decide) ?_
        refine w_icmp_gt (tgt := 70) hF dX12_isNameUnit_9 rfl hw (fun hw => ?_) (fun hw => ?_)
        · have hl : lv_has ls 1 [] := lv_sub hl [] rfl
          exact jn10 () σ ls _ _ hl hw hH
        · refine lv_iload_n hx hb dX12_isNameUnit_12 rfl (lv_at hl 0 rfl) ?_
          refine lv_bipush (v := 92) hx hb dX12_isNameUnit_13 (by decide) ?_
          refine w_icmp_eq (tgt := 70) hF dX12_isNameUnit_15 rfl hw (fun hw => ?_) (fun hw => ?_)
          · have hl : lv_has ls 1 [] := lv_sub hl [] rfl
            exact jn10 () σ ls _ _ hl hw hH
          · refine lv_iload_n hx hb dX12_isNameUnit_18 rfl (lv_at hl 0 rfl) ?_
            refine lv_bipush (v := 47) hx hb dX12_isNameUnit_19 (by decide) ?_
            refine w_icmp_eq (tgt := 70) hF dX12_isNameUnit_21 rfl hw (fun hw => ?_) (fun hw => ?_)
            · have hl : lv_has ls 1 [] := lv_sub hl [] rfl
              exact jn10 () σ ls _ _ hl hw hH
            · refine lv_iload_n hx hb dX12_isNameUnit_24 rfl (lv_at hl 0 rfl) ?_
              refine lv_bipush (v := 58) hx hb dX12_isNameUnit_25 (by decide) ?_
              refine w_icmp_eq (tgt := 70) hF dX12_isNameUnit_27 rfl hw (fun hw => ?_) (fun hw => ?_)
              · have hl : lv_has ls 1 [] := lv_sub hl [] rfl
                exact jn10 () σ ls _ _ hl hw hH
              · refine lv_iload_n hx hb dX12_isNameUnit_30 rfl (lv_at hl 0 rfl) ?_
                refine lv_bipush (v := 42) hx hb dX12_isNameUnit_31 (by decide) ?_
                refine w_icmp_eq (tgt := 70) hF dX12_isNameUnit_33 rfl hw (fun hw => ?_) (fun hw => ?_)
                · have hl : lv_has ls 1 [] := lv_sub hl [] rfl
                  exact jn10 () σ ls _ _ hl hw hH
                · refine lv_iload_n hx hb dX12_isNameUnit_36 rfl (lv_at hl 0 rfl) ?_
                  refine lv_bipush (v := 63) hx hb dX12_isNameUnit_37 (by decide) ?_
                  refine w_icmp_eq (tgt := 70) hF dX12_isNameUnit_39 rfl hw (fun hw => ?_) (fun hw => ?_)
                  · have hl : lv_has ls 1 [] := lv_sub hl [] rfl
                    exact jn10 () σ ls _ _ hl hw hH
                  · refine lv_iload_n hx hb dX12_isNameUnit_42 rfl (lv_at hl 0 rfl) ?_
                    refine lv_bipush (v := 34) hx hb dX12_isNameUnit_43 (by decide) ?_
                    refine w_icmp_eq (tgt := 70) hF dX12_isNameUnit_45 rfl hw (fun hw => ?_) (fun hw => ?_)
                    · have hl : lv_has ls 1 [] := lv_sub hl [] rfl
                      exact jn10 () σ ls _ _ hl hw hH
                    · refine lv_iload_n hx hb dX12_isNameUnit_48 rfl (lv_at hl 0 rfl) ?_
                      refine lv_bipush (v := 60) hx hb dX12_isNameUnit_49 (by decide) ?_
                      refine w_icmp_eq (tgt := 70) hF dX12_isNameUnit_51 rfl hw (fun hw => ?_) (fun hw => ?_)
                      · have hl : lv_has ls 1 [] := lv_sub hl [] rfl
                        exact jn10 () σ ls _ _ hl hw hH
                      · refine lv_iload_n hx hb dX12_isNameUnit_54 rfl (lv_at hl 0 rfl) ?_
                        refine lv_bipush (v := 62) hx hb dX12_isNameUnit_55 (by decide) ?_
                        refine w_icmp_eq (tgt := 70) hF dX12_isNameUnit_57 rfl hw (fun hw => ?_) (fun hw => ?_)
                        · have hl : lv_has ls 1 [] := lv_sub hl [] rfl
                          exact jn10 () σ ls _ _ hl hw hH
                        · refine lv_iload_n hx hb dX12_isNameUnit_60 rfl (lv_at hl 0 rfl) ?_
                          refine lv_bipush (v := 124) hx hb dX12_isNameUnit_61 (by decide) ?_
                          refine w_icmp_eq (tgt := 70) hF dX12_isNameUnit_63 rfl hw (fun hw => ?_) (fun hw => ?_)
                          · have hl : lv_has ls 1 [] := lv_sub hl [] rfl
                            exact jn10 () σ ls _ _ hl hw hH
                          · refine lv_iconst (v := 1) hx hb dX12_isNameUnit_66 (by decide) ?_
                            refine lv_goto (tgt := 71) hx hb dX12_isNameUnit_67 rfl ?_
                            have hl : lv_has ls 1 [] := lv_sub hl [] rfl
                            exact jn5 1 σ ls _ _ hl hw hH
def F_X12_readPath (h0 : Nat) (L : Nat → Nat) (a1 : Int32) (a2 : Int64) (post : Int32 → HS → Prop) (σ : HS) : Prop := ∀ z1 : Int64, z1 = a2 - a2 / 2 * 2 → jn (fun (K4 : Unit → HS → Prop) => ((¬ z1.toInt = (0 : Int64).toInt) → K4 () σ) ∧ ((z1.toInt = (0 : Int64).toInt) → ((a2.toInt ≤ (240 : Int64).toInt) → ∀ z7 : Int32, z7 = (a2 : Int64).toInt32 → ∀ z8 : Int32, z8 = z7 / 2 → ∀ σ9 : HS, σ9 = h_uI σ h0 115 0 → ((¬ z8.toInt = 0) → ∀ σ10 : HS, σ10 = h_uI σ9 h0 115 1 → (0 ≤ (0 : Int32).toInt ∧ (0 : Int32).toInt < 130) ∧ ∀ σ11 : HS, σ11 = h_uI σ10 (L 78) (0 : Int32).toInt.toNat 0 → (0 ≤ (0 : Int32).toInt ∧ (0 : Int32).toInt < 130) ∧ ∀ σ12 : HS, σ12 = h_uI σ11 (L 79) (0 : Int32).toInt.toNat 0 → lw (fun (K15 : (Int32 × Int32) → HS → Prop) (x13 : Int32 × Int32) (σ14 : HS) => ((z8.toInt ≤ x13.1.toInt) → lw (fun (K19 : (Int32 × Int32) → HS → Prop) (x17 : Int32 × Int32) (σ18 : HS) => ∀ z21 : Int32, z21 = sI σ18 h0 115 → ((z21.toInt ≤ x17.1.toInt) → (0 ≤ x17.2.toInt ∧ x17.2.toInt ≤ 1) ∧ post x17.2 σ18) ∧ ((x17.1.toInt < z21.toInt) → (0 ≤ x17.1.toInt ∧ x17.1.toInt < 130) ∧ ∀ z22 : Int32, z22 = sI σ18 (L 79) x17.1.toInt.toNat → jn (fun (K25 : Int32 → HS → Prop) => (((2 : Int32).toInt < z22.toInt) → K25 0 σ18) ∧ ((z22.toInt ≤ (2 : Int32).toInt) → K25 1 σ18)) (fun (x23 : Int32) (σ24 : HS) => lw (fun (K30 : (Int32 × Int32) → HS → Prop) (x28 : Int32 × Int32) (σ29 : HS) => (0 ≤ x17.1.toInt ∧ x17.1.toInt < 130) ∧ ∀ z32 : Int32, z32 = sI σ29 (L 79) x17.1.toInt.toNat → ((z32.toInt ≤ x28.1.toInt) → jn (fun (K35 : Int32 → HS → Prop) => jn (fun (K41 : Unit → HS → Prop) => ((x17.2.toInt = 0) → K41 () σ29) ∧ ((¬ x17.2.toInt = 0) → (0 ≤ x17.1.toInt ∧ x17.1.toInt < 130) ∧ ∀ z44 : Int32, z44 = sI σ29 (L 79) x17.1.toInt.toNat → ((z44.toInt < (1 : Int32).toInt) → K41 () σ29) ∧ (((1 : Int32).toInt ≤ z44.toInt) → (0 ≤ x17.1.toInt ∧ x17.1.toInt < 130) ∧ ∀ z45 : Int32, z45 = sI σ29 (L 79) x17.1.toInt.toNat → (((12 : Int32).toInt < z45.toInt) → K41 () σ29) ∧ ((z45.toInt ≤ (12 : Int32).toInt) → ((¬ x28.2.toInt = 0) → K41 () σ29) ∧ ((x28.2.toInt = 0) → K35 1 σ29))))) (fun (x39 : Unit) (σ40 : HS) => K35 0 σ40)) (fun (x33 : Int32) (σ34 : HS) => ∀ z38 : Int32, z38 = x17.1 + 1 → K19 (z38, x33) σ34)) ∧ ((x28.1.toInt < z32.toInt) → jn (fun (K48 : Int32 → HS → Prop) => jn (fun (K54 : Unit → HS → Prop) => ((x28.2.toInt = 0) → K54 () σ29) ∧ ((¬ x28.2.toInt = 0) → (0 ≤ x17.1.toInt ∧ x17.1.toInt < 130) ∧ ∀ z57 : Int32, z57 = sI σ29 (L 78) x17.1.toInt.toNat → ∀ z58 : Int32, z58 = z57 + x28.1 → (0 ≤ z58.toInt ∧ z58.toInt < 130) ∧ ∀ z59 : Int32, z59 = sI σ29 (L 77) z58.toInt.toNat → ((¬ z59.toInt = (46 : Int32).toInt) → K54 () σ29) ∧ ((z59.toInt = (46 : Int32).toInt) → K48 1 σ29))) (fun (x52 : Unit) (σ53 : HS) => K48 0 σ53)) (fun (x46 : Int32) (σ47 : HS) => ∀ z51 : Int32, z51 = x28.1 + 1 → K30 (z51, x46) σ47))) (0, x23) σ24))) (0, x13.2) σ14) ∧ ((x13.1.toInt < z8.toInt) → ∀ z60 : Int32, z60 = 2 * x13.1 → ∀ z61 : Int32, z61 = a1 + z60 → F_X12_number2 h0 L z61 (fun (z63 : Int32) (σ62 : HS) => (0 ≤ x13.1.toInt ∧ x13.1.toInt < 130) ∧ ∀ σ64 : HS, σ64 = h_uI σ62 (L 77) x13.1.toInt.toNat z63 → (0 ≤ x13.1.toInt ∧ x13.1.toInt < 130) ∧ ∀ z65 : Int32, z65 = sI σ64 (L 77) x13.1.toInt.toNat → jn (fun (K68 : Int32 → HS → Prop) => ((¬ z65.toInt = (92 : Int32).toInt) → jn (fun (K74 : Int32 → HS → Prop) => jn (fun (K84 : Unit → HS → Prop) => ((x13.2.toInt = 0) → K84 () σ64) ∧ ((¬ x13.2.toInt = 0) → (0 ≤ x13.1.toInt ∧ x13.1.toInt < 130) ∧ ∀ z87 : Int32, z87 = sI σ64 (L 77) x13.1.toInt.toNat → F_X12_isNameUnit h0 L z87 (fun (z89 : Int32) (σ88 : HS) => ((z89.toInt = 0) → K84 () σ88) ∧ ((¬ z89.toInt = 0) → K74 1 σ88)) σ64)) (fun (x82 : Unit) (σ83 : HS) => K74 0 σ83)) (fun (x72 : Int32) (σ73 : HS) => ∀ z77 : Int32, z77 = sI σ73 h0 115 → ∀ z78 : Int32, z78 = z77 - 1 → (0 ≤ z78.toInt ∧ z78.toInt < 130) ∧ ∀ z79 : Int32, z79 = sI σ73 (L 79) z78.toInt.toNat → ∀ z80 : Int32, z80 = z79 + 1 → (0 ≤ z78.toInt ∧ z78.toInt < 130) ∧ ∀ σ81 : HS, σ81 = h_uI σ73 (L 79) z78.toInt.toNat z80 → K68 x72 σ81)) ∧ ((z65.toInt = (92 : Int32).toInt) → ∀ z90 : Int32, z90 = sI σ64 h0 115 → ∀ z91 : Int32, z91 = x13.1 + 1 → (0 ≤ z90.toInt ∧ z90.toInt < 130) ∧ ∀ σ92 : HS, σ92 = h_uI σ64 (L 78) z90.toInt.toNat z91 → ∀ z93 : Int32, z93 = sI σ92 h0 115 → (0 ≤ z93.toInt ∧ z93.toInt < 130) ∧ ∀ σ94 : HS, σ94 = h_uI σ92 (L 79) z93.toInt.toNat 0 → ∀ z95 : Int32, z95 = sI σ94 h0 115 → ∀ z96 : Int32, z96 = z95 + 1 → ∀ σ97 : HS, σ97 = h_uI σ94 h0 115 z96 → K68 x13.2 σ97)) (fun (x66 : Int32) (σ67 : HS) => ∀ z71 : Int32, z71 = x13.1 + 1 → K15 (z71, x66) σ67)) σ14)) (0, 1) σ12) ∧ ((z8.toInt = 0) → (0 ≤ (1 : Int32).toInt ∧ (1 : Int32).toInt ≤ 1) ∧ post 1 σ9)) ∧ (((240 : Int64).toInt < a2.toInt) → K4 () σ))) (fun (x2 : Unit) (σ3 : HS) => (0 ≤ (0 : Int32).toInt ∧ (0 : Int32).toInt ≤ 1) ∧ post 0 σ3)
theorem dX12_readPath_0 : decode cX12_readPath 0 = .ok (.lload_n 2, 1) := by decide +kernel
theorem dX12_readPath_1 : decode cX12_readPath 1 = .ok (.ldc2_w 465, 3) := by decide +kernel
theorem dX12_readPath_4 : decode cX12_readPath 4 = .ok (.lrem, 1) := by decide +kernel
theorem dX12_readPath_5 : decode cX12_readPath 5 = .ok (.lconst 0, 1) := by decide +kernel
theorem dX12_readPath_6 : decode cX12_readPath 6 = .ok (.lcmp, 1) := by decide +kernel
theorem dX12_readPath_7 : decode cX12_readPath 7 = .ok (.ifCond .ne 11, 3) := by decide +kernel
theorem dX12_readPath_10 : decode cX12_readPath 10 = .ok (.lload_n 2, 1) := by decide +kernel
theorem dX12_readPath_11 : decode cX12_readPath 11 = .ok (.ldc2_w 617, 3) := by decide +kernel
theorem dX12_readPath_14 : decode cX12_readPath 14 = .ok (.lcmp, 1) := by decide +kernel
theorem dX12_readPath_15 : decode cX12_readPath 15 = .ok (.ifCond .le 5, 3) := by decide +kernel
theorem dX12_readPath_18 : decode cX12_readPath 18 = .ok (.iconst 0, 1) := by decide +kernel
theorem dX12_readPath_19 : decode cX12_readPath 19 = .ok (.ireturn, 1) := by decide +kernel
theorem dX12_readPath_20 : decode cX12_readPath 20 = .ok (.lload_n 2, 1) := by decide +kernel
theorem dX12_readPath_21 : decode cX12_readPath 21 = .ok (.l2i, 1) := by decide +kernel
theorem dX12_readPath_22 : decode cX12_readPath 22 = .ok (.iconst 2, 1) := by decide +kernel
theorem dX12_readPath_23 : decode cX12_readPath 23 = .ok (.idiv, 1) := by decide +kernel
theorem dX12_readPath_24 : decode cX12_readPath 24 = .ok (.istore 4, 2) := by decide +kernel
theorem dX12_readPath_26 : decode cX12_readPath 26 = .ok (.aload_n 0, 1) := by decide +kernel
theorem dX12_readPath_27 : decode cX12_readPath 27 = .ok (.iconst 0, 1) := by decide +kernel
theorem dX12_readPath_28 : decode cX12_readPath 28 = .ok (.putfield 619, 3) := by decide +kernel
theorem dX12_readPath_31 : decode cX12_readPath 31 = .ok (.iload 4, 2) := by decide +kernel
theorem dX12_readPath_33 : decode cX12_readPath 33 = .ok (.ifCond .ne 5, 3) := by decide +kernel
theorem dX12_readPath_36 : decode cX12_readPath 36 = .ok (.iconst 1, 1) := by decide +kernel
theorem dX12_readPath_37 : decode cX12_readPath 37 = .ok (.ireturn, 1) := by decide +kernel
theorem dX12_readPath_38 : decode cX12_readPath 38 = .ok (.aload_n 0, 1) := by decide +kernel
theorem dX12_readPath_39 : decode cX12_readPath 39 = .ok (.iconst 1, 1) := by decide +kernel
theorem dX12_readPath_40 : decode cX12_readPath 40 = .ok (.putfield 619, 3) := by decide +kernel
theorem dX12_readPath_43 : decode cX12_readPath 43 = .ok (.aload_n 0, 1) := by decide +kernel
theorem dX12_readPath_44 : decode cX12_readPath 44 = .ok (.getfield 252, 3) := by decide +kernel
theorem dX12_readPath_47 : decode cX12_readPath 47 = .ok (.iconst 0, 1) := by decide +kernel
theorem dX12_readPath_48 : decode cX12_readPath 48 = .ok (.iconst 0, 1) := by decide +kernel
theorem dX12_readPath_49 : decode cX12_readPath 49 = .ok (.iastore, 1) := by decide +kernel
theorem dX12_readPath_50 : decode cX12_readPath 50 = .ok (.aload_n 0, 1) := by decide +kernel
theorem dX12_readPath_51 : decode cX12_readPath 51 = .ok (.getfield 255, 3) := by decide +kernel
theorem dX12_readPath_54 : decode cX12_readPath 54 = .ok (.iconst 0, 1) := by decide +kernel
theorem dX12_readPath_55 : decode cX12_readPath 55 = .ok (.iconst 0, 1) := by decide +kernel
theorem dX12_readPath_56 : decode cX12_readPath 56 = .ok (.iastore, 1) := by decide +kernel
theorem dX12_readPath_57 : decode cX12_readPath 57 = .ok (.iconst 1, 1) := by decide +kernel
theorem dX12_readPath_58 : decode cX12_readPath 58 = .ok (.istore 5, 2) := by decide +kernel
theorem dX12_readPath_60 : decode cX12_readPath 60 = .ok (.iconst 0, 1) := by decide +kernel
theorem dX12_readPath_61 : decode cX12_readPath 61 = .ok (.istore 6, 2) := by decide +kernel
theorem dX12_readPath_63 : decode cX12_readPath 63 = .ok (.iload 6, 2) := by decide +kernel
theorem dX12_readPath_65 : decode cX12_readPath 65 = .ok (.iload 4, 2) := by decide +kernel
theorem dX12_readPath_67 : decode cX12_readPath 67 = .ok (.if_icmp .ge 114, 3) := by decide +kernel
theorem dX12_readPath_70 : decode cX12_readPath 70 = .ok (.aload_n 0, 1) := by decide +kernel
theorem dX12_readPath_71 : decode cX12_readPath 71 = .ok (.getfield 249, 3) := by decide +kernel
theorem dX12_readPath_74 : decode cX12_readPath 74 = .ok (.iload 6, 2) := by decide +kernel
theorem dX12_readPath_76 : decode cX12_readPath 76 = .ok (.aload_n 0, 1) := by decide +kernel
theorem dX12_readPath_77 : decode cX12_readPath 77 = .ok (.iload_n 1, 1) := by decide +kernel
theorem dX12_readPath_78 : decode cX12_readPath 78 = .ok (.iconst 2, 1) := by decide +kernel
theorem dX12_readPath_79 : decode cX12_readPath 79 = .ok (.iload 6, 2) := by decide +kernel
theorem dX12_readPath_81 : decode cX12_readPath 81 = .ok (.imul, 1) := by decide +kernel
theorem dX12_readPath_82 : decode cX12_readPath 82 = .ok (.iadd, 1) := by decide +kernel
theorem dX12_readPath_83 : decode cX12_readPath 83 = .ok (.invokevirtual 415, 3) := by decide +kernel
theorem dX12_readPath_86 : decode cX12_readPath 86 = .ok (.iastore, 1) := by decide +kernel
theorem dX12_readPath_87 : decode cX12_readPath 87 = .ok (.aload_n 0, 1) := by decide +kernel
theorem dX12_readPath_88 : decode cX12_readPath 88 = .ok (.getfield 249, 3) := by decide +kernel
theorem dX12_readPath_91 : decode cX12_readPath 91 = .ok (.iload 6, 2) := by decide +kernel
theorem dX12_readPath_93 : decode cX12_readPath 93 = .ok (.iaload, 1) := by decide +kernel
theorem dX12_readPath_94 : decode cX12_readPath 94 = .ok (.bipush 92, 2) := by decide +kernel
theorem dX12_readPath_96 : decode cX12_readPath 96 = .ok (.if_icmp .ne 39, 3) := by decide +kernel
theorem dX12_readPath_99 : decode cX12_readPath 99 = .ok (.aload_n 0, 1) := by decide +kernel
theorem dX12_readPath_100 : decode cX12_readPath 100 = .ok (.getfield 252, 3) := by decide +kernel
theorem dX12_readPath_103 : decode cX12_readPath 103 = .ok (.aload_n 0, 1) := by decide +kernel
theorem dX12_readPath_104 : decode cX12_readPath 104 = .ok (.getfield 619, 3) := by decide +kernel
theorem dX12_readPath_107 : decode cX12_readPath 107 = .ok (.iload 6, 2) := by decide +kernel
theorem dX12_readPath_109 : decode cX12_readPath 109 = .ok (.iconst 1, 1) := by decide +kernel
theorem dX12_readPath_110 : decode cX12_readPath 110 = .ok (.iadd, 1) := by decide +kernel
theorem dX12_readPath_111 : decode cX12_readPath 111 = .ok (.iastore, 1) := by decide +kernel
theorem dX12_readPath_112 : decode cX12_readPath 112 = .ok (.aload_n 0, 1) := by decide +kernel
theorem dX12_readPath_113 : decode cX12_readPath 113 = .ok (.getfield 255, 3) := by decide +kernel
theorem dX12_readPath_116 : decode cX12_readPath 116 = .ok (.aload_n 0, 1) := by decide +kernel
theorem dX12_readPath_117 : decode cX12_readPath 117 = .ok (.getfield 619, 3) := by decide +kernel
theorem dX12_readPath_120 : decode cX12_readPath 120 = .ok (.iconst 0, 1) := by decide +kernel
theorem dX12_readPath_121 : decode cX12_readPath 121 = .ok (.iastore, 1) := by decide +kernel
theorem dX12_readPath_122 : decode cX12_readPath 122 = .ok (.aload_n 0, 1) := by decide +kernel
theorem dX12_readPath_123 : decode cX12_readPath 123 = .ok (.dup, 1) := by decide +kernel
theorem dX12_readPath_124 : decode cX12_readPath 124 = .ok (.getfield 619, 3) := by decide +kernel
theorem dX12_readPath_127 : decode cX12_readPath 127 = .ok (.iconst 1, 1) := by decide +kernel
theorem dX12_readPath_128 : decode cX12_readPath 128 = .ok (.iadd, 1) := by decide +kernel
theorem dX12_readPath_129 : decode cX12_readPath 129 = .ok (.putfield 619, 3) := by decide +kernel
theorem dX12_readPath_132 : decode cX12_readPath 132 = .ok (.goto 43, 3) := by decide +kernel
theorem dX12_readPath_135 : decode cX12_readPath 135 = .ok (.iload 5, 2) := by decide +kernel
theorem dX12_readPath_137 : decode cX12_readPath 137 = .ok (.ifCond .eq 20, 3) := by decide +kernel
theorem dX12_readPath_140 : decode cX12_readPath 140 = .ok (.aload_n 0, 1) := by decide +kernel
theorem dX12_readPath_141 : decode cX12_readPath 141 = .ok (.getfield 249, 3) := by decide +kernel
theorem dX12_readPath_144 : decode cX12_readPath 144 = .ok (.iload 6, 2) := by decide +kernel
theorem dX12_readPath_146 : decode cX12_readPath 146 = .ok (.iaload, 1) := by decide +kernel
theorem dX12_readPath_147 : decode cX12_readPath 147 = .ok (.invokestatic 622, 3) := by decide +kernel
theorem dX12_readPath_150 : decode cX12_readPath 150 = .ok (.ifCond .eq 7, 3) := by decide +kernel
theorem dX12_readPath_153 : decode cX12_readPath 153 = .ok (.iconst 1, 1) := by decide +kernel
theorem dX12_readPath_154 : decode cX12_readPath 154 = .ok (.goto 4, 3) := by decide +kernel
theorem dX12_readPath_157 : decode cX12_readPath 157 = .ok (.iconst 0, 1) := by decide +kernel
theorem dX12_readPath_158 : decode cX12_readPath 158 = .ok (.istore 5, 2) := by decide +kernel
theorem dX12_readPath_160 : decode cX12_readPath 160 = .ok (.aload_n 0, 1) := by decide +kernel
theorem dX12_readPath_161 : decode cX12_readPath 161 = .ok (.getfield 255, 3) := by decide +kernel
theorem dX12_readPath_164 : decode cX12_readPath 164 = .ok (.aload_n 0, 1) := by decide +kernel
theorem dX12_readPath_165 : decode cX12_readPath 165 = .ok (.getfield 619, 3) := by decide +kernel
theorem dX12_readPath_168 : decode cX12_readPath 168 = .ok (.iconst 1, 1) := by decide +kernel
theorem dX12_readPath_169 : decode cX12_readPath 169 = .ok (.isub, 1) := by decide +kernel
theorem dX12_readPath_170 : decode cX12_readPath 170 = .ok (.dup2, 1) := by decide +kernel
theorem dX12_readPath_171 : decode cX12_readPath 171 = .ok (.iaload, 1) := by decide +kernel
theorem dX12_readPath_172 : decode cX12_readPath 172 = .ok (.iconst 1, 1) := by decide +kernel
theorem dX12_readPath_173 : decode cX12_readPath 173 = .ok (.iadd, 1) := by decide +kernel
theorem dX12_readPath_174 : decode cX12_readPath 174 = .ok (.iastore, 1) := by decide +kernel
theorem dX12_readPath_175 : decode cX12_readPath 175 = .ok (.iinc 6 1, 3) := by decide +kernel
theorem dX12_readPath_178 : decode cX12_readPath 178 = .ok (.goto (-115), 3) := by decide +kernel
theorem dX12_readPath_181 : decode cX12_readPath 181 = .ok (.iconst 0, 1) := by decide +kernel
theorem dX12_readPath_182 : decode cX12_readPath 182 = .ok (.istore 6, 2) := by decide +kernel
theorem dX12_readPath_184 : decode cX12_readPath 184 = .ok (.iload 6, 2) := by decide +kernel
theorem dX12_readPath_186 : decode cX12_readPath 186 = .ok (.aload_n 0, 1) := by decide +kernel
theorem dX12_readPath_187 : decode cX12_readPath 187 = .ok (.getfield 619, 3) := by decide +kernel
theorem dX12_readPath_190 : decode cX12_readPath 190 = .ok (.if_icmp .ge 120, 3) := by decide +kernel
theorem dX12_readPath_193 : decode cX12_readPath 193 = .ok (.aload_n 0, 1) := by decide +kernel
theorem dX12_readPath_194 : decode cX12_readPath 194 = .ok (.getfield 255, 3) := by decide +kernel
theorem dX12_readPath_197 : decode cX12_readPath 197 = .ok (.iload 6, 2) := by decide +kernel
theorem dX12_readPath_199 : decode cX12_readPath 199 = .ok (.iaload, 1) := by decide +kernel
theorem dX12_readPath_200 : decode cX12_readPath 200 = .ok (.iconst 2, 1) := by decide +kernel
theorem dX12_readPath_201 : decode cX12_readPath 201 = .ok (.if_icmp .gt 7, 3) := by decide +kernel
theorem dX12_readPath_204 : decode cX12_readPath 204 = .ok (.iconst 1, 1) := by decide +kernel
theorem dX12_readPath_205 : decode cX12_readPath 205 = .ok (.goto 4, 3) := by decide +kernel
theorem dX12_readPath_208 : decode cX12_readPath 208 = .ok (.iconst 0, 1) := by decide +kernel
theorem dX12_readPath_209 : decode cX12_readPath 209 = .ok (.istore 7, 2) := by decide +kernel
theorem dX12_readPath_211 : decode cX12_readPath 211 = .ok (.iconst 0, 1) := by decide +kernel
theorem dX12_readPath_212 : decode cX12_readPath 212 = .ok (.istore 8, 2) := by decide +kernel
theorem dX12_readPath_214 : decode cX12_readPath 214 = .ok (.iload 8, 2) := by decide +kernel
theorem dX12_readPath_216 : decode cX12_readPath 216 = .ok (.aload_n 0, 1) := by decide +kernel
theorem dX12_readPath_217 : decode cX12_readPath 217 = .ok (.getfield 255, 3) := by decide +kernel
theorem dX12_readPath_220 : decode cX12_readPath 220 = .ok (.iload 6, 2) := by decide +kernel
theorem dX12_readPath_222 : decode cX12_readPath 222 = .ok (.iaload, 1) := by decide +kernel
theorem dX12_readPath_223 : decode cX12_readPath 223 = .ok (.if_icmp .ge 41, 3) := by decide +kernel
theorem dX12_readPath_226 : decode cX12_readPath 226 = .ok (.iload 7, 2) := by decide +kernel
theorem dX12_readPath_228 : decode cX12_readPath 228 = .ok (.ifCond .eq 27, 3) := by decide +kernel
theorem dX12_readPath_231 : decode cX12_readPath 231 = .ok (.aload_n 0, 1) := by decide +kernel
theorem dX12_readPath_232 : decode cX12_readPath 232 = .ok (.getfield 249, 3) := by decide +kernel
theorem dX12_readPath_235 : decode cX12_readPath 235 = .ok (.aload_n 0, 1) := by decide +kernel
theorem dX12_readPath_236 : decode cX12_readPath 236 = .ok (.getfield 252, 3) := by decide +kernel
theorem dX12_readPath_239 : decode cX12_readPath 239 = .ok (.iload 6, 2) := by decide +kernel
theorem dX12_readPath_241 : decode cX12_readPath 241 = .ok (.iaload, 1) := by decide +kernel
theorem dX12_readPath_242 : decode cX12_readPath 242 = .ok (.iload 8, 2) := by decide +kernel
theorem dX12_readPath_244 : decode cX12_readPath 244 = .ok (.iadd, 1) := by decide +kernel
theorem dX12_readPath_245 : decode cX12_readPath 245 = .ok (.iaload, 1) := by decide +kernel
theorem dX12_readPath_246 : decode cX12_readPath 246 = .ok (.bipush 46, 2) := by decide +kernel
theorem dX12_readPath_248 : decode cX12_readPath 248 = .ok (.if_icmp .ne 7, 3) := by decide +kernel
theorem dX12_readPath_251 : decode cX12_readPath 251 = .ok (.iconst 1, 1) := by decide +kernel
theorem dX12_readPath_252 : decode cX12_readPath 252 = .ok (.goto 4, 3) := by decide +kernel
theorem dX12_readPath_255 : decode cX12_readPath 255 = .ok (.iconst 0, 1) := by decide +kernel
theorem dX12_readPath_256 : decode cX12_readPath 256 = .ok (.istore 7, 2) := by decide +kernel
theorem dX12_readPath_258 : decode cX12_readPath 258 = .ok (.iinc 8 1, 3) := by decide +kernel
theorem dX12_readPath_261 : decode cX12_readPath 261 = .ok (.goto (-47), 3) := by decide +kernel
theorem dX12_readPath_264 : decode cX12_readPath 264 = .ok (.iload 5, 2) := by decide +kernel
theorem dX12_readPath_266 : decode cX12_readPath 266 = .ok (.ifCond .eq 35, 3) := by decide +kernel
theorem dX12_readPath_269 : decode cX12_readPath 269 = .ok (.aload_n 0, 1) := by decide +kernel
theorem dX12_readPath_270 : decode cX12_readPath 270 = .ok (.getfield 255, 3) := by decide +kernel
theorem dX12_readPath_273 : decode cX12_readPath 273 = .ok (.iload 6, 2) := by decide +kernel
theorem dX12_readPath_275 : decode cX12_readPath 275 = .ok (.iaload, 1) := by decide +kernel
theorem dX12_readPath_276 : decode cX12_readPath 276 = .ok (.iconst 1, 1) := by decide +kernel
theorem dX12_readPath_277 : decode cX12_readPath 277 = .ok (.if_icmp .lt 24, 3) := by decide +kernel
theorem dX12_readPath_280 : decode cX12_readPath 280 = .ok (.aload_n 0, 1) := by decide +kernel
theorem dX12_readPath_281 : decode cX12_readPath 281 = .ok (.getfield 255, 3) := by decide +kernel
theorem dX12_readPath_284 : decode cX12_readPath 284 = .ok (.iload 6, 2) := by decide +kernel
theorem dX12_readPath_286 : decode cX12_readPath 286 = .ok (.iaload, 1) := by decide +kernel
theorem dX12_readPath_287 : decode cX12_readPath 287 = .ok (.bipush 12, 2) := by decide +kernel
theorem dX12_readPath_289 : decode cX12_readPath 289 = .ok (.if_icmp .gt 12, 3) := by decide +kernel
theorem dX12_readPath_292 : decode cX12_readPath 292 = .ok (.iload 7, 2) := by decide +kernel
theorem dX12_readPath_294 : decode cX12_readPath 294 = .ok (.ifCond .ne 7, 3) := by decide +kernel
theorem dX12_readPath_297 : decode cX12_readPath 297 = .ok (.iconst 1, 1) := by decide +kernel
theorem dX12_readPath_298 : decode cX12_readPath 298 = .ok (.goto 4, 3) := by decide +kernel
theorem dX12_readPath_301 : decode cX12_readPath 301 = .ok (.iconst 0, 1) := by decide +kernel
theorem dX12_readPath_302 : decode cX12_readPath 302 = .ok (.istore 5, 2) := by decide +kernel
theorem dX12_readPath_304 : decode cX12_readPath 304 = .ok (.iinc 6 1, 3) := by decide +kernel
theorem dX12_readPath_307 : decode cX12_readPath 307 = .ok (.goto (-123), 3) := by decide +kernel
theorem dX12_readPath_310 : decode cX12_readPath 310 = .ok (.iload 5, 2) := by decide +kernel
theorem dX12_readPath_312 : decode cX12_readPath 312 = .ok (.ireturn, 1) := by decide +kernel
set_option maxRecDepth 100000 in
set_option maxHeartbeats 4000000 in
theorem c_X12_readPath (l : Launch) (D : va_G) (t : Nat → ClassId) (h0 : Nat) (L : Nat → Nat) (σ : HS) (hM : MdI h0 L σ) (a1 : Int32) (a2 : Int64) (post : Int32 → HS → Prop) (hw : F_X12_readPath h0 L a1 a2 post σ) (sz : Nat) : RMi l D t yX12_readPath cX12_readPath 9 (some .boolean) ({ frames := 2, cells := 0, slots := 0, locals := 46 }) h0 L σ sz [.ref h0, .int a1, .long a2] post := by
  refine h_go (τ := τT) okT (by decide) (Nat.le_of_ble_eq_true rfl) ?_
  intro p e s m below meth c ls A hF hr hlk hAe hH0 hA hl
  unfold hB
  rw [hAe]
  clear hAe
  have hF : FX p m c cX12_readPath 9 s _ RX12 D t := hF
  have hx := hF.1.1
  have hb := hF.1.2.1
  have hH : RT D t A s.heap h0 L σ s.heap [] := ⟨hH0, hM⟩
  have hl : lv_has ls 9 [(0, .ref h0), (1, .int a1), (2, .long a2)] := hl
  unfold F_X12_readPath at hw
  refine lv_lload_n hx hb dX12_readPath_0 rfl (lv_at hl 2 rfl) ?_
  refine lv_ldc2 (v := 2) hx hb hF.1.2.2.2.1 (hF.1.2.2.2.2 _ (wc_51 22 rfl)) dX12_readPath_1 ?_
  refine lv_lrem hx hb dX12_readPath_4 (by decide) ?_
  refine w_nml hw (fun z1 hw => ?_)
  refine lv_lconst (v := 0) hx hb dX12_readPath_5 (by decide) ?_
  obtain ⟨K4, hK5, hw⟩ := jn_open hw
  refine w_join (K := K4) 18 (fun (x2 : Unit) => []) (fun (x2 : Unit) => []) hl hH (fun x2 σ3 ls H locs hl hw hH => ?_) (fun jn6 => ?_)
  · have hw := hK5 x2 σ3 hw
    have hl : lv_has ls 9 [] := hl
    refine lv_iconst (v := 0) hx hb dX12_readPath_18 (by decide) ?_
    exact w_retz hF hH hr hlk dX12_readPath_19 hw
  · skip
    refine w_lif_ne (tgt := 18) hF dX12_readPath_6 dX12_readPath_7 rfl hw (fun hw => ?_) (fun hw => ?_)
    · have hl : lv_has ls 9 [] := lv_sub hl [] rfl
      exact jn6 () σ ls _ _ hl hw hH
    · refine lv_lload_n hx hb dX12_readPath_10 rfl (lv_at hl 2 rfl) ?_
      refine lv_ldc2 (v := 240) hx hb hF.1.2.2.2.1 (hF.1.2.2.2.2 _ (wc_53 13 rfl)) dX12_readPath_11 ?_
      refine w_lif_le (tgt := 20) hF dX12_readPath_14 dX12_readPath_15 rfl hw (fun hw => ?_) (fun hw => ?_)
      · refine lv_lload_n hx hb dX12_readPath_20 rfl (lv_at hl 2 rfl) ?_
        refine lv_l2i hx hb dX12_readPath_21 rfl ?_
        refine w_nmi hw (fun z7 hw => ?_)
        refine lv_iconst (v := 2) hx hb dX12_readPath_22 (by decide) ?_
        refine lv_idiv hx hb dX12_readPath_23 (by decide) ?_
        refine w_nmi hw (fun z8 hw => ?_)
        refine lv_istore (lv' := [(4, .int z8), (0, .ref h0), (1, .int a1), (2, .long a2)]) hx hb dX12_readPath_24 hl (by decide) rfl (fun ls hl => ?_)
        refine lv_aload_n hx hb dX12_readPath_26 rfl (lv_at hl 1 rfl) ?_
        refine lv_iconst (v := 0) hx hb dX12_readPath_27 (by decide) ?_
        refine w_putI hF hH fk_X12_619 dX12_readPath_28 rfl rfl rfl hw (fun σ9 H locs hw hH => ?_)
        refine lv_iload hx hb dX12_readPath_31 (lv_at hl 0 rfl) ?_
        refine w_if_ne (tgt := 38) hF dX12_readPath_33 rfl hw (fun hw => ?_) (fun hw => ?_)
        · refine lv_aload_n hx hb dX12_readPath_38 rfl (lv_at hl 1 rfl) ?_
          refine lv_iconst (v := 1) hx hb dX12_readPath_39 (by decide) ?_
          refine w_putI hF hH fk_X12_619 dX12_readPath_40 rfl rfl rfl hw (fun σ10 H locs hw hH => ?_)
          refine lv_aload_n hx hb dX12_readPath_43 rfl (lv_at hl 1 rfl) ?_
          refine w_getA 78 hF hH fk_X12_252 dX12_readPath_44 (by decide) rfl ?_
          refine lv_iconst (v := 0) hx hb dX12_readPath_47 (by decide) ?_
          refine lv_iconst (v := 0) hx hb dX12_readPath_48 (by decide) ?_
          refine w_iast 78 130 hF hH dX12_readPath_49 (by decide) rfl rfl hw (fun σ11 H locs hw hH => ?_)
          refine lv_aload_n hx hb dX12_readPath_50 rfl (lv_at hl 1 rfl) ?_
          refine w_getA 79 hF hH fk_X12_255 dX12_readPath_51 (by decide) rfl ?_
          refine lv_iconst (v := 0) hx hb dX12_readPath_54 (by decide) ?_
          refine lv_iconst (v := 0) hx hb dX12_readPath_55 (by decide) ?_
          refine w_iast 79 130 hF hH dX12_readPath_56 (by decide) rfl rfl hw (fun σ12 H locs hw hH => ?_)
          refine lv_iconst (v := 1) hx hb dX12_readPath_57 (by decide) ?_
          refine lv_istore (lv' := [(5, .int 1), (4, .int z8), (0, .ref h0), (1, .int a1), (2, .long a2)]) hx hb dX12_readPath_58 hl (by decide) rfl (fun ls hl => ?_)
          refine lv_iconst (v := 0) hx hb dX12_readPath_60 (by decide) ?_
          refine lv_istore (lv' := [(6, .int 0), (5, .int 1), (4, .int z8), (0, .ref h0), (1, .int a1), (2, .long a2)]) hx hb dX12_readPath_61 hl (by decide) rfl (fun ls hl => ?_)
          have hl : lv_has ls 9 [(6, .int 0), (5, .int 1), (4, .int z8), (1, .int a1), (0, .ref h0)] := lv_sub hl [0, 1, 2, 4, 3] rfl
          refine w_loop (β := Int32 × Int32) (fun x13 => [(6, .int x13.1), (5, .int x13.2), (4, .int z8), (1, .int a1), (0, .ref h0)]) (0, 1) hl hw hH (fun K15 x13 σ14 ls H locs hl hw hH ih16 => ?_)
          have hl : lv_has ls 9 [(6, .int x13.1), (5, .int x13.2), (4, .int z8), (1, .int a1), (0, .ref h0)] := hl
          refine lv_iload hx hb dX12_readPath_63 (lv_at hl 0 rfl) ?_
          refine lv_iload hx hb dX12_readPath_65 (lv_at hl 2 rfl) ?_
          refine w_icmp_ge (tgt := 181) hF dX12_readPath_67 rfl hw (fun hw => ?_) (fun hw => ?_)
          · refine lv_iconst (v := 0) hx hb dX12_readPath_181 (by decide) ?_
            refine lv_istore (lv' := [(6, .int 0), (5, .int x13.2), (4, .int z8), (1, .int a1), (0, .ref h0)]) hx hb dX12_readPath_182 hl (by decide) rfl (fun ls hl => ?_)
            have hl : lv_has ls 9 [(6, .int 0), (5, .int x13.2), (0, .ref h0)] := lv_sub hl [0, 1, 4] rfl
            refine w_loop (β := Int32 × Int32) (fun x17 => [(6, .int x17.1), (5, .int x17.2), (0, .ref h0)]) (0, x13.2) hl hw hH (fun K19 x17 σ18 ls H locs hl hw hH ih20 => ?_)
            have hl : lv_has ls 9 [(6, .int x17.1), (5, .int x17.2), (0, .ref h0)] := hl
            refine lv_iload hx hb dX12_readPath_184 (lv_at hl 0 rfl) ?_
            refine lv_aload_n hx hb dX12_readPath_186 rfl (lv_at hl 2 rfl) ?_
            refine w_getI hF hH fk_X12_619 dX12_readPath_187 hw (fun z21 hw => ?_)
            refine w_icmp_ge (tgt := 310) hF dX12_readPath_190 rfl hw (fun hw => ?_) (fun hw => ?_)
            · refine lv_iload hx hb dX12_readPath_310 (lv_at hl 1 rfl) ?_
              exact w_retz hF hH hr hlk dX12_readPath_312 hw
            · refine lv_aload_n hx hb dX12_readPath_193 rfl (lv_at hl 2 rfl) ?_
              refine w_getA 79 hF hH fk_X12_255 dX12_readPath_194 (by decide) rfl ?_
              refine lv_iload hx hb dX12_readPath_197 (lv_at hl 0 rfl) ?_
              refine w_iald 79 130 hF hH dX12_readPath_199 (by decide) rfl rfl hw (fun z22 hw => ?_)
              refine lv_iconst (v := 2) hx hb dX12_readPath_200 (by decide) ?_
              obtain ⟨K25, hK26, hw⟩ := jn_open hw
              refine w_join (K := K25) 209 (fun (x23 : Int32) => [(6, .int x17.1), (5, .int x17.2), (0, .ref h0)]) (fun (x23 : Int32) => [.int x23]) hl hH (fun x23 σ24 ls H locs hl hw hH => ?_) (fun jn27 => ?_)
              · have hw := hK26 x23 σ24 hw
                have hl : lv_has ls 9 [(6, .int x17.1), (5, .int x17.2), (0, .ref h0)] := hl
                refine lv_istore (lv' := [(7, .int x23), (6, .int x17.1), (5, .int x17.2), (0, .ref h0)]) hx hb dX12_readPath_209 hl (by decide) rfl (fun ls hl => ?_)
                refine lv_iconst (v := 0) hx hb dX12_readPath_211 (by decide) ?_
                refine lv_istore (lv' := [(8, .int 0), (7, .int x23), (6, .int x17.1), (5, .int x17.2), (0, .ref h0)]) hx hb dX12_readPath_212 hl (by decide) rfl (fun ls hl => ?_)
                refine w_loop (β := Int32 × Int32) (fun x28 => [(8, .int x28.1), (7, .int x28.2), (6, .int x17.1), (5, .int x17.2), (0, .ref h0)]) (0, x23) hl hw hH (fun K30 x28 σ29 ls H locs hl hw hH ih31 => ?_)
                have hl : lv_has ls 9 [(8, .int x28.1), (7, .int x28.2), (6, .int x17.1), (5, .int x17.2), (0, .ref h0)] := hl
                refine lv_iload hx hb dX12_readPath_214 (lv_at hl 0 rfl) ?_
                refine lv_aload_n hx hb dX12_readPath_216 rfl (lv_at hl 4 rfl) ?_
                refine w_getA 79 hF hH fk_X12_255 dX12_readPath_217 (by decide) rfl ?_
                refine lv_iload hx hb dX12_readPath_220 (lv_at hl 2 rfl) ?_
                refine w_iald 79 130 hF hH dX12_readPath_222 (by decide) rfl rfl hw (fun z32 hw => ?_)
                refine w_icmp_ge (tgt := 264) hF dX12_readPath_223 rfl hw (fun hw => ?_) (fun hw => ?_)
                · refine lv_iload hx hb dX12_readPath_264 (lv_at hl 3 rfl) ?_
                  obtain ⟨K35, hK36, hw⟩ := jn_open hw
                  refine w_join (K := K35) 302 (fun (x33 : Int32) => [(6, .int x17.1), (0, .ref h0)]) (fun (x33 : Int32) => [.int x33]) hl hH (fun x33 σ34 ls H locs hl hw hH => ?_) (fun jn37 => ?_)
                  · have hw := hK36 x33 σ34 hw
                    have hl : lv_has ls 9 [(6, .int x17.1), (0, .ref h0)] := hl
                    refine lv_istore (lv' := [(5, .int x33), (6, .int x17.1), (0, .ref h0)]) hx hb dX12_readPath_302 hl (by decide) rfl (fun ls hl => ?_)
                    obtain ⟨z38, ez38⟩ : ∃ z : Int32, z = x17.1 + 1 := ⟨_, rfl⟩
                    have hw := hw z38 ez38
                    refine lv_iinc (lv' := [(6, .int z38), (5, .int x33), (0, .ref h0)]) (k := 1) (v := z38) hx hb dX12_readPath_304 hl rfl ez38.symm (by decide) rfl (fun ls hl => ?_)
                    refine lv_goto (tgt := 184) hx hb dX12_readPath_307 rfl ?_
                    exact ih20 (z38, x33) σ34 ls _ _ hl hw hH
                  · skip
                    obtain ⟨K41, hK42, hw⟩ := jn_open hw
                    refine w_join (K := K41) 301 (fun (x39 : Unit) => [(6, .int x17.1), (0, .ref h0)]) (fun (x39 : Unit) => []) hl hH (fun x39 σ40 ls H locs hl hw hH => ?_) (fun jn43 => ?_)
                    · have hw := hK42 x39 σ40 hw
                      have hl : lv_has ls 9 [(6, .int x17.1), (0, .ref h0)] := hl
                      refine lv_iconst (v := 0) hx hb dX12_readPath_301 (by decide) ?_
                      exact jn37 0 σ40 ls _ _ hl hw hH
                    · skip
                      refine w_if_eq (tgt := 301) hF dX12_readPath_266 rfl hw (fun hw => ?_) (fun hw => ?_)
                      · have hl : lv_has ls 9 [(6, .int x17.1), (0, .ref h0)] := lv_sub hl [2, 4] rfl
                        exact jn43 () σ29 ls _ _ hl hw hH
                      · refine lv_aload_n hx hb dX12_readPath_269 rfl (lv_at hl 4 rfl) ?_
                        refine w_getA 79 hF hH fk_X12_255 dX12_readPath_270 (by decide) rfl ?_
                        refine lv_iload hx hb dX12_readPath_273 (lv_at hl 2 rfl) ?_
                        refine w_iald 79 130 hF hH dX12_readPath_275 (by decide) rfl rfl hw (fun z44 hw => ?_)
                        refine lv_iconst (v := 1) hx hb dX12_readPath_276 (by decide) ?_
                        refine w_icmp_lt (tgt := 301) hF dX12_readPath_277 rfl hw (fun hw => ?_) (fun hw => ?_)
                        · have hl : lv_has ls 9 [(6, .int x17.1), (0, .ref h0)] := lv_sub hl [2, 4] rfl
                          exact jn43 () σ29 ls _ _ hl hw hH
                        · refine lv_aload_n hx hb dX12_readPath_280 rfl (lv_at hl 4 rfl) ?_
                          refine w_getA 79 hF hH fk_X12_255 dX12_readPath_281 (by decide) rfl ?_
                          refine lv_iload hx hb dX12_readPath_284 (lv_at hl 2 rfl) ?_
                          refine w_iald 79 130 hF hH dX12_readPath_286 (by decide) rfl rfl hw (fun z45 hw => ?_)
                          refine lv_bipush (v := 12) hx hb dX12_readPath_287 (by decide) ?_
                          refine w_icmp_gt (tgt := 301) hF dX12_readPath_289 rfl hw (fun hw => ?_) (fun hw => ?_)
                          · have hl : lv_has ls 9 [(6, .int x17.1), (0, .ref h0)] := lv_sub hl [2, 4] rfl
                            exact jn43 () σ29 ls _ _ hl hw hH
                          · refine lv_iload hx hb dX12_readPath_292 (lv_at hl 1 rfl) ?_
                            refine w_if_ne (tgt := 301) hF dX12_readPath_294 rfl hw (fun hw => ?_) (fun hw => ?_)
                            · have hl : lv_has ls 9 [(6, .int x17.1), (0, .ref h0)] := lv_sub hl [2, 4] rfl
                              exact jn43 () σ29 ls _ _ hl hw hH
                            · refine lv_iconst (v := 1) hx hb dX12_readPath_297 (by decide) ?_
                              refine lv_goto (tgt := 302) hx hb dX12_readPath_298 rfl ?_
                              have hl : lv_has ls 9 [(6, .int x17.1), (0, .ref h0)] := lv_sub hl [2, 4] rfl
                              exact jn37 1 σ29 ls _ _ hl hw hH
                · refine lv_iload hx hb dX12_readPath_226 (lv_at hl 1 rfl) ?_
                  obtain ⟨K48, hK49, hw⟩ := jn_open hw
                  refine w_join (K := K48) 256 (fun (x46 : Int32) => [(8, .int x28.1), (6, .int x17.1), (5, .int x17.2), (0, .ref h0)]) (fun (x46 : Int32) => [.int x46]) hl hH (fun x46 σ47 ls H locs hl hw hH => ?_) (fun jn50 => ?_)
                  · have hw := hK49 x46 σ47 hw
                    have hl : lv_has ls 9 [(8, .int x28.1), (6, .int x17.1), (5, .int x17.2), (0, .ref h0)] := hl
                    refine lv_istore (lv' := [(7, .int x46), (8, .int x28.1), (6, .int x17.1), (5, .int x17.2), (0, .ref h0)]) hx hb dX12_readPath_256 hl (by decide) rfl (fun ls hl => ?_)
                    obtain ⟨z51, ez51⟩ : ∃ z : Int32, z = x28.1 + 1 := ⟨_, rfl⟩
                    have hw := hw z51 ez51
                    refine lv_iinc (lv' := [(8, .int z51), (7, .int x46), (6, .int x17.1), (5, .int x17.2), (0, .ref h0)]) (k := 1) (v := z51) hx hb dX12_readPath_258 hl rfl ez51.symm (by decide) rfl (fun ls hl => ?_)
                    refine lv_goto (tgt := 214) hx hb dX12_readPath_261 rfl ?_
                    exact ih31 (z51, x46) σ47 ls _ _ hl hw hH
                  · skip
                    obtain ⟨K54, hK55, hw⟩ := jn_open hw
                    refine w_join (K := K54) 255 (fun (x52 : Unit) => [(8, .int x28.1), (6, .int x17.1), (5, .int x17.2), (0, .ref h0)]) (fun (x52 : Unit) => []) hl hH (fun x52 σ53 ls H locs hl hw hH => ?_) (fun jn56 => ?_)
                    · have hw := hK55 x52 σ53 hw
                      have hl : lv_has ls 9 [(8, .int x28.1), (6, .int x17.1), (5, .int x17.2), (0, .ref h0)] := hl
                      refine lv_iconst (v := 0) hx hb dX12_readPath_255 (by decide) ?_
                      exact jn50 0 σ53 ls _ _ hl hw hH
                    · skip
                      refine w_if_eq (tgt := 255) hF dX12_readPath_228 rfl hw (fun hw => ?_) (fun hw => ?_)
                      · have hl : lv_has ls 9 [(8, .int x28.1), (6, .int x17.1), (5, .int x17.2), (0, .ref h0)] := lv_sub hl [0, 2, 3, 4] rfl
                        exact jn56 () σ29 ls _ _ hl hw hH
                      · refine lv_aload_n hx hb dX12_readPath_231 rfl (lv_at hl 4 rfl) ?_
                        refine w_getA 77 hF hH fk_X12_249 dX12_readPath_232 (by decide) rfl ?_
                        refine lv_aload_n hx hb dX12_readPath_235 rfl (lv_at hl 4 rfl) ?_
                        refine w_getA 78 hF hH fk_X12_252 dX12_readPath_236 (by decide) rfl ?_
                        refine lv_iload hx hb dX12_readPath_239 (lv_at hl 2 rfl) ?_
                        refine w_iald 78 130 hF hH dX12_readPath_241 (by decide) rfl rfl hw (fun z57 hw => ?_)
                        refine lv_iload hx hb dX12_readPath_242 (lv_at hl 0 rfl) ?_
                        refine lv_iadd hx hb dX12_readPath_244 ?_
                        refine w_nmi hw (fun z58 hw => ?_)
                        refine w_iald 77 130 hF hH dX12_readPath_245 (by decide) rfl rfl hw (fun z59 hw => ?_)
                        refine lv_bipush (v := 46) hx hb dX12_readPath_246 (by decide) ?_
                        refine w_icmp_ne (tgt := 255) hF dX12_readPath_248 rfl hw (fun hw => ?_) (fun hw => ?_)
                        · have hl : lv_has ls 9 [(8, .int x28.1), (6, .int x17.1), (5, .int x17.2), (0, .ref h0)] := lv_sub hl [0, 2, 3, 4] rfl
                          exact jn56 () σ29 ls _ _ hl hw hH
                        · refine lv_iconst (v := 1) hx hb dX12_readPath_251 (by decide) ?_
                          refine lv_goto (tgt := 256) hx hb dX12_readPath_252 rfl ?_
                          have hl : lv_has ls 9 [(8, .int x28.1), (6, .int x17.1), (5, .int x17.2), (0, .ref h0)] := lv_sub hl [0, 2, 3, 4] rfl
                          exact jn50 1 σ29 ls _ _ hl hw hH
              · skip
                refine w_icmp_gt (tgt := 208) hF dX12_readPath_201 rfl hw (fun hw => ?_) (fun hw => ?_)
                · refine lv_iconst (v := 0) hx hb dX12_readPath_208 (by decide) ?_
                  exact jn27 0 σ18 ls _ _ hl hw hH
                · refine lv_iconst (v := 1) hx hb dX12_readPath_204 (by decide) ?_
                  refine lv_goto (tgt := 209) hx hb dX12_readPath_205 rfl ?_
                  exact jn27 1 σ18 ls _ _ hl hw hH
          · refine lv_aload_n hx hb dX12_readPath_70 rfl (lv_at hl 4 rfl) ?_
            refine w_getA 77 hF hH fk_X12_249 dX12_readPath_71 (by decide) rfl ?_
            refine lv_iload hx hb dX12_readPath_74 (lv_at hl 0 rfl) ?_
            refine lv_aload_n hx hb dX12_readPath_76 rfl (lv_at hl 4 rfl) ?_
            refine lv_iload_n hx hb dX12_readPath_77 rfl (lv_at hl 3 rfl) ?_
            refine lv_iconst (v := 2) hx hb dX12_readPath_78 (by decide) ?_
            refine lv_iload hx hb dX12_readPath_79 (lv_at hl 0 rfl) ?_
            refine lv_imul hx hb dX12_readPath_81 ?_
            refine w_nmi hw (fun z60 hw => ?_)
            refine lv_iadd hx hb dX12_readPath_82 ?_
            refine w_nmi hw (fun z61 hw => ?_)
            refine w_cVi (As := [.int z61]) (rest := [.int x13.1, .ref (L 77)]) hF hH hA mv_X12_415 (fun sz => c_X12_number2 l D t h0 L _ hH.2 z61 _ hw sz) dX12_readPath_83 rfl rfl (by decide) rfl hl.1 (Nat.le_of_ble_eq_true rfl) (by decide) rfl (fun z63 σ62 H locs hw hH => ?_)
            refine w_iast 77 130 hF hH dX12_readPath_86 (by decide) rfl rfl hw (fun σ64 H locs hw hH => ?_)
            refine lv_aload_n hx hb dX12_readPath_87 rfl (lv_at hl 4 rfl) ?_
            refine w_getA 77 hF hH fk_X12_249 dX12_readPath_88 (by decide) rfl ?_
            refine lv_iload hx hb dX12_readPath_91 (lv_at hl 0 rfl) ?_
            refine w_iald 77 130 hF hH dX12_readPath_93 (by decide) rfl rfl hw (fun z65 hw => ?_)
            refine lv_bipush (v := 92) hx hb dX12_readPath_94 (by decide) ?_
            obtain ⟨K68, hK69, hw⟩ := jn_open hw
            refine w_join (K := K68) 175 (fun (x66 : Int32) => [(6, .int x13.1), (5, .int x66), (4, .int z8), (1, .int a1), (0, .ref h0)]) (fun (x66 : Int32) => []) hl hH (fun x66 σ67 ls H locs hl hw hH => ?_) (fun jn70 => ?_)
            · have hw := hK69 x66 σ67 hw
              have hl : lv_has ls 9 [(6, .int x13.1), (5, .int x66), (4, .int z8), (1, .int a1), (0, .ref h0)] := hl
              obtain ⟨z71, ez71⟩ : ∃ z : Int32, z = x13.1 + 1 := ⟨_, rfl⟩
              have hw := hw z71 ez71
              refine lv_iinc (lv' := [(6, .int z71), (5, .int x66), (4, .int z8), (1, .int a1), (0, .ref h0)]) (k := 0) (v := z71) hx hb dX12_readPath_175 hl rfl ez71.symm (by decide) rfl (fun ls hl => ?_)
              refine lv_goto (tgt := 63) hx hb dX12_readPath_178 rfl ?_
              exact ih16 (z71, x66) σ67 ls _ _ hl hw hH
            · skip
              refine w_icmp_ne (tgt := 135) hF dX12_readPath_96 rfl hw (fun hw => ?_) (fun hw => ?_)
              · refine lv_iload hx hb dX12_readPath_135 (lv_at hl 1 rfl) ?_
                obtain ⟨K74, hK75, hw⟩ := jn_open hw
                refine w_join (K := K74) 158 (fun (x72 : Int32) => [(6, .int x13.1), (4, .int z8), (1, .int a1), (0, .ref h0)]) (fun (x72 : Int32) => [.int x72]) hl hH (fun x72 σ73 ls H locs hl hw hH => ?_) (fun jn76 => ?_)
                · have hw := hK75 x72 σ73 hw
                  have hl : lv_has ls 9 [(6, .int x13.1), (4, .int z8), (1, .int a1), (0, .ref h0)] := hl
                  refine lv_istore (lv' := [(5, .int x72), (6, .int x13.1), (4, .int z8), (1, .int a1), (0, .ref h0)]) hx hb dX12_readPath_158 hl (by decide) rfl (fun ls hl => ?_)
                  refine lv_aload_n hx hb dX12_readPath_160 rfl (lv_at hl 4 rfl) ?_
                  refine w_getA 79 hF hH fk_X12_255 dX12_readPath_161 (by decide) rfl ?_
                  refine lv_aload_n hx hb dX12_readPath_164 rfl (lv_at hl 4 rfl) ?_
                  refine w_getI hF hH fk_X12_619 dX12_readPath_165 hw (fun z77 hw => ?_)
                  refine lv_iconst (v := 1) hx hb dX12_readPath_168 (by decide) ?_
                  refine lv_isub hx hb dX12_readPath_169 ?_
                  refine w_nmi hw (fun z78 hw => ?_)
                  refine lv_dup2_11 hx hb dX12_readPath_170 rfl rfl ?_
                  refine w_iald 79 130 hF hH dX12_readPath_171 (by decide) rfl rfl hw (fun z79 hw => ?_)
                  refine lv_iconst (v := 1) hx hb dX12_readPath_172 (by decide) ?_
                  refine lv_iadd hx hb dX12_readPath_173 ?_
                  refine w_nmi hw (fun z80 hw => ?_)
                  refine w_iast 79 130 hF hH dX12_readPath_174 (by decide) rfl rfl hw (fun σ81 H locs hw hH => ?_)
                  have hl : lv_has ls 9 [(6, .int x13.1), (5, .int x72), (4, .int z8), (1, .int a1), (0, .ref h0)] := lv_sub hl [1, 0, 2, 3, 4] rfl
                  exact jn70 x72 σ81 ls _ _ hl hw hH
                · skip
                  obtain ⟨K84, hK85, hw⟩ := jn_open hw
                  refine w_join (K := K84) 157 (fun (x82 : Unit) => [(6, .int x13.1), (4, .int z8), (1, .int a1), (0, .ref h0)]) (fun (x82 : Unit) => []) hl hH (fun x82 σ83 ls H locs hl hw hH => ?_) (fun jn86 => ?_)
                  · have hw := hK85 x82 σ83 hw
                    have hl : lv_has ls 9 [(6, .int x13.1), (4, .int z8), (1, .int a1), (0, .ref h0)] := hl
                    refine lv_iconst (v := 0) hx hb dX12_readPath_157 (by decide) ?_
                    exact jn76 0 σ83 ls _ _ hl hw hH
                  · skip
                    refine w_if_eq (tgt := 157) hF dX12_readPath_137 rfl hw (fun hw => ?_) (fun hw => ?_)
                    · have hl : lv_has ls 9 [(6, .int x13.1), (4, .int z8), (1, .int a1), (0, .ref h0)] := lv_sub hl [0, 2, 3, 4] rfl
                      exact jn86 () σ64 ls _ _ hl hw hH
                    · refine lv_aload_n hx hb dX12_readPath_140 rfl (lv_at hl 4 rfl) ?_
                      refine w_getA 77 hF hH fk_X12_249 dX12_readPath_141 (by decide) rfl ?_
                      refine lv_iload hx hb dX12_readPath_144 (lv_at hl 0 rfl) ?_
                      refine w_iald 77 130 hF hH dX12_readPath_146 (by decide) rfl rfl hw (fun z87 hw => ?_)
                      refine w_cSi (As := [.int z87]) (rest := []) hF hH hA ms_X12_622 (fun sz => c_X12_isNameUnit l D t h0 L _ hH.2 z87 _ hw sz) dX12_readPath_147 rfl rfl (by decide) rfl hl.1 (Nat.le_of_ble_eq_true rfl) (by decide) rfl (fun z89 σ88 H locs hw hH => ?_)
                      refine w_if_eq (tgt := 157) hF dX12_readPath_150 rfl hw (fun hw => ?_) (fun hw => ?_)
                      · have hl : lv_has ls 9 [(6, .int x13.1), (4, .int z8), (1, .int a1), (0, .ref h0)] := lv_sub hl [0, 2, 3, 4] rfl
                        exact jn86 () σ88 ls _ _ hl hw hH
                      · refine lv_iconst (v := 1) hx hb dX12_readPath_153 (by decide) ?_
                        refine lv_goto (tgt := 158) hx hb dX12_readPath_154 rfl ?_
                        have hl : lv_has ls 9 [(6, .int x13.1), (4, .int z8), (1, .int a1), (0, .ref h0)] := lv_sub hl [0, 2, 3, 4] rfl
                        exact jn76 1 σ88 ls _ _ hl hw hH
              · refine lv_aload_n hx hb dX12_readPath_99 rfl (lv_at hl 4 rfl) ?_
                refine w_getA 78 hF hH fk_X12_252 dX12_readPath_100 (by decide) rfl ?_
                refine lv_aload_n hx hb dX12_readPath_103 rfl (lv_at hl 4 rfl) ?_
                refine w_getI hF hH fk_X12_619 dX12_readPath_104 hw (fun z90 hw => ?_)
                refine lv_iload hx hb dX12_readPath_107 (lv_at hl 0 rfl) ?_
                refine lv_iconst (v := 1) hx hb dX12_readPath_109 (by decide) ?_
                refine lv_iadd hx hb dX12_readPath_110 ?_
                refine w_nmi hw (fun z91 hw => ?_)
                refine w_iast 78 130 hF hH dX12_readPath_111 (by decide) rfl rfl hw (fun σ92 H locs hw hH => ?_)
                refine lv_aload_n hx hb dX12_readPath_112 rfl (lv_at hl 4 rfl) ?_
                refine w_getA 79 hF hH fk_X12_255 dX12_readPath_113 (by decide) rfl ?_
                refine lv_aload_n hx hb dX12_readPath_116 rfl (lv_at hl 4 rfl) ?_
                refine w_getI hF hH fk_X12_619 dX12_readPath_117 hw (fun z93 hw => ?_)
                refine lv_iconst (v := 0) hx hb dX12_readPath_120 (by decide) ?_
                refine w_iast 79 130 hF hH dX12_readPath_121 (by decide) rfl rfl hw (fun σ94 H locs hw hH => ?_)
                refine lv_aload_n hx hb dX12_readPath_122 rfl (lv_at hl 4 rfl) ?_
                refine lv_dup hx hb dX12_readPath_123 rfl ?_
                refine w_getI hF hH fk_X12_619 dX12_readPath_124 hw (fun z95 hw => ?_)
                refine lv_iconst (v := 1) hx hb dX12_readPath_127 (by decide) ?_
                refine lv_iadd hx hb dX12_readPath_128 ?_
                refine w_nmi hw (fun z96 hw => ?_)
                refine w_putI hF hH fk_X12_619 dX12_readPath_129 rfl rfl rfl hw (fun σ97 H locs hw hH => ?_)
                refine lv_goto (tgt := 175) hx hb dX12_readPath_132 rfl ?_
                exact jn70 x13.2 σ97 ls _ _ hl hw hH
        · refine lv_iconst (v := 1) hx hb dX12_readPath_36 (by decide) ?_
          exact w_retz hF hH hr hlk dX12_readPath_37 hw
      · have hl : lv_has ls 9 [] := lv_sub hl [] rfl
        exact jn6 () σ ls _ _ hl hw hH
def F_X12_child (h0 : Nat) (L : Nat → Nat) (a1 : Int32) (a2 : Int32) (post : Int32 → HS → Prop) (σ : HS) : Prop := lw (fun (K3 : Int32 → HS → Prop) (x1 : Int32) (σ2 : HS) => (((80 : Int32).toInt ≤ x1.toInt) → post (-1) σ2) ∧ ((x1.toInt < (80 : Int32).toInt) → (0 ≤ x1.toInt ∧ x1.toInt < 160) ∧ ∀ z5 : Int32, z5 = sI σ2 (L 1) x1.toInt.toNat → jn (fun (K8 : Int32 → HS → Prop) => jn (fun (K40 : Unit → HS → Prop) => ((z5.toInt = 0) → K40 () σ2) ∧ ((¬ z5.toInt = 0) → (0 ≤ x1.toInt ∧ x1.toInt < 160) ∧ ∀ z43 : Int32, z43 = sI σ2 (L 2) x1.toInt.toNat → ((¬ z43.toInt = a1.toInt) → K40 () σ2) ∧ ((z43.toInt = a1.toInt) → (0 ≤ x1.toInt ∧ x1.toInt < 160) ∧ ∀ z44 : Int32, z44 = sI σ2 (L 5) x1.toInt.toNat → (0 ≤ a2.toInt ∧ a2.toInt < 130) ∧ ∀ z45 : Int32, z45 = sI σ2 (L 79) a2.toInt.toNat → ((¬ z44.toInt = z45.toInt) → K40 () σ2) ∧ ((z44.toInt = z45.toInt) → K8 1 σ2)))) (fun (x38 : Unit) (σ39 : HS) => K8 0 σ39)) (fun (x6 : Int32) (σ7 : HS) => lw (fun (K13 : (Int32 × Int32) → HS → Prop) (x11 : Int32 × Int32) (σ12 : HS) => (0 ≤ a2.toInt ∧ a2.toInt < 130) ∧ ∀ z15 : Int32, z15 = sI σ12 (L 79) a2.toInt.toNat → jn (fun (K18 : Unit → HS → Prop) => ((z15.toInt ≤ x11.1.toInt) → K18 () σ12) ∧ ((x11.1.toInt < z15.toInt) → ((x11.2.toInt = 0) → K18 () σ12) ∧ ((¬ x11.2.toInt = 0) → ∀ z22 : Int32, z22 = 12 * x1 → ∀ z23 : Int32, z23 = z22 + x11.1 → (0 ≤ z23.toInt ∧ z23.toInt < 1920) ∧ ∀ z24 : Int32, z24 = sI σ12 (L 4) z23.toInt.toNat → F_X12_folded h0 L z24 (fun (z26 : Int32) (σ25 : HS) => (0 ≤ a2.toInt ∧ a2.toInt < 130) ∧ ∀ z27 : Int32, z27 = sI σ25 (L 78) a2.toInt.toNat → ∀ z28 : Int32, z28 = z27 + x11.1 → (0 ≤ z28.toInt ∧ z28.toInt < 130) ∧ ∀ z29 : Int32, z29 = sI σ25 (L 77) z28.toInt.toNat → F_X12_folded h0 L z29 (fun (z31 : Int32) (σ30 : HS) => jn (fun (K34 : Int32 → HS → Prop) => ((¬ z26.toInt = z31.toInt) → K34 0 σ30) ∧ ((z26.toInt = z31.toInt) → K34 1 σ30)) (fun (x32 : Int32) (σ33 : HS) => ∀ z37 : Int32, z37 = x11.1 + 1 → K13 (z37, x32) σ33)) σ25) σ12))) (fun (x16 : Unit) (σ17 : HS) => ((x11.2.toInt = 0) → ∀ z21 : Int32, z21 = x1 + 1 → K3 z21 σ17) ∧ ((¬ x11.2.toInt = 0) → post x1 σ17))) (0, x6) σ7))) 0 σ
theorem dX12_child_0 : decode cX12_child 0 = .ok (.iconst 0, 1) := by decide +kernel
theorem dX12_child_1 : decode cX12_child 1 = .ok (.istore_n 3, 1) := by decide +kernel
theorem dX12_child_2 : decode cX12_child 2 = .ok (.iload_n 3, 1) := by decide +kernel
theorem dX12_child_3 : decode cX12_child 3 = .ok (.bipush 80, 2) := by decide +kernel
theorem dX12_child_5 : decode cX12_child 5 = .ok (.if_icmp .ge 124, 3) := by decide +kernel
theorem dX12_child_8 : decode cX12_child 8 = .ok (.aload_n 0, 1) := by decide +kernel
theorem dX12_child_9 : decode cX12_child 9 = .ok (.getfield 13, 3) := by decide +kernel
theorem dX12_child_12 : decode cX12_child 12 = .ok (.iload_n 3, 1) := by decide +kernel
theorem dX12_child_13 : decode cX12_child 13 = .ok (.baload, 1) := by decide +kernel
theorem dX12_child_14 : decode cX12_child 14 = .ok (.ifCond .eq 32, 3) := by decide +kernel
theorem dX12_child_17 : decode cX12_child 17 = .ok (.aload_n 0, 1) := by decide +kernel
theorem dX12_child_18 : decode cX12_child 18 = .ok (.getfield 17, 3) := by decide +kernel
theorem dX12_child_21 : decode cX12_child 21 = .ok (.iload_n 3, 1) := by decide +kernel
theorem dX12_child_22 : decode cX12_child 22 = .ok (.iaload, 1) := by decide +kernel
theorem dX12_child_23 : decode cX12_child 23 = .ok (.iload_n 1, 1) := by decide +kernel
theorem dX12_child_24 : decode cX12_child 24 = .ok (.if_icmp .ne 22, 3) := by decide +kernel
theorem dX12_child_27 : decode cX12_child 27 = .ok (.aload_n 0, 1) := by decide +kernel
theorem dX12_child_28 : decode cX12_child 28 = .ok (.getfield 27, 3) := by decide +kernel
theorem dX12_child_31 : decode cX12_child 31 = .ok (.iload_n 3, 1) := by decide +kernel
theorem dX12_child_32 : decode cX12_child 32 = .ok (.iaload, 1) := by decide +kernel
theorem dX12_child_33 : decode cX12_child 33 = .ok (.aload_n 0, 1) := by decide +kernel
theorem dX12_child_34 : decode cX12_child 34 = .ok (.getfield 255, 3) := by decide +kernel
theorem dX12_child_37 : decode cX12_child 37 = .ok (.iload_n 2, 1) := by decide +kernel
theorem dX12_child_38 : decode cX12_child 38 = .ok (.iaload, 1) := by decide +kernel
theorem dX12_child_39 : decode cX12_child 39 = .ok (.if_icmp .ne 7, 3) := by decide +kernel
theorem dX12_child_42 : decode cX12_child 42 = .ok (.iconst 1, 1) := by decide +kernel
theorem dX12_child_43 : decode cX12_child 43 = .ok (.goto 4, 3) := by decide +kernel
theorem dX12_child_46 : decode cX12_child 46 = .ok (.iconst 0, 1) := by decide +kernel
theorem dX12_child_47 : decode cX12_child 47 = .ok (.istore 4, 2) := by decide +kernel
theorem dX12_child_49 : decode cX12_child 49 = .ok (.iconst 0, 1) := by decide +kernel
theorem dX12_child_50 : decode cX12_child 50 = .ok (.istore 5, 2) := by decide +kernel
theorem dX12_child_52 : decode cX12_child 52 = .ok (.iload 5, 2) := by decide +kernel
theorem dX12_child_54 : decode cX12_child 54 = .ok (.aload_n 0, 1) := by decide +kernel
theorem dX12_child_55 : decode cX12_child 55 = .ok (.getfield 255, 3) := by decide +kernel
theorem dX12_child_58 : decode cX12_child 58 = .ok (.iload_n 2, 1) := by decide +kernel
theorem dX12_child_59 : decode cX12_child 59 = .ok (.iaload, 1) := by decide +kernel
theorem dX12_child_60 : decode cX12_child 60 = .ok (.if_icmp .ge 56, 3) := by decide +kernel
theorem dX12_child_63 : decode cX12_child 63 = .ok (.iload 4, 2) := by decide +kernel
theorem dX12_child_65 : decode cX12_child 65 = .ok (.ifCond .eq 51, 3) := by decide +kernel
theorem dX12_child_68 : decode cX12_child 68 = .ok (.aload_n 0, 1) := by decide +kernel
theorem dX12_child_69 : decode cX12_child 69 = .ok (.getfield 24, 3) := by decide +kernel
theorem dX12_child_72 : decode cX12_child 72 = .ok (.bipush 12, 2) := by decide +kernel
theorem dX12_child_74 : decode cX12_child 74 = .ok (.iload_n 3, 1) := by decide +kernel
theorem dX12_child_75 : decode cX12_child 75 = .ok (.imul, 1) := by decide +kernel
theorem dX12_child_76 : decode cX12_child 76 = .ok (.iload 5, 2) := by decide +kernel
theorem dX12_child_78 : decode cX12_child 78 = .ok (.iadd, 1) := by decide +kernel
theorem dX12_child_79 : decode cX12_child 79 = .ok (.baload, 1) := by decide +kernel
theorem dX12_child_80 : decode cX12_child 80 = .ok (.invokestatic 311, 3) := by decide +kernel
theorem dX12_child_83 : decode cX12_child 83 = .ok (.aload_n 0, 1) := by decide +kernel
theorem dX12_child_84 : decode cX12_child 84 = .ok (.getfield 249, 3) := by decide +kernel
theorem dX12_child_87 : decode cX12_child 87 = .ok (.aload_n 0, 1) := by decide +kernel
theorem dX12_child_88 : decode cX12_child 88 = .ok (.getfield 252, 3) := by decide +kernel
theorem dX12_child_91 : decode cX12_child 91 = .ok (.iload_n 2, 1) := by decide +kernel
theorem dX12_child_92 : decode cX12_child 92 = .ok (.iaload, 1) := by decide +kernel
theorem dX12_child_93 : decode cX12_child 93 = .ok (.iload 5, 2) := by decide +kernel
theorem dX12_child_95 : decode cX12_child 95 = .ok (.iadd, 1) := by decide +kernel
theorem dX12_child_96 : decode cX12_child 96 = .ok (.iaload, 1) := by decide +kernel
theorem dX12_child_97 : decode cX12_child 97 = .ok (.invokestatic 311, 3) := by decide +kernel
theorem dX12_child_100 : decode cX12_child 100 = .ok (.if_icmp .ne 7, 3) := by decide +kernel
theorem dX12_child_103 : decode cX12_child 103 = .ok (.iconst 1, 1) := by decide +kernel
theorem dX12_child_104 : decode cX12_child 104 = .ok (.goto 4, 3) := by decide +kernel
theorem dX12_child_107 : decode cX12_child 107 = .ok (.iconst 0, 1) := by decide +kernel
theorem dX12_child_108 : decode cX12_child 108 = .ok (.istore 4, 2) := by decide +kernel
theorem dX12_child_110 : decode cX12_child 110 = .ok (.iinc 5 1, 3) := by decide +kernel
theorem dX12_child_113 : decode cX12_child 113 = .ok (.goto (-61), 3) := by decide +kernel
theorem dX12_child_116 : decode cX12_child 116 = .ok (.iload 4, 2) := by decide +kernel
theorem dX12_child_118 : decode cX12_child 118 = .ok (.ifCond .eq 5, 3) := by decide +kernel
theorem dX12_child_121 : decode cX12_child 121 = .ok (.iload_n 3, 1) := by decide +kernel
theorem dX12_child_122 : decode cX12_child 122 = .ok (.ireturn, 1) := by decide +kernel
theorem dX12_child_123 : decode cX12_child 123 = .ok (.iinc 3 1, 3) := by decide +kernel
theorem dX12_child_126 : decode cX12_child 126 = .ok (.goto (-124), 3) := by decide +kernel
theorem dX12_child_129 : decode cX12_child 129 = .ok (.iconst (-1), 1) := by decide +kernel
theorem dX12_child_130 : decode cX12_child 130 = .ok (.ireturn, 1) := by decide +kernel
set_option maxRecDepth 100000 in
set_option maxHeartbeats 4000000 in
theorem c_X12_child (l : Launch) (D : va_G) (t : Nat → ClassId) (h0 : Nat) (L : Nat → Nat) (σ : HS) (hM : MdI h0 L σ) (a1 : Int32) (a2 : Int32) (post : Int32 → HS → Prop) (hw : F_X12_child h0 L a1 a2 post σ) (sz : Nat) : RMi l D t yX12_child cX12_child 6 (some .int) ({ frames := 1, cells := 0, slots := 0, locals := 20 }) h0 L σ sz [.ref h0, .int a1, .int a2] post := by
  refine h_go (τ := τT) okT (by decide) (Nat.le_of_ble_eq_true rfl) ?_
  intro p e s m below meth c ls A hF hr hlk hAe hH0 hA hl
  unfold hB
  rw [hAe]
  clear hAe
  have hF : FX p m c cX12_child 6 s _ RX12 D t := hF
  have hx := hF.1.1
  have hb := hF.1.2.1
  have hH : RT D t A s.heap h0 L σ s.heap [] := ⟨hH0, hM⟩
  have hl : lv_has ls 6 [(0, .ref h0), (1, .int a1), (2, .int a2)] := hl
  unfold F_X12_child at hw
  refine lv_iconst (v := 0) hx hb dX12_child_0 (by decide) ?_
  refine lv_istore_n (lv' := [(3, .int 0), (0, .ref h0), (1, .int a1), (2, .int a2)]) hx hb dX12_child_1 rfl hl (by decide) rfl (fun ls hl => ?_)
  have hl : lv_has ls 6 [(3, .int 0), (2, .int a2), (1, .int a1), (0, .ref h0)] := lv_sub hl [0, 3, 2, 1] rfl
  refine w_loop (β := Int32) (fun x1 => [(3, .int x1), (2, .int a2), (1, .int a1), (0, .ref h0)]) 0 hl hw hH (fun K3 x1 σ2 ls H locs hl hw hH ih4 => ?_)
  have hl : lv_has ls 6 [(3, .int x1), (2, .int a2), (1, .int a1), (0, .ref h0)] := hl
  refine lv_iload_n hx hb dX12_child_2 rfl (lv_at hl 0 rfl) ?_
  refine lv_bipush (v := 80) hx hb dX12_child_3 (by decide) ?_
  refine w_icmp_ge (tgt := 129) hF dX12_child_5 rfl hw (fun hw => ?_) (fun hw => ?_)
  · refine lv_iconst (v := (-1)) hx hb dX12_child_129 (by decide) ?_
    exact w_reti hF hH hr hlk rfl dX12_child_130 hw
  · refine lv_aload_n hx hb dX12_child_8 rfl (lv_at hl 3 rfl) ?_
    refine w_getA 1 hF hH fk_X12_13 dX12_child_9 (by decide) rfl ?_
    refine lv_iload_n hx hb dX12_child_12 rfl (lv_at hl 0 rfl) ?_
    refine w_zald 1 160 hF hH dX12_child_13 (by decide) rfl rfl hw (fun z5 hw => ?_)
    obtain ⟨K8, hK9, hw⟩ := jn_open hw
    refine w_join (K := K8) 47 (fun (x6 : Int32) => [(3, .int x1), (2, .int a2), (1, .int a1), (0, .ref h0)]) (fun (x6 : Int32) => [.int x6]) hl hH (fun x6 σ7 ls H locs hl hw hH => ?_) (fun jn10 => ?_)
    · have hw := hK9 x6 σ7 hw
      have hl : lv_has ls 6 [(3, .int x1), (2, .int a2), (1, .int a1), (0, .ref h0)] := hl
      refine lv_istore (lv' := [(4, .int x6), (3, .int x1), (2, .int a2), (1, .int a1), (0, .ref h0)]) hx hb dX12_child_47 hl (by decide) rfl (fun ls hl => ?_)
      refine lv_iconst (v := 0) hx hb dX12_child_49 (by decide) ?_
      refine lv_istore (lv' := [(5, .int 0), (4, .int x6), (3, .int x1), (2, .int a2), (1, .int a1), (0, .ref h0)]) hx hb dX12_child_50 hl (by decide) rfl (fun ls hl => ?_)
      refine w_loop (β := Int32 × Int32) (fun x11 => [(5, .int x11.1), (4, .int x11.2), (3, .int x1), (2, .int a2), (1, .int a1), (0, .ref h0)]) (0, x6) hl hw hH (fun K13 x11 σ12 ls H locs hl hw hH ih14 => ?_)
      have hl : lv_has ls 6 [(5, .int x11.1), (4, .int x11.2), (3, .int x1), (2, .int a2), (1, .int a1), (0, .ref h0)] := hl
      refine lv_iload hx hb dX12_child_52 (lv_at hl 0 rfl) ?_
      refine lv_aload_n hx hb dX12_child_54 rfl (lv_at hl 5 rfl) ?_
      refine w_getA 79 hF hH fk_X12_255 dX12_child_55 (by decide) rfl ?_
      refine lv_iload_n hx hb dX12_child_58 rfl (lv_at hl 3 rfl) ?_
      refine w_iald 79 130 hF hH dX12_child_59 (by decide) rfl rfl hw (fun z15 hw => ?_)
      obtain ⟨K18, hK19, hw⟩ := jn_open hw
      refine w_join (K := K18) 116 (fun (x16 : Unit) => [(4, .int x11.2), (3, .int x1), (2, .int a2), (1, .int a1), (0, .ref h0)]) (fun (x16 : Unit) => []) hl hH (fun x16 σ17 ls H locs hl hw hH => ?_) (fun jn20 => ?_)
      · have hw := hK19 x16 σ17 hw
        have hl : lv_has ls 6 [(4, .int x11.2), (3, .int x1), (2, .int a2), (1, .int a1), (0, .ref h0)] := hl
        refine lv_iload hx hb dX12_child_116 (lv_at hl 0 rfl) ?_
        refine w_if_eq (tgt := 123) hF dX12_child_118 rfl hw (fun hw => ?_) (fun hw => ?_)
        · obtain ⟨z21, ez21⟩ : ∃ z : Int32, z = x1 + 1 := ⟨_, rfl⟩
          have hw := hw z21 ez21
          refine lv_iinc (lv' := [(3, .int z21), (4, .int x11.2), (2, .int a2), (1, .int a1), (0, .ref h0)]) (k := 1) (v := z21) hx hb dX12_child_123 hl rfl ez21.symm (by decide) rfl (fun ls hl => ?_)
          refine lv_goto (tgt := 2) hx hb dX12_child_126 rfl ?_
          have hl : lv_has ls 6 [(3, .int z21), (2, .int a2), (1, .int a1), (0, .ref h0)] := lv_sub hl [0, 2, 3, 4] rfl
          exact ih4 z21 σ17 ls _ _ hl hw hH
        · refine lv_iload_n hx hb dX12_child_121 rfl (lv_at hl 1 rfl) ?_
          exact w_reti hF hH hr hlk rfl dX12_child_122 hw
      · skip
        refine w_icmp_ge (tgt := 116) hF dX12_child_60 rfl hw (fun hw => ?_) (fun hw => ?_)
        · have hl : lv_has ls 6 [(4, .int x11.2), (3, .int x1), (2, .int a2), (1, .int a1), (0, .ref h0)] := lv_sub hl [1, 2, 3, 4, 5] rfl
          exact jn20 () σ12 ls _ _ hl hw hH
        · refine lv_iload hx hb dX12_child_63 (lv_at hl 1 rfl) ?_
          refine w_if_eq (tgt := 116) hF dX12_child_65 rfl hw (fun hw => ?_) (fun hw => ?_)
          · have hl : lv_has ls 6 [(4, .int x11.2), (3, .int x1), (2, .int a2), (1, .int a1), (0, .ref h0)] := lv_sub hl [1, 2, 3, 4, 5] rfl
            exact jn20 () σ12 ls _ _ hl hw hH
          · refine lv_aload_n hx hb dX12_child_68 rfl (lv_at hl 5 rfl) ?_
            refine w_getA 4 hF hH fk_X12_24 dX12_child_69 (by decide) rfl ?_
            refine lv_bipush (v := 12) hx hb dX12_child_72 (by decide) ?_
            refine lv_iload_n hx hb dX12_child_74 rfl (lv_at hl 2 rfl) ?_
            refine lv_imul hx hb dX12_child_75 ?_
            refine w_nmi hw (fun z22 hw => ?_)
            refine lv_iload hx hb dX12_child_76 (lv_at hl 0 rfl) ?_
            refine lv_iadd hx hb dX12_child_78 ?_
            refine w_nmi hw (fun z23 hw => ?_)
            refine w_bald 4 1920 hF hH dX12_child_79 (by decide) rfl rfl hw (fun z24 hw => ?_)
            refine w_cSi (As := [.int z24]) (rest := []) hF hH hA ms_X12_311 (fun sz => c_X12_folded l D t h0 L _ hH.2 z24 _ hw sz) dX12_child_80 rfl rfl (by decide) rfl hl.1 (Nat.le_of_ble_eq_true rfl) (by decide) rfl (fun z26 σ25 H locs hw hH => ?_)
            refine lv_aload_n hx hb dX12_child_83 rfl (lv_at hl 5 rfl) ?_
            refine w_getA 77 hF hH fk_X12_249 dX12_child_84 (by decide) rfl ?_
            refine lv_aload_n hx hb dX12_child_87 rfl (lv_at hl 5 rfl) ?_
            refine w_getA 78 hF hH fk_X12_252 dX12_child_88 (by decide) rfl ?_
            refine lv_iload_n hx hb dX12_child_91 rfl (lv_at hl 3 rfl) ?_
            refine w_iald 78 130 hF hH dX12_child_92 (by decide) rfl rfl hw (fun z27 hw => ?_)
            refine lv_iload hx hb dX12_child_93 (lv_at hl 0 rfl) ?_
            refine lv_iadd hx hb dX12_child_95 ?_
            refine w_nmi hw (fun z28 hw => ?_)
            refine w_iald 77 130 hF hH dX12_child_96 (by decide) rfl rfl hw (fun z29 hw => ?_)
            refine w_cSi (As := [.int z29]) (rest := [.int z26]) hF hH hA ms_X12_311 (fun sz => c_X12_folded l D t h0 L _ hH.2 z29 _ hw sz) dX12_child_97 rfl rfl (by decide) rfl hl.1 (Nat.le_of_ble_eq_true rfl) (by decide) rfl (fun z31 σ30 H locs hw hH => ?_)
            obtain ⟨K34, hK35, hw⟩ := jn_open hw
            refine w_join (K := K34) 108 (fun (x32 : Int32) => [(5, .int x11.1), (3, .int x1), (2, .int a2), (1, .int a1), (0, .ref h0)]) (fun (x32 : Int32) => [.int x32]) hl hH (fun x32 σ33 ls H locs hl hw hH => ?_) (fun jn36 => ?_)
            · have hw := hK35 x32 σ33 hw
              have hl : lv_has ls 6 [(5, .int x11.1), (3, .int x1), (2, .int a2), (1, .int a1), (0, .ref h0)] := hl
              refine lv_istore (lv' := [(4, .int x32), (5, .int x11.1), (3, .int x1), (2, .int a2), (1, .int a1), (0, .ref h0)]) hx hb dX12_child_108 hl (by decide) rfl (fun ls hl => ?_)
              obtain ⟨z37, ez37⟩ : ∃ z : Int32, z = x11.1 + 1 := ⟨_, rfl⟩
              have hw := hw z37 ez37
              refine lv_iinc (lv' := [(5, .int z37), (4, .int x32), (3, .int x1), (2, .int a2), (1, .int a1), (0, .ref h0)]) (k := 1) (v := z37) hx hb dX12_child_110 hl rfl ez37.symm (by decide) rfl (fun ls hl => ?_)
              refine lv_goto (tgt := 52) hx hb dX12_child_113 rfl ?_
              exact ih14 (z37, x32) σ33 ls _ _ hl hw hH
            · skip
              refine w_icmp_ne (tgt := 107) hF dX12_child_100 rfl hw (fun hw => ?_) (fun hw => ?_)
              · refine lv_iconst (v := 0) hx hb dX12_child_107 (by decide) ?_
                have hl : lv_has ls 6 [(5, .int x11.1), (3, .int x1), (2, .int a2), (1, .int a1), (0, .ref h0)] := lv_sub hl [0, 2, 3, 4, 5] rfl
                exact jn36 0 σ30 ls _ _ hl hw hH
              · refine lv_iconst (v := 1) hx hb dX12_child_103 (by decide) ?_
                refine lv_goto (tgt := 108) hx hb dX12_child_104 rfl ?_
                have hl : lv_has ls 6 [(5, .int x11.1), (3, .int x1), (2, .int a2), (1, .int a1), (0, .ref h0)] := lv_sub hl [0, 2, 3, 4, 5] rfl
                exact jn36 1 σ30 ls _ _ hl hw hH
    · skip
      obtain ⟨K40, hK41, hw⟩ := jn_open hw
      refine w_join (K := K40) 46 (fun (x38 : Unit) => [(3, .int x1), (2, .int a2), (1, .int a1), (0, .ref h0)]) (fun (x38 : Unit) => []) hl hH (fun x38 σ39 ls H locs hl hw hH => ?_) (fun jn42 => ?_)
      · have hw := hK41 x38 σ39 hw
        have hl : lv_has ls 6 [(3, .int x1), (2, .int a2), (1, .int a1), (0, .ref h0)] := hl
        refine lv_iconst (v := 0) hx hb dX12_child_46 (by decide) ?_
        exact jn10 0 σ39 ls _ _ hl hw hH
      · skip
        refine w_if_eq (tgt := 46) hF dX12_child_14 rfl hw (fun hw => ?_) (fun hw => ?_)
        · exact jn42 () σ2 ls _ _ hl hw hH
        · refine lv_aload_n hx hb dX12_child_17 rfl (lv_at hl 3 rfl) ?_
          refine w_getA 2 hF hH fk_X12_17 dX12_child_18 (by decide) rfl ?_
          refine lv_iload_n hx hb dX12_child_21 rfl (lv_at hl 0 rfl) ?_
          refine w_iald 2 160 hF hH dX12_child_22 (by decide) rfl rfl hw (fun z43 hw => ?_)
          refine lv_iload_n hx hb dX12_child_23 rfl (lv_at hl 2 rfl) ?_
          refine w_icmp_ne (tgt := 46) hF dX12_child_24 rfl hw (fun hw => ?_) (fun hw => ?_)
          · exact jn42 () σ2 ls _ _ hl hw hH
          · refine lv_aload_n hx hb dX12_child_27 rfl (lv_at hl 3 rfl) ?_
            refine w_getA 5 hF hH fk_X12_27 dX12_child_28 (by decide) rfl ?_
            refine lv_iload_n hx hb dX12_child_31 rfl (lv_at hl 0 rfl) ?_
            refine w_iald 5 160 hF hH dX12_child_32 (by decide) rfl rfl hw (fun z44 hw => ?_)
            refine lv_aload_n hx hb dX12_child_33 rfl (lv_at hl 3 rfl) ?_
            refine w_getA 79 hF hH fk_X12_255 dX12_child_34 (by decide) rfl ?_
            refine lv_iload_n hx hb dX12_child_37 rfl (lv_at hl 1 rfl) ?_
            refine w_iald 79 130 hF hH dX12_child_38 (by decide) rfl rfl hw (fun z45 hw => ?_)
            refine w_icmp_ne (tgt := 46) hF dX12_child_39 rfl hw (fun hw => ?_) (fun hw => ?_)
            · exact jn42 () σ2 ls _ _ hl hw hH
            · refine lv_iconst (v := 1) hx hb dX12_child_42 (by decide) ?_
              refine lv_goto (tgt := 47) hx hb dX12_child_43 rfl ?_
              exact jn10 1 σ2 ls _ _ hl hw hH
def F_X12_goes (h0 : Nat) (L : Nat → Nat) (a1 : Int32) (post : Int32 → HS → Prop) (σ : HS) : Prop := ∀ σ1 : HS, σ1 = h_uI σ h0 116 (-1) → ∀ σ2 : HS, σ2 = h_uI σ1 h0 117 a1 → lw (fun (K5 : Int32 → HS → Prop) (x3 : Int32) (σ4 : HS) => ∀ z7 : Int32, z7 = sI σ4 h0 115 → ((z7.toInt ≤ x3.toInt) → (0 ≤ (1 : Int32).toInt ∧ (1 : Int32).toInt ≤ 1) ∧ post 1 σ4) ∧ ((x3.toInt < z7.toInt) → ∀ z8 : Int32, z8 = sI σ4 h0 117 → jn (fun (K11 : Unit → HS → Prop) => ((z8.toInt < 0) → K11 () σ4) ∧ ((0 ≤ z8.toInt) → ∀ z14 : Int32, z14 = sI σ4 h0 117 → (0 ≤ z14.toInt ∧ z14.toInt < 160) ∧ ∀ z15 : Int32, z15 = sI σ4 (L 3) z14.toInt.toNat → ((z15.toInt = 0) → K11 () σ4) ∧ ((¬ z15.toInt = 0) → ∀ z16 : Int32, z16 = sI σ4 h0 117 → (0 ≤ z16.toInt ∧ z16.toInt < 80) ∧ ∀ z17 : Int32, z17 = sI σ4 (L 10) z16.toInt.toNat → ((z17.toInt = 0) → ∀ z18 : Int32, z18 = sI σ4 h0 117 → ∀ σ19 : HS, σ19 = h_uI σ4 h0 116 z18 → ∀ z20 : Int32, z20 = sI σ19 h0 116 → F_X12_child h0 L z20 x3 (fun (z22 : Int32) (σ21 : HS) => ∀ σ23 : HS, σ23 = h_uI σ21 h0 117 z22 → ∀ z24 : Int32, z24 = x3 + 1 → K5 z24 σ23) σ19) ∧ ((¬ z17.toInt = 0) → K11 () σ4)))) (fun (x9 : Unit) (σ10 : HS) => (0 ≤ (0 : Int32).toInt ∧ (0 : Int32).toInt ≤ 1) ∧ post 0 σ10))) 0 σ2
theorem dX12_goes_0 : decode cX12_goes 0 = .ok (.aload_n 0, 1) := by decide +kernel
theorem dX12_goes_1 : decode cX12_goes 1 = .ok (.iconst (-1), 1) := by decide +kernel
theorem dX12_goes_2 : decode cX12_goes 2 = .ok (.putfield 625, 3) := by decide +kernel
theorem dX12_goes_5 : decode cX12_goes 5 = .ok (.aload_n 0, 1) := by decide +kernel
theorem dX12_goes_6 : decode cX12_goes 6 = .ok (.iload_n 1, 1) := by decide +kernel
theorem dX12_goes_7 : decode cX12_goes 7 = .ok (.putfield 628, 3) := by decide +kernel
theorem dX12_goes_10 : decode cX12_goes 10 = .ok (.iconst 0, 1) := by decide +kernel
theorem dX12_goes_11 : decode cX12_goes 11 = .ok (.istore_n 2, 1) := by decide +kernel
theorem dX12_goes_12 : decode cX12_goes 12 = .ok (.iload_n 2, 1) := by decide +kernel
theorem dX12_goes_13 : decode cX12_goes 13 = .ok (.aload_n 0, 1) := by decide +kernel
theorem dX12_goes_14 : decode cX12_goes 14 = .ok (.getfield 619, 3) := by decide +kernel
theorem dX12_goes_17 : decode cX12_goes 17 = .ok (.if_icmp .ge 63, 3) := by decide +kernel
theorem dX12_goes_20 : decode cX12_goes 20 = .ok (.aload_n 0, 1) := by decide +kernel
theorem dX12_goes_21 : decode cX12_goes 21 = .ok (.getfield 628, 3) := by decide +kernel
theorem dX12_goes_24 : decode cX12_goes 24 = .ok (.ifCond .lt 27, 3) := by decide +kernel
theorem dX12_goes_27 : decode cX12_goes 27 = .ok (.aload_n 0, 1) := by decide +kernel
theorem dX12_goes_28 : decode cX12_goes 28 = .ok (.getfield 21, 3) := by decide +kernel
theorem dX12_goes_31 : decode cX12_goes 31 = .ok (.aload_n 0, 1) := by decide +kernel
theorem dX12_goes_32 : decode cX12_goes 32 = .ok (.getfield 628, 3) := by decide +kernel
theorem dX12_goes_35 : decode cX12_goes 35 = .ok (.baload, 1) := by decide +kernel
theorem dX12_goes_36 : decode cX12_goes 36 = .ok (.ifCond .eq 15, 3) := by decide +kernel
theorem dX12_goes_39 : decode cX12_goes 39 = .ok (.aload_n 0, 1) := by decide +kernel
theorem dX12_goes_40 : decode cX12_goes 40 = .ok (.getfield 44, 3) := by decide +kernel
theorem dX12_goes_43 : decode cX12_goes 43 = .ok (.aload_n 0, 1) := by decide +kernel
theorem dX12_goes_44 : decode cX12_goes 44 = .ok (.getfield 628, 3) := by decide +kernel
theorem dX12_goes_47 : decode cX12_goes 47 = .ok (.baload, 1) := by decide +kernel
theorem dX12_goes_48 : decode cX12_goes 48 = .ok (.ifCond .eq 5, 3) := by decide +kernel
theorem dX12_goes_51 : decode cX12_goes 51 = .ok (.iconst 0, 1) := by decide +kernel
theorem dX12_goes_52 : decode cX12_goes 52 = .ok (.ireturn, 1) := by decide +kernel
theorem dX12_goes_53 : decode cX12_goes 53 = .ok (.aload_n 0, 1) := by decide +kernel
theorem dX12_goes_54 : decode cX12_goes 54 = .ok (.aload_n 0, 1) := by decide +kernel
theorem dX12_goes_55 : decode cX12_goes 55 = .ok (.getfield 628, 3) := by decide +kernel
theorem dX12_goes_58 : decode cX12_goes 58 = .ok (.putfield 625, 3) := by decide +kernel
theorem dX12_goes_61 : decode cX12_goes 61 = .ok (.aload_n 0, 1) := by decide +kernel
theorem dX12_goes_62 : decode cX12_goes 62 = .ok (.aload_n 0, 1) := by decide +kernel
theorem dX12_goes_63 : decode cX12_goes 63 = .ok (.aload_n 0, 1) := by decide +kernel
theorem dX12_goes_64 : decode cX12_goes 64 = .ok (.getfield 625, 3) := by decide +kernel
theorem dX12_goes_67 : decode cX12_goes 67 = .ok (.iload_n 2, 1) := by decide +kernel
theorem dX12_goes_68 : decode cX12_goes 68 = .ok (.invokevirtual 631, 3) := by decide +kernel
theorem dX12_goes_71 : decode cX12_goes 71 = .ok (.putfield 628, 3) := by decide +kernel
theorem dX12_goes_74 : decode cX12_goes 74 = .ok (.iinc 2 1, 3) := by decide +kernel
theorem dX12_goes_77 : decode cX12_goes 77 = .ok (.goto (-65), 3) := by decide +kernel
theorem dX12_goes_80 : decode cX12_goes 80 = .ok (.iconst 1, 1) := by decide +kernel
theorem dX12_goes_81 : decode cX12_goes 81 = .ok (.ireturn, 1) := by decide +kernel
set_option maxRecDepth 100000 in
set_option maxHeartbeats 4000000 in
theorem c_X12_goes (l : Launch) (D : va_G) (t : Nat → ClassId) (h0 : Nat) (L : Nat → Nat) (σ : HS) (hM : MdI h0 L σ) (a1 : Int32) (post : Int32 → HS → Prop) (hw : F_X12_goes h0 L a1 post σ) (sz : Nat) : RMi l D t yX12_goes cX12_goes 3 (some .boolean) ({ frames := 2, cells := 0, slots := 0, locals := 45 }) h0 L σ sz [.ref h0, .int a1] post := by
  refine h_go (τ := τT) okT (by decide) (Nat.le_of_ble_eq_true rfl) ?_
  intro p e s m below meth c ls A hF hr hlk hAe hH0 hA hl
  unfold hB
  rw [hAe]
  clear hAe
  have hF : FX p m c cX12_goes 3 s _ RX12 D t := hF
  have hx := hF.1.1
  have hb := hF.1.2.1
  have hH : RT D t A s.heap h0 L σ s.heap [] := ⟨hH0, hM⟩
  have hl : lv_has ls 3 [(0, .ref h0), (1, .int a1)] := hl
  unfold F_X12_goes at hw
  refine lv_aload_n hx hb dX12_goes_0 rfl (lv_at hl 0 rfl) ?_
  refine lv_iconst (v := (-1)) hx hb dX12_goes_1 (by decide) ?_
  refine w_putI hF hH fk_X12_625 dX12_goes_2 rfl rfl rfl hw (fun σ1 H locs hw hH => ?_)
  refine lv_aload_n hx hb dX12_goes_5 rfl (lv_at hl 0 rfl) ?_
  refine lv_iload_n hx hb dX12_goes_6 rfl (lv_at hl 1 rfl) ?_
  refine w_putI hF hH fk_X12_628 dX12_goes_7 rfl rfl rfl hw (fun σ2 H locs hw hH => ?_)
  refine lv_iconst (v := 0) hx hb dX12_goes_10 (by decide) ?_
  refine lv_istore_n (lv' := [(2, .int 0), (0, .ref h0), (1, .int a1)]) hx hb dX12_goes_11 rfl hl (by decide) rfl (fun ls hl => ?_)
  have hl : lv_has ls 3 [(2, .int 0), (0, .ref h0)] := lv_sub hl [0, 1] rfl
  refine w_loop (β := Int32) (fun x3 => [(2, .int x3), (0, .ref h0)]) 0 hl hw hH (fun K5 x3 σ4 ls H locs hl hw hH ih6 => ?_)
  have hl : lv_has ls 3 [(2, .int x3), (0, .ref h0)] := hl
  refine lv_iload_n hx hb dX12_goes_12 rfl (lv_at hl 0 rfl) ?_
  refine lv_aload_n hx hb dX12_goes_13 rfl (lv_at hl 1 rfl) ?_
  refine w_getI hF hH fk_X12_619 dX12_goes_14 hw (fun z7 hw => ?_)
  refine w_icmp_ge (tgt := 80) hF dX12_goes_17 rfl hw (fun hw => ?_) (fun hw => ?_)
  · refine lv_iconst (v := 1) hx hb dX12_goes_80 (by decide) ?_
    exact w_retz hF hH hr hlk dX12_goes_81 hw
  · refine lv_aload_n hx hb dX12_goes_20 rfl (lv_at hl 1 rfl) ?_
    refine w_getI hF hH fk_X12_628 dX12_goes_21 hw (fun z8 hw => ?_)
    obtain ⟨K11, hK12, hw⟩ := jn_open hw
    refine w_join (K := K11) 51 (fun (x9 : Unit) => []) (fun (x9 : Unit) => []) hl hH (fun x9 σ10 ls H locs hl hw hH => ?_) (fun jn13 => ?_)
    · have hw := hK12 x9 σ10 hw
      have hl : lv_has ls 3 [] := hl
      refine lv_iconst (v := 0) hx hb dX12_goes_51 (by decide) ?_
      exact w_retz hF hH hr hlk dX12_goes_52 hw
    · skip
      refine w_if_lt (tgt := 51) hF dX12_goes_24 rfl hw (fun hw => ?_) (fun hw => ?_)
      · have hl : lv_has ls 3 [] := lv_sub hl [] rfl
        exact jn13 () σ4 ls _ _ hl hw hH
      · refine lv_aload_n hx hb dX12_goes_27 rfl (lv_at hl 1 rfl) ?_
        refine w_getA 3 hF hH fk_X12_21 dX12_goes_28 (by decide) rfl ?_
        refine lv_aload_n hx hb dX12_goes_31 rfl (lv_at hl 1 rfl) ?_
        refine w_getI hF hH fk_X12_628 dX12_goes_32 hw (fun z14 hw => ?_)
        refine w_zald 3 160 hF hH dX12_goes_35 (by decide) rfl rfl hw (fun z15 hw => ?_)
        refine w_if_eq (tgt := 51) hF dX12_goes_36 rfl hw (fun hw => ?_) (fun hw => ?_)
        · have hl : lv_has ls 3 [] := lv_sub hl [] rfl
          exact jn13 () σ4 ls _ _ hl hw hH
        · refine lv_aload_n hx hb dX12_goes_39 rfl (lv_at hl 1 rfl) ?_
          refine w_getA 10 hF hH fk_X12_44 dX12_goes_40 (by decide) rfl ?_
          refine lv_aload_n hx hb dX12_goes_43 rfl (lv_at hl 1 rfl) ?_
          refine w_getI hF hH fk_X12_628 dX12_goes_44 hw (fun z16 hw => ?_)
          refine w_zald 10 80 hF hH dX12_goes_47 (by decide) rfl rfl hw (fun z17 hw => ?_)
          refine w_if_eq (tgt := 53) hF dX12_goes_48 rfl hw (fun hw => ?_) (fun hw => ?_)
          · refine lv_aload_n hx hb dX12_goes_53 rfl (lv_at hl 1 rfl) ?_
            refine lv_aload_n hx hb dX12_goes_54 rfl (lv_at hl 1 rfl) ?_
            refine w_getI hF hH fk_X12_628 dX12_goes_55 hw (fun z18 hw => ?_)
            refine w_putI hF hH fk_X12_625 dX12_goes_58 rfl rfl rfl hw (fun σ19 H locs hw hH => ?_)
            refine lv_aload_n hx hb dX12_goes_61 rfl (lv_at hl 1 rfl) ?_
            refine lv_aload_n hx hb dX12_goes_62 rfl (lv_at hl 1 rfl) ?_
            refine lv_aload_n hx hb dX12_goes_63 rfl (lv_at hl 1 rfl) ?_
            refine w_getI hF hH fk_X12_625 dX12_goes_64 hw (fun z20 hw => ?_)
            refine lv_iload_n hx hb dX12_goes_67 rfl (lv_at hl 0 rfl) ?_
            refine w_cVi (As := [.int z20, .int x3]) (rest := [.ref h0]) hF hH hA mv_X12_631 (fun sz => c_X12_child l D t h0 L _ hH.2 z20 x3 _ hw sz) dX12_goes_68 rfl rfl (by decide) rfl hl.1 (Nat.le_of_ble_eq_true rfl) (by decide) rfl (fun z22 σ21 H locs hw hH => ?_)
            refine w_putI hF hH fk_X12_628 dX12_goes_71 rfl rfl rfl hw (fun σ23 H locs hw hH => ?_)
            obtain ⟨z24, ez24⟩ : ∃ z : Int32, z = x3 + 1 := ⟨_, rfl⟩
            have hw := hw z24 ez24
            refine lv_iinc (lv' := [(2, .int z24), (0, .ref h0)]) (k := 0) (v := z24) hx hb dX12_goes_74 hl rfl ez24.symm (by decide) rfl (fun ls hl => ?_)
            refine lv_goto (tgt := 12) hx hb dX12_goes_77 rfl ?_
            exact ih6 z24 σ23 ls _ _ hl hw hH
          · have hl : lv_has ls 3 [] := lv_sub hl [] rfl
            exact jn13 () σ4 ls _ _ hl hw hH
def F_X12_number1 (h0 : Nat) (L : Nat → Nat) (a1 : Int32) (post : Int32 → HS → Prop) (σ : HS) : Prop := ∀ z1 : Option Nat, z1 = sP σ h0 85 → ∀ z2 : Int32, z2 = sI σ h0 86 → ∀ z3 : Int32, z3 = z2 + a1 → ∃ j : Nat, (j = 29 ∨ j = 75) ∧ z1 = some (L j) ∧ (0 ≤ z3.toInt ∧ z3.toInt < (lnL.getD j 0 : Int)) ∧ ∀ z4 : Int32, z4 = sI σ (L j) z3.toInt.toNat → ∀ z5 : Int32, z5 = z4 &&& 255 → post z5 σ
theorem dX12_number1_0 : decode cX12_number1 0 = .ok (.aload_n 0, 1) := by decide +kernel
theorem dX12_number1_1 : decode cX12_number1 1 = .ok (.getfield 356, 3) := by decide +kernel
theorem dX12_number1_4 : decode cX12_number1 4 = .ok (.aload_n 0, 1) := by decide +kernel
theorem dX12_number1_5 : decode cX12_number1 5 = .ok (.getfield 359, 3) := by decide +kernel
theorem dX12_number1_8 : decode cX12_number1 8 = .ok (.iload_n 1, 1) := by decide +kernel
theorem dX12_number1_9 : decode cX12_number1 9 = .ok (.iadd, 1) := by decide +kernel
theorem dX12_number1_10 : decode cX12_number1 10 = .ok (.baload, 1) := by decide +kernel
theorem dX12_number1_11 : decode cX12_number1 11 = .ok (.sipush 255, 3) := by decide +kernel
theorem dX12_number1_14 : decode cX12_number1 14 = .ok (.iand, 1) := by decide +kernel
theorem dX12_number1_15 : decode cX12_number1 15 = .ok (.ireturn, 1) := by decide +kernel
set_option maxRecDepth 100000 in
set_option maxHeartbeats 4000000 in
theorem c_X12_number1 (l : Launch) (D : va_G) (t : Nat → ClassId) (h0 : Nat) (L : Nat → Nat) (σ : HS) (hM : MdI h0 L σ) (a1 : Int32) (post : Int32 → HS → Prop) (hw : F_X12_number1 h0 L a1 post σ) (sz : Nat) : RMi l D t yX12_number1 cX12_number1 2 (some .int) ({ frames := 0, cells := 0, slots := 0, locals := 0 }) h0 L σ sz [.ref h0, .int a1] post := by
  refine h_go (τ := τT) okT (by decide) (Nat.le_of_ble_eq_true rfl) ?_
  intro p e s m below meth c ls A hF hr hlk hAe hH0 hA hl
  unfold hB
  rw [hAe]
  clear hAe
  have hF : FX p m c cX12_number1 2 s _ RX12 D t := hF
  have hx := hF.1.1
  have hb := hF.1.2.1
  have hH : RT D t A s.heap h0 L σ s.heap [] := ⟨hH0, hM⟩
  have hl : lv_has ls 2 [(0, .ref h0), (1, .int a1)] := hl
  unfold F_X12_number1 at hw
  refine lv_aload_n hx hb dX12_number1_0 rfl (lv_at hl 0 rfl) ?_
  refine w_getQ hF hH fk_X12_356 dX12_number1_1 hw (fun z1 hw => ?_)
  refine lv_aload_n hx hb dX12_number1_4 rfl (lv_at hl 0 rfl) ?_
  refine w_getI hF hH fk_X12_359 dX12_number1_5 hw (fun z2 hw => ?_)
  refine lv_iload_n hx hb dX12_number1_8 rfl (lv_at hl 1 rfl) ?_
  refine lv_iadd hx hb dX12_number1_9 ?_
  refine w_nmi hw (fun z3 hw => ?_)
  refine w_inald hF hH dX12_number1_10 hw (fun z4 hw => ?_)
  refine lv_sipush (v := 255) hx hb dX12_number1_11 (by decide) ?_
  refine lv_iand hx hb dX12_number1_14 ?_
  refine w_nmi hw (fun z5 hw => ?_)
  exact w_reti hF hH hr hlk rfl dX12_number1_15 hw
def F_X12_count (h0 : Nat) (L : Nat → Nat) (j N : Nat) (post : Int32 → HS → Prop) (σ : HS) : Prop := lw (fun (K3 : (Int32 × Int32) → HS → Prop) (x1 : Int32 × Int32) (σ2 : HS) => ∀ z5 : Int32, z5.toInt = (N : Int) → ((z5.toInt ≤ x1.1.toInt) → post x1.2 σ2) ∧ ((x1.1.toInt < z5.toInt) → (0 ≤ x1.1.toInt ∧ x1.1.toInt < N) ∧ ∀ z6 : Int64, z6 = sJ σ2 (L j) x1.1.toInt.toNat → jn (fun (K9 : Int32 → HS → Prop) => ((z6.toInt ≤ (0 : Int64).toInt) → K9 0 σ2) ∧ (((0 : Int64).toInt < z6.toInt) → K9 1 σ2)) (fun (x7 : Int32) (σ8 : HS) => ∀ z12 : Int32, z12 = x1.2 + x7 → ∀ z13 : Int32, z13 = x1.1 + 1 → K3 (z13, z12) σ8))) (0, 0) σ
theorem dX12_count_0 : decode cX12_count 0 = .ok (.iconst 0, 1) := by decide +kernel
theorem dX12_count_1 : decode cX12_count 1 = .ok (.istore_n 2, 1) := by decide +kernel
theorem dX12_count_2 : decode cX12_count 2 = .ok (.iconst 0, 1) := by decide +kernel
theorem dX12_count_3 : decode cX12_count 3 = .ok (.istore_n 3, 1) := by decide +kernel
theorem dX12_count_4 : decode cX12_count 4 = .ok (.iload_n 3, 1) := by decide +kernel
theorem dX12_count_5 : decode cX12_count 5 = .ok (.aload_n 1, 1) := by decide +kernel
theorem dX12_count_6 : decode cX12_count 6 = .ok (.arraylength, 1) := by decide +kernel
theorem dX12_count_7 : decode cX12_count 7 = .ok (.if_icmp .ge 25, 3) := by decide +kernel
theorem dX12_count_10 : decode cX12_count 10 = .ok (.iload_n 2, 1) := by decide +kernel
theorem dX12_count_11 : decode cX12_count 11 = .ok (.aload_n 1, 1) := by decide +kernel
theorem dX12_count_12 : decode cX12_count 12 = .ok (.iload_n 3, 1) := by decide +kernel
theorem dX12_count_13 : decode cX12_count 13 = .ok (.laload, 1) := by decide +kernel
theorem dX12_count_14 : decode cX12_count 14 = .ok (.lconst 0, 1) := by decide +kernel
theorem dX12_count_15 : decode cX12_count 15 = .ok (.lcmp, 1) := by decide +kernel
theorem dX12_count_16 : decode cX12_count 16 = .ok (.ifCond .le 7, 3) := by decide +kernel
theorem dX12_count_19 : decode cX12_count 19 = .ok (.iconst 1, 1) := by decide +kernel
theorem dX12_count_20 : decode cX12_count 20 = .ok (.goto 4, 3) := by decide +kernel
theorem dX12_count_23 : decode cX12_count 23 = .ok (.iconst 0, 1) := by decide +kernel
theorem dX12_count_24 : decode cX12_count 24 = .ok (.iadd, 1) := by decide +kernel
theorem dX12_count_25 : decode cX12_count 25 = .ok (.istore_n 2, 1) := by decide +kernel
theorem dX12_count_26 : decode cX12_count 26 = .ok (.iinc 3 1, 3) := by decide +kernel
theorem dX12_count_29 : decode cX12_count 29 = .ok (.goto (-25), 3) := by decide +kernel
theorem dX12_count_32 : decode cX12_count 32 = .ok (.iload_n 2, 1) := by decide +kernel
theorem dX12_count_33 : decode cX12_count 33 = .ok (.ireturn, 1) := by decide +kernel
set_option maxRecDepth 100000 in
set_option maxHeartbeats 4000000 in
theorem c_X12_count (l : Launch) (D : va_G) (t : Nat → ClassId) (h0 : Nat) (L : Nat → Nat) (σ : HS) (hM : MdI h0 L σ) (j N : Nat) (hj : j < 80) (hp : ph (30 + j) = 22) (hN : lnL.getD j 0 = N) (hN2 : N < 2 ^ 31) (post : Int32 → HS → Prop) (hw : F_X12_count h0 L j N post σ) (sz : Nat) : RMi l D t yX12_count cX12_count 4 (some .int) ({ frames := 0, cells := 0, slots := 0, locals := 0 }) h0 L σ sz [.ref h0, .ref (L j)] post := by
  refine h_go (τ := τT) okT (by decide) (Nat.le_of_ble_eq_true rfl) ?_
  intro p e s m below meth c ls A hF hr hlk hAe hH0 hA hl
  unfold hB
  rw [hAe]
  clear hAe
  have hF : FX p m c cX12_count 4 s _ RX12 D t := hF
  have hx := hF.1.1
  have hb := hF.1.2.1
  have hH : RT D t A s.heap h0 L σ s.heap [] := ⟨hH0, hM⟩
  have hl : lv_has ls 4 [(0, .ref h0), (1, .ref (L j))] := hl
  unfold F_X12_count at hw
  refine lv_iconst (v := 0) hx hb dX12_count_0 (by decide) ?_
  refine lv_istore_n (lv' := [(2, .int 0), (0, .ref h0), (1, .ref (L j))]) hx hb dX12_count_1 rfl hl (by decide) rfl (fun ls hl => ?_)
  refine lv_iconst (v := 0) hx hb dX12_count_2 (by decide) ?_
  refine lv_istore_n (lv' := [(3, .int 0), (2, .int 0), (0, .ref h0), (1, .ref (L j))]) hx hb dX12_count_3 rfl hl (by decide) rfl (fun ls hl => ?_)
  have hl : lv_has ls 4 [(3, .int 0), (2, .int 0), (1, .ref (L j))] := lv_sub hl [0, 1, 3] rfl
  refine w_loop (β := Int32 × Int32) (fun x1 => [(3, .int x1.1), (2, .int x1.2), (1, .ref (L j))]) (0, 0) hl hw hH (fun K3 x1 σ2 ls H locs hl hw hH ih4 => ?_)
  have hl : lv_has ls 4 [(3, .int x1.1), (2, .int x1.2), (1, .ref (L j))] := hl
  refine lv_iload_n hx hb dX12_count_4 rfl (lv_at hl 0 rfl) ?_
  refine lv_aload_n hx hb dX12_count_5 rfl (lv_at hl 2 rfl) ?_
  refine w_alen j N hF hH dX12_count_6 hj hp hN hN2 hw (fun z5 hw => ?_)
  refine w_icmp_ge (tgt := 32) hF dX12_count_7 rfl hw (fun hw => ?_) (fun hw => ?_)
  · refine lv_iload_n hx hb dX12_count_32 rfl (lv_at hl 1 rfl) ?_
    exact w_reti hF hH hr hlk rfl dX12_count_33 hw
  · refine lv_iload_n hx hb dX12_count_10 rfl (lv_at hl 1 rfl) ?_
    refine lv_aload_n hx hb dX12_count_11 rfl (lv_at hl 2 rfl) ?_
    refine lv_iload_n hx hb dX12_count_12 rfl (lv_at hl 0 rfl) ?_
    refine w_lald j N hF hH dX12_count_13 hj hp hN hw (fun z6 hw => ?_)
    refine lv_lconst (v := 0) hx hb dX12_count_14 (by decide) ?_
    obtain ⟨K9, hK10, hw⟩ := jn_open hw
    refine w_join (K := K9) 24 (fun (x7 : Int32) => [(3, .int x1.1), (1, .ref (L j))]) (fun (x7 : Int32) => [.int x7, .int x1.2]) hl hH (fun x7 σ8 ls H locs hl hw hH => ?_) (fun jn11 => ?_)
    · have hw := hK10 x7 σ8 hw
      have hl : lv_has ls 4 [(3, .int x1.1), (1, .ref (L j))] := hl
      refine lv_iadd hx hb dX12_count_24 ?_
      refine w_nmi hw (fun z12 hw => ?_)
      refine lv_istore_n (lv' := [(2, .int z12), (3, .int x1.1), (1, .ref (L j))]) hx hb dX12_count_25 rfl hl (by decide) rfl (fun ls hl => ?_)
      obtain ⟨z13, ez13⟩ : ∃ z : Int32, z = x1.1 + 1 := ⟨_, rfl⟩
      have hw := hw z13 ez13
      refine lv_iinc (lv' := [(3, .int z13), (2, .int z12), (1, .ref (L j))]) (k := 1) (v := z13) hx hb dX12_count_26 hl rfl ez13.symm (by decide) rfl (fun ls hl => ?_)
      refine lv_goto (tgt := 4) hx hb dX12_count_29 rfl ?_
      exact ih4 (z13, z12) σ8 ls _ _ hl hw hH
    · skip
      refine w_lif_le (tgt := 23) hF dX12_count_15 dX12_count_16 rfl hw (fun hw => ?_) (fun hw => ?_)
      · refine lv_iconst (v := 0) hx hb dX12_count_23 (by decide) ?_
        have hl : lv_has ls 4 [(3, .int x1.1), (1, .ref (L j))] := lv_sub hl [0, 2] rfl
        exact jn11 0 σ2 ls _ _ hl hw hH
      · refine lv_iconst (v := 1) hx hb dX12_count_19 (by decide) ?_
        refine lv_goto (tgt := 24) hx hb dX12_count_20 rfl ?_
        have hl : lv_has ls 4 [(3, .int x1.1), (1, .ref (L j))] := lv_sub hl [0, 2] rfl
        exact jn11 1 σ2 ls _ _ hl hw hH
def F_X12_openWith (h0 : Nat) (L : Nat → Nat) (a1 : Int32) (a2 : Int32) (post : Int32 → HS → Prop) (σ : HS) : Prop := lw (fun (K3 : Int32 → HS → Prop) (x1 : Int32) (σ2 : HS) => (((40 : Int32).toInt ≤ x1.toInt) → post (-1) σ2) ∧ ((x1.toInt < (40 : Int32).toInt) → (0 ≤ x1.toInt ∧ x1.toInt < 40) ∧ ∀ z5 : Int64, z5 = sJ σ2 (L 41) x1.toInt.toNat → jn (fun (K8 : Int32 → HS → Prop) => jn (fun (K26 : Unit → HS → Prop) => ((z5.toInt ≤ (0 : Int64).toInt) → K26 () σ2) ∧ (((0 : Int64).toInt < z5.toInt) → (0 ≤ x1.toInt ∧ x1.toInt < 40) ∧ ∀ z29 : Int32, z29 = sI σ2 (L 43) x1.toInt.toNat → ((¬ z29.toInt = a1.toInt) → K26 () σ2) ∧ ((z29.toInt = a1.toInt) → K8 1 σ2))) (fun (x24 : Unit) (σ25 : HS) => K8 0 σ25)) (fun (x6 : Int32) (σ7 : HS) => jn (fun (K13 : Unit → HS → Prop) => ((x6.toInt = 0) → K13 () σ7) ∧ ((¬ x6.toInt = 0) → jn (fun (K19 : Unit → HS → Prop) => ((0 ≤ a2.toInt) → (0 ≤ x1.toInt ∧ x1.toInt < 40) ∧ ∀ z22 : Int32, z22 = sI σ7 (L 46) x1.toInt.toNat → ((¬ z22.toInt = a2.toInt) → K13 () σ7) ∧ ((z22.toInt = a2.toInt) → K19 () σ7)) ∧ ((a2.toInt < 0) → (0 ≤ x1.toInt ∧ x1.toInt < 40) ∧ ∀ z23 : Int32, z23 = sI σ7 (L 47) x1.toInt.toNat → ((z23.toInt = 0) → K13 () σ7) ∧ ((¬ z23.toInt = 0) → K19 () σ7))) (fun (x17 : Unit) (σ18 : HS) => post x1 σ18))) (fun (x11 : Unit) (σ12 : HS) => ∀ z16 : Int32, z16 = x1 + 1 → K3 z16 σ12)))) 0 σ
theorem dX12_openWith_0 : decode cX12_openWith 0 = .ok (.iconst 0, 1) := by decide +kernel
theorem dX12_openWith_1 : decode cX12_openWith 1 = .ok (.istore_n 3, 1) := by decide +kernel
theorem dX12_openWith_2 : decode cX12_openWith 2 = .ok (.iload_n 3, 1) := by decide +kernel
theorem dX12_openWith_3 : decode cX12_openWith 3 = .ok (.bipush 40, 2) := by decide +kernel
theorem dX12_openWith_5 : decode cX12_openWith 5 = .ok (.if_icmp .ge 70, 3) := by decide +kernel
theorem dX12_openWith_8 : decode cX12_openWith 8 = .ok (.aload_n 0, 1) := by decide +kernel
theorem dX12_openWith_9 : decode cX12_openWith 9 = .ok (.getfield 139, 3) := by decide +kernel
theorem dX12_openWith_12 : decode cX12_openWith 12 = .ok (.iload_n 3, 1) := by decide +kernel
theorem dX12_openWith_13 : decode cX12_openWith 13 = .ok (.laload, 1) := by decide +kernel
theorem dX12_openWith_14 : decode cX12_openWith 14 = .ok (.lconst 0, 1) := by decide +kernel
theorem dX12_openWith_15 : decode cX12_openWith 15 = .ok (.lcmp, 1) := by decide +kernel
theorem dX12_openWith_16 : decode cX12_openWith 16 = .ok (.ifCond .le 17, 3) := by decide +kernel
theorem dX12_openWith_19 : decode cX12_openWith 19 = .ok (.aload_n 0, 1) := by decide +kernel
theorem dX12_openWith_20 : decode cX12_openWith 20 = .ok (.getfield 145, 3) := by decide +kernel
theorem dX12_openWith_23 : decode cX12_openWith 23 = .ok (.iload_n 3, 1) := by decide +kernel
theorem dX12_openWith_24 : decode cX12_openWith 24 = .ok (.iaload, 1) := by decide +kernel
theorem dX12_openWith_25 : decode cX12_openWith 25 = .ok (.iload_n 1, 1) := by decide +kernel
theorem dX12_openWith_26 : decode cX12_openWith 26 = .ok (.if_icmp .ne 7, 3) := by decide +kernel
theorem dX12_openWith_29 : decode cX12_openWith 29 = .ok (.iconst 1, 1) := by decide +kernel
theorem dX12_openWith_30 : decode cX12_openWith 30 = .ok (.goto 4, 3) := by decide +kernel
theorem dX12_openWith_33 : decode cX12_openWith 33 = .ok (.iconst 0, 1) := by decide +kernel
theorem dX12_openWith_34 : decode cX12_openWith 34 = .ok (.istore 4, 2) := by decide +kernel
theorem dX12_openWith_36 : decode cX12_openWith 36 = .ok (.iload 4, 2) := by decide +kernel
theorem dX12_openWith_38 : decode cX12_openWith 38 = .ok (.ifCond .eq 31, 3) := by decide +kernel
theorem dX12_openWith_41 : decode cX12_openWith 41 = .ok (.iload_n 2, 1) := by decide +kernel
theorem dX12_openWith_42 : decode cX12_openWith 42 = .ok (.ifCond .ge 15, 3) := by decide +kernel
theorem dX12_openWith_45 : decode cX12_openWith 45 = .ok (.aload_n 0, 1) := by decide +kernel
theorem dX12_openWith_46 : decode cX12_openWith 46 = .ok (.getfield 157, 3) := by decide +kernel
theorem dX12_openWith_49 : decode cX12_openWith 49 = .ok (.iload_n 3, 1) := by decide +kernel
theorem dX12_openWith_50 : decode cX12_openWith 50 = .ok (.baload, 1) := by decide +kernel
theorem dX12_openWith_51 : decode cX12_openWith 51 = .ok (.ifCond .eq 18, 3) := by decide +kernel
theorem dX12_openWith_54 : decode cX12_openWith 54 = .ok (.goto 13, 3) := by decide +kernel
theorem dX12_openWith_57 : decode cX12_openWith 57 = .ok (.aload_n 0, 1) := by decide +kernel
theorem dX12_openWith_58 : decode cX12_openWith 58 = .ok (.getfield 154, 3) := by decide +kernel
theorem dX12_openWith_61 : decode cX12_openWith 61 = .ok (.iload_n 3, 1) := by decide +kernel
theorem dX12_openWith_62 : decode cX12_openWith 62 = .ok (.iaload, 1) := by decide +kernel
theorem dX12_openWith_63 : decode cX12_openWith 63 = .ok (.iload_n 2, 1) := by decide +kernel
theorem dX12_openWith_64 : decode cX12_openWith 64 = .ok (.if_icmp .ne 5, 3) := by decide +kernel
theorem dX12_openWith_67 : decode cX12_openWith 67 = .ok (.iload_n 3, 1) := by decide +kernel
theorem dX12_openWith_68 : decode cX12_openWith 68 = .ok (.ireturn, 1) := by decide +kernel
theorem dX12_openWith_69 : decode cX12_openWith 69 = .ok (.iinc 3 1, 3) := by decide +kernel
theorem dX12_openWith_72 : decode cX12_openWith 72 = .ok (.goto (-70), 3) := by decide +kernel
theorem dX12_openWith_75 : decode cX12_openWith 75 = .ok (.iconst (-1), 1) := by decide +kernel
theorem dX12_openWith_76 : decode cX12_openWith 76 = .ok (.ireturn, 1) := by decide +kernel
set_option maxRecDepth 100000 in
set_option maxHeartbeats 4000000 in
theorem c_X12_openWith (l : Launch) (D : va_G) (t : Nat → ClassId) (h0 : Nat) (L : Nat → Nat) (σ : HS) (hM : MdI h0 L σ) (a1 : Int32) (a2 : Int32) (post : Int32 → HS → Prop) (hw : F_X12_openWith h0 L a1 a2 post σ) (sz : Nat) : RMi l D t yX12_openWith cX12_openWith 5 (some .int) ({ frames := 0, cells := 0, slots := 0, locals := 0 }) h0 L σ sz [.ref h0, .int a1, .int a2] post := by
  refine h_go (τ := τT) okT (by decide) (Nat.le_of_ble_eq_true rfl) ?_
  intro p e s m below meth c ls A hF hr hlk hAe hH0 hA hl
  unfold hB
  rw [hAe]
  clear hAe
  have hF : FX p m c cX12_openWith 5 s _ RX12 D t := hF
  have hx := hF.1.1
  have hb := hF.1.2.1
  have hH : RT D t A s.heap h0 L σ s.heap [] := ⟨hH0, hM⟩
  have hl : lv_has ls 5 [(0, .ref h0), (1, .int a1), (2, .int a2)] := hl
  unfold F_X12_openWith at hw
  refine lv_iconst (v := 0) hx hb dX12_openWith_0 (by decide) ?_
  refine lv_istore_n (lv' := [(3, .int 0), (0, .ref h0), (1, .int a1), (2, .int a2)]) hx hb dX12_openWith_1 rfl hl (by decide) rfl (fun ls hl => ?_)
  have hl : lv_has ls 5 [(3, .int 0), (2, .int a2), (1, .int a1), (0, .ref h0)] := lv_sub hl [0, 3, 2, 1] rfl
  refine w_loop (β := Int32) (fun x1 => [(3, .int x1), (2, .int a2), (1, .int a1), (0, .ref h0)]) 0 hl hw hH (fun K3 x1 σ2 ls H locs hl hw hH ih4 => ?_)
  have hl : lv_has ls 5 [(3, .int x1), (2, .int a2), (1, .int a1), (0, .ref h0)] := hl
  refine lv_iload_n hx hb dX12_openWith_2 rfl (lv_at hl 0 rfl) ?_
  refine lv_bipush (v := 40) hx hb dX12_openWith_3 (by decide) ?_
  refine w_icmp_ge (tgt := 75) hF dX12_openWith_5 rfl hw (fun hw => ?_) (fun hw => ?_)
  · refine lv_iconst (v := (-1)) hx hb dX12_openWith_75 (by decide) ?_
    exact w_reti hF hH hr hlk rfl dX12_openWith_76 hw
  · refine lv_aload_n hx hb dX12_openWith_8 rfl (lv_at hl 3 rfl) ?_
    refine w_getA 41 hF hH fk_X12_139 dX12_openWith_9 (by decide) rfl ?_
    refine lv_iload_n hx hb dX12_openWith_12 rfl (lv_at hl 0 rfl) ?_
    refine w_lald 41 40 hF hH dX12_openWith_13 (by decide) rfl rfl hw (fun z5 hw => ?_)
    refine lv_lconst (v := 0) hx hb dX12_openWith_14 (by decide) ?_
    obtain ⟨K8, hK9, hw⟩ := jn_open hw
    refine w_join (K := K8) 34 (fun (x6 : Int32) => [(3, .int x1), (2, .int a2), (1, .int a1), (0, .ref h0)]) (fun (x6 : Int32) => [.int x6]) hl hH (fun x6 σ7 ls H locs hl hw hH => ?_) (fun jn10 => ?_)
    · have hw := hK9 x6 σ7 hw
      have hl : lv_has ls 5 [(3, .int x1), (2, .int a2), (1, .int a1), (0, .ref h0)] := hl
      refine lv_istore (lv' := [(4, .int x6), (3, .int x1), (2, .int a2), (1, .int a1), (0, .ref h0)]) hx hb dX12_openWith_34 hl (by decide) rfl (fun ls hl => ?_)
      refine lv_iload hx hb dX12_openWith_36 (lv_at hl 0 rfl) ?_
      obtain ⟨K13, hK14, hw⟩ := jn_open hw
      refine w_join (K := K13) 69 (fun (x11 : Unit) => [(3, .int x1), (2, .int a2), (1, .int a1), (0, .ref h0)]) (fun (x11 : Unit) => []) hl hH (fun x11 σ12 ls H locs hl hw hH => ?_) (fun jn15 => ?_)
      · have hw := hK14 x11 σ12 hw
        have hl : lv_has ls 5 [(3, .int x1), (2, .int a2), (1, .int a1), (0, .ref h0)] := hl
        obtain ⟨z16, ez16⟩ : ∃ z : Int32, z = x1 + 1 := ⟨_, rfl⟩
        have hw := hw z16 ez16
        refine lv_iinc (lv' := [(3, .int z16), (2, .int a2), (1, .int a1), (0, .ref h0)]) (k := 0) (v := z16) hx hb dX12_openWith_69 hl rfl ez16.symm (by decide) rfl (fun ls hl => ?_)
        refine lv_goto (tgt := 2) hx hb dX12_openWith_72 rfl ?_
        exact ih4 z16 σ12 ls _ _ hl hw hH
      · skip
        refine w_if_eq (tgt := 69) hF dX12_openWith_38 rfl hw (fun hw => ?_) (fun hw => ?_)
        · have hl : lv_has ls 5 [(3, .int x1), (2, .int a2), (1, .int a1), (0, .ref h0)] := lv_sub hl [1, 2, 3, 4] rfl
          exact jn15 () σ7 ls _ _ hl hw hH
        · refine lv_iload_n hx hb dX12_openWith_41 rfl (lv_at hl 2 rfl) ?_
          obtain ⟨K19, hK20, hw⟩ := jn_open hw
          refine w_join (K := K19) 67 (fun (x17 : Unit) => [(3, .int x1)]) (fun (x17 : Unit) => []) hl hH (fun x17 σ18 ls H locs hl hw hH => ?_) (fun jn21 => ?_)
          · have hw := hK20 x17 σ18 hw
            have hl : lv_has ls 5 [(3, .int x1)] := hl
            refine lv_iload_n hx hb dX12_openWith_67 rfl (lv_at hl 0 rfl) ?_
            exact w_reti hF hH hr hlk rfl dX12_openWith_68 hw
          · skip
            refine w_if_ge (tgt := 57) hF dX12_openWith_42 rfl hw (fun hw => ?_) (fun hw => ?_)
            · refine lv_aload_n hx hb dX12_openWith_57 rfl (lv_at hl 4 rfl) ?_
              refine w_getA 46 hF hH fk_X12_154 dX12_openWith_58 (by decide) rfl ?_
              refine lv_iload_n hx hb dX12_openWith_61 rfl (lv_at hl 1 rfl) ?_
              refine w_iald 46 40 hF hH dX12_openWith_62 (by decide) rfl rfl hw (fun z22 hw => ?_)
              refine lv_iload_n hx hb dX12_openWith_63 rfl (lv_at hl 2 rfl) ?_
              refine w_icmp_ne (tgt := 69) hF dX12_openWith_64 rfl hw (fun hw => ?_) (fun hw => ?_)
              · have hl : lv_has ls 5 [(3, .int x1), (2, .int a2), (1, .int a1), (0, .ref h0)] := lv_sub hl [1, 2, 3, 4] rfl
                exact jn15 () σ7 ls _ _ hl hw hH
              · have hl : lv_has ls 5 [(3, .int x1)] := lv_sub hl [1] rfl
                exact jn21 () σ7 ls _ _ hl hw hH
            · refine lv_aload_n hx hb dX12_openWith_45 rfl (lv_at hl 4 rfl) ?_
              refine w_getA 47 hF hH fk_X12_157 dX12_openWith_46 (by decide) rfl ?_
              refine lv_iload_n hx hb dX12_openWith_49 rfl (lv_at hl 1 rfl) ?_
              refine w_zald 47 40 hF hH dX12_openWith_50 (by decide) rfl rfl hw (fun z23 hw => ?_)
              refine w_if_eq (tgt := 69) hF dX12_openWith_51 rfl hw (fun hw => ?_) (fun hw => ?_)
              · have hl : lv_has ls 5 [(3, .int x1), (2, .int a2), (1, .int a1), (0, .ref h0)] := lv_sub hl [1, 2, 3, 4] rfl
                exact jn15 () σ7 ls _ _ hl hw hH
              · refine lv_goto (tgt := 67) hx hb dX12_openWith_54 rfl ?_
                have hl : lv_has ls 5 [(3, .int x1)] := lv_sub hl [1] rfl
                exact jn21 () σ7 ls _ _ hl hw hH
    · skip
      obtain ⟨K26, hK27, hw⟩ := jn_open hw
      refine w_join (K := K26) 33 (fun (x24 : Unit) => [(3, .int x1), (2, .int a2), (1, .int a1), (0, .ref h0)]) (fun (x24 : Unit) => []) hl hH (fun x24 σ25 ls H locs hl hw hH => ?_) (fun jn28 => ?_)
      · have hw := hK27 x24 σ25 hw
        have hl : lv_has ls 5 [(3, .int x1), (2, .int a2), (1, .int a1), (0, .ref h0)] := hl
        refine lv_iconst (v := 0) hx hb dX12_openWith_33 (by decide) ?_
        exact jn10 0 σ25 ls _ _ hl hw hH
      · skip
        refine w_lif_le (tgt := 33) hF dX12_openWith_15 dX12_openWith_16 rfl hw (fun hw => ?_) (fun hw => ?_)
        · exact jn28 () σ2 ls _ _ hl hw hH
        · refine lv_aload_n hx hb dX12_openWith_19 rfl (lv_at hl 3 rfl) ?_
          refine w_getA 43 hF hH fk_X12_145 dX12_openWith_20 (by decide) rfl ?_
          refine lv_iload_n hx hb dX12_openWith_23 rfl (lv_at hl 0 rfl) ?_
          refine w_iald 43 40 hF hH dX12_openWith_24 (by decide) rfl rfl hw (fun z29 hw => ?_)
          refine lv_iload_n hx hb dX12_openWith_25 rfl (lv_at hl 2 rfl) ?_
          refine w_icmp_ne (tgt := 33) hF dX12_openWith_26 rfl hw (fun hw => ?_) (fun hw => ?_)
          · exact jn28 () σ2 ls _ _ hl hw hH
          · refine lv_iconst (v := 1) hx hb dX12_openWith_29 (by decide) ?_
            refine lv_goto (tgt := 34) hx hb dX12_openWith_30 rfl ?_
            exact jn10 1 σ2 ls _ _ hl hw hH

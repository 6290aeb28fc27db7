/-! the reference, lifted: 9 -/
def F_X12_unlocks (h0 : Nat) (L : Nat → Nat) (a1 : Int32) (post : Int64 → HS → Prop) (σ : HS) : Prop := ∀ z1 : Int32, z1 = sI σ h0 100 → (0 ≤ z1.toInt ∧ z1.toInt < 40) ∧ ∀ z2 : Int64, z2 = sJ σ (L 41) z1.toInt.toNat → lw (fun (K5 : (Int32 × Int32) → HS → Prop) (x3 : Int32 × Int32) (σ4 : HS) => jn (fun (K9 : Unit → HS → Prop) => ((a1.toInt ≤ x3.1.toInt) → K9 () σ4) ∧ ((x3.1.toInt < a1.toInt) → ((x3.2.toInt = 0) → K9 () σ4) ∧ ((¬ x3.2.toInt = 0) → lw (fun (K23 : Int32 → HS → Prop) (x21 : Int32) (σ22 : HS) => ∀ z25 : Int32, z25 = sI σ22 h0 63 → jn (fun (K28 : Unit → HS → Prop) => ((z25.toInt ≤ x21.toInt) → K28 () σ22) ∧ ((x21.toInt < z25.toInt) → (0 ≤ x21.toInt ∧ x21.toInt < 80) ∧ ∀ z45 : Int64, z45 = sJ σ22 (L 56) x21.toInt.toNat → jn (fun (K48 : Unit → HS → Prop) => ((¬ z45.toInt = z2.toInt) → K48 () σ22) ∧ ((z45.toInt = z2.toInt) → (0 ≤ x21.toInt ∧ x21.toInt < 80) ∧ ∀ z52 : Int64, z52 = sJ σ22 (L 58) x21.toInt.toNat → ∀ z53 : Int32, z53 = 24 * x3.1 → ∀ z54 : Int32, z54 = 88 + z53 → F_X12_number h0 L z54 8 (fun (z56 : Int64) (σ55 : HS) => ((¬ z52.toInt = z56.toInt) → K48 () σ55) ∧ ((z52.toInt = z56.toInt) → (0 ≤ x21.toInt ∧ x21.toInt < 80) ∧ ∀ z57 : Int64, z57 = sJ σ55 (L 59) x21.toInt.toNat → ∀ z58 : Int32, z58 = 24 * x3.1 → ∀ z59 : Int32, z59 = 96 + z58 → F_X12_number h0 L z59 8 (fun (z61 : Int64) (σ60 : HS) => ((z57.toInt = z61.toInt) → K28 () σ60) ∧ ((¬ z57.toInt = z61.toInt) → K48 () σ60)) σ55)) σ22)) (fun (x46 : Unit) (σ47 : HS) => ∀ z51 : Int32, z51 = x21 + 1 → K23 z51 σ47))) (fun (x26 : Unit) (σ27 : HS) => ∀ z31 : Int32, z31 = sI σ27 h0 63 → jn (fun (K34 : Int32 → HS → Prop) => ((z31.toInt ≤ x21.toInt) → K34 0 σ27) ∧ ((x21.toInt < z31.toInt) → K34 1 σ27)) (fun (x32 : Int32) (σ33 : HS) => jn (fun (K39 : Unit → HS → Prop) => ((x32.toInt = 0) → K39 () σ33) ∧ ((¬ x32.toInt = 0) → F_X12_unlock h0 L x21 (fun (σ43 : HS) => K39 () σ43) σ33)) (fun (x37 : Unit) (σ38 : HS) => ∀ z42 : Int32, z42 = x3.1 + 1 → K5 (z42, x32) σ38)))) 0 σ4))) (fun (x7 : Unit) (σ8 : HS) => F_X12_lookLocks h0 L  (fun (σ12 : HS) => jn (fun (K16 : Int64 → HS → Prop) => ((x3.2.toInt = 0) → K16 3221225598 σ12) ∧ ((¬ x3.2.toInt = 0) → F_X12_small h0 L 4 (fun (z20 : Int64) (σ19 : HS) => K16 z20 σ19) σ12)) (fun (x14 : Int64) (σ15 : HS) => post x14 σ15)) σ8)) (0, 1) σ
theorem dX12_unlocks_0 : decode cX12_unlocks 0 = .ok (.aload_n 0, 1) := by decide +kernel
theorem dX12_unlocks_1 : decode cX12_unlocks 1 = .ok (.getfield 139, 3) := by decide +kernel
theorem dX12_unlocks_4 : decode cX12_unlocks 4 = .ok (.aload_n 0, 1) := by decide +kernel
theorem dX12_unlocks_5 : decode cX12_unlocks 5 = .ok (.getfield 525, 3) := by decide +kernel
theorem dX12_unlocks_8 : decode cX12_unlocks 8 = .ok (.laload, 1) := by decide +kernel
theorem dX12_unlocks_9 : decode cX12_unlocks 9 = .ok (.lstore_n 2, 1) := by decide +kernel
theorem dX12_unlocks_10 : decode cX12_unlocks 10 = .ok (.iconst 1, 1) := by decide +kernel
theorem dX12_unlocks_11 : decode cX12_unlocks 11 = .ok (.istore 4, 2) := by decide +kernel
theorem dX12_unlocks_13 : decode cX12_unlocks 13 = .ok (.iconst 0, 1) := by decide +kernel
theorem dX12_unlocks_14 : decode cX12_unlocks 14 = .ok (.istore 5, 2) := by decide +kernel
theorem dX12_unlocks_16 : decode cX12_unlocks 16 = .ok (.iload 5, 2) := by decide +kernel
theorem dX12_unlocks_18 : decode cX12_unlocks 18 = .ok (.iload_n 1, 1) := by decide +kernel
theorem dX12_unlocks_19 : decode cX12_unlocks 19 = .ok (.if_icmp .ge 121, 3) := by decide +kernel
theorem dX12_unlocks_22 : decode cX12_unlocks 22 = .ok (.iload 4, 2) := by decide +kernel
theorem dX12_unlocks_24 : decode cX12_unlocks 24 = .ok (.ifCond .eq 116, 3) := by decide +kernel
theorem dX12_unlocks_27 : decode cX12_unlocks 27 = .ok (.iconst 0, 1) := by decide +kernel
theorem dX12_unlocks_28 : decode cX12_unlocks 28 = .ok (.istore 6, 2) := by decide +kernel
theorem dX12_unlocks_30 : decode cX12_unlocks 30 = .ok (.iload 6, 2) := by decide +kernel
theorem dX12_unlocks_32 : decode cX12_unlocks 32 = .ok (.aload_n 0, 1) := by decide +kernel
theorem dX12_unlocks_33 : decode cX12_unlocks 33 = .ok (.getfield 289, 3) := by decide +kernel
theorem dX12_unlocks_36 : decode cX12_unlocks 36 = .ok (.if_icmp .ge 71, 3) := by decide +kernel
theorem dX12_unlocks_39 : decode cX12_unlocks 39 = .ok (.aload_n 0, 1) := by decide +kernel
theorem dX12_unlocks_40 : decode cX12_unlocks 40 = .ok (.getfield 184, 3) := by decide +kernel
theorem dX12_unlocks_43 : decode cX12_unlocks 43 = .ok (.iload 6, 2) := by decide +kernel
theorem dX12_unlocks_45 : decode cX12_unlocks 45 = .ok (.laload, 1) := by decide +kernel
theorem dX12_unlocks_46 : decode cX12_unlocks 46 = .ok (.lload_n 2, 1) := by decide +kernel
theorem dX12_unlocks_47 : decode cX12_unlocks 47 = .ok (.lcmp, 1) := by decide +kernel
theorem dX12_unlocks_48 : decode cX12_unlocks 48 = .ok (.ifCond .ne 53, 3) := by decide +kernel
theorem dX12_unlocks_51 : decode cX12_unlocks 51 = .ok (.aload_n 0, 1) := by decide +kernel
theorem dX12_unlocks_52 : decode cX12_unlocks 52 = .ok (.getfield 190, 3) := by decide +kernel
theorem dX12_unlocks_55 : decode cX12_unlocks 55 = .ok (.iload 6, 2) := by decide +kernel
theorem dX12_unlocks_57 : decode cX12_unlocks 57 = .ok (.laload, 1) := by decide +kernel
theorem dX12_unlocks_58 : decode cX12_unlocks 58 = .ok (.aload_n 0, 1) := by decide +kernel
theorem dX12_unlocks_59 : decode cX12_unlocks 59 = .ok (.bipush 88, 2) := by decide +kernel
theorem dX12_unlocks_61 : decode cX12_unlocks 61 = .ok (.bipush 24, 2) := by decide +kernel
theorem dX12_unlocks_63 : decode cX12_unlocks 63 = .ok (.iload 5, 2) := by decide +kernel
theorem dX12_unlocks_65 : decode cX12_unlocks 65 = .ok (.imul, 1) := by decide +kernel
theorem dX12_unlocks_66 : decode cX12_unlocks 66 = .ok (.iadd, 1) := by decide +kernel
theorem dX12_unlocks_67 : decode cX12_unlocks 67 = .ok (.bipush 8, 2) := by decide +kernel
theorem dX12_unlocks_69 : decode cX12_unlocks 69 = .ok (.invokevirtual 364, 3) := by decide +kernel
theorem dX12_unlocks_72 : decode cX12_unlocks 72 = .ok (.lcmp, 1) := by decide +kernel
theorem dX12_unlocks_73 : decode cX12_unlocks 73 = .ok (.ifCond .ne 28, 3) := by decide +kernel
theorem dX12_unlocks_76 : decode cX12_unlocks 76 = .ok (.aload_n 0, 1) := by decide +kernel
theorem dX12_unlocks_77 : decode cX12_unlocks 77 = .ok (.getfield 193, 3) := by decide +kernel
theorem dX12_unlocks_80 : decode cX12_unlocks 80 = .ok (.iload 6, 2) := by decide +kernel
theorem dX12_unlocks_82 : decode cX12_unlocks 82 = .ok (.laload, 1) := by decide +kernel
theorem dX12_unlocks_83 : decode cX12_unlocks 83 = .ok (.aload_n 0, 1) := by decide +kernel
theorem dX12_unlocks_84 : decode cX12_unlocks 84 = .ok (.bipush 96, 2) := by decide +kernel
theorem dX12_unlocks_86 : decode cX12_unlocks 86 = .ok (.bipush 24, 2) := by decide +kernel
theorem dX12_unlocks_88 : decode cX12_unlocks 88 = .ok (.iload 5, 2) := by decide +kernel
theorem dX12_unlocks_90 : decode cX12_unlocks 90 = .ok (.imul, 1) := by decide +kernel
theorem dX12_unlocks_91 : decode cX12_unlocks 91 = .ok (.iadd, 1) := by decide +kernel
theorem dX12_unlocks_92 : decode cX12_unlocks 92 = .ok (.bipush 8, 2) := by decide +kernel
theorem dX12_unlocks_94 : decode cX12_unlocks 94 = .ok (.invokevirtual 364, 3) := by decide +kernel
theorem dX12_unlocks_97 : decode cX12_unlocks 97 = .ok (.lcmp, 1) := by decide +kernel
theorem dX12_unlocks_98 : decode cX12_unlocks 98 = .ok (.ifCond .eq 9, 3) := by decide +kernel
theorem dX12_unlocks_101 : decode cX12_unlocks 101 = .ok (.iinc 6 1, 3) := by decide +kernel
theorem dX12_unlocks_104 : decode cX12_unlocks 104 = .ok (.goto (-74), 3) := by decide +kernel
theorem dX12_unlocks_107 : decode cX12_unlocks 107 = .ok (.iload 6, 2) := by decide +kernel
theorem dX12_unlocks_109 : decode cX12_unlocks 109 = .ok (.aload_n 0, 1) := by decide +kernel
theorem dX12_unlocks_110 : decode cX12_unlocks 110 = .ok (.getfield 289, 3) := by decide +kernel
theorem dX12_unlocks_113 : decode cX12_unlocks 113 = .ok (.if_icmp .ge 7, 3) := by decide +kernel
theorem dX12_unlocks_116 : decode cX12_unlocks 116 = .ok (.iconst 1, 1) := by decide +kernel
theorem dX12_unlocks_117 : decode cX12_unlocks 117 = .ok (.goto 4, 3) := by decide +kernel
theorem dX12_unlocks_120 : decode cX12_unlocks 120 = .ok (.iconst 0, 1) := by decide +kernel
theorem dX12_unlocks_121 : decode cX12_unlocks 121 = .ok (.istore 4, 2) := by decide +kernel
theorem dX12_unlocks_123 : decode cX12_unlocks 123 = .ok (.iload 4, 2) := by decide +kernel
theorem dX12_unlocks_125 : decode cX12_unlocks 125 = .ok (.ifCond .eq 9, 3) := by decide +kernel
theorem dX12_unlocks_128 : decode cX12_unlocks 128 = .ok (.aload_n 0, 1) := by decide +kernel
theorem dX12_unlocks_129 : decode cX12_unlocks 129 = .ok (.iload 6, 2) := by decide +kernel
theorem dX12_unlocks_131 : decode cX12_unlocks 131 = .ok (.invokevirtual 751, 3) := by decide +kernel
theorem dX12_unlocks_134 : decode cX12_unlocks 134 = .ok (.iinc 5 1, 3) := by decide +kernel
theorem dX12_unlocks_137 : decode cX12_unlocks 137 = .ok (.goto (-121), 3) := by decide +kernel
theorem dX12_unlocks_140 : decode cX12_unlocks 140 = .ok (.aload_n 0, 1) := by decide +kernel
theorem dX12_unlocks_141 : decode cX12_unlocks 141 = .ok (.invokevirtual 757, 3) := by decide +kernel
theorem dX12_unlocks_144 : decode cX12_unlocks 144 = .ok (.iload 4, 2) := by decide +kernel
theorem dX12_unlocks_146 : decode cX12_unlocks 146 = .ok (.ifCond .eq 11, 3) := by decide +kernel
theorem dX12_unlocks_149 : decode cX12_unlocks 149 = .ok (.aload_n 0, 1) := by decide +kernel
theorem dX12_unlocks_150 : decode cX12_unlocks 150 = .ok (.iconst 4, 1) := by decide +kernel
theorem dX12_unlocks_151 : decode cX12_unlocks 151 = .ok (.invokevirtual 536, 3) := by decide +kernel
theorem dX12_unlocks_154 : decode cX12_unlocks 154 = .ok (.goto 6, 3) := by decide +kernel
theorem dX12_unlocks_157 : decode cX12_unlocks 157 = .ok (.ldc2_w 796, 3) := by decide +kernel
theorem dX12_unlocks_160 : decode cX12_unlocks 160 = .ok (.lreturn, 1) := by decide +kernel
set_option maxRecDepth 100000 in
set_option maxHeartbeats 4000000 in
theorem c_X12_unlocks (l : Launch) (D : va_G) (t : Nat → ClassId) (h0 : Nat) (L : Nat → Nat) (σ : HS) (hM : MdI h0 L σ) (a1 : Int32) (post : Int64 → HS → Prop) (hw : F_X12_unlocks h0 L a1 post σ) (sz : Nat) : RMl l D t yX12_unlocks cX12_unlocks 7 (some .long) ({ frames := 5, cells := 0, slots := 0, locals := 129 }) h0 L σ sz [.ref h0, .int a1] post := by
  refine h_go (τ := τT) okT (by decide) (Nat.le_of_ble_eq_true rfl) ?_
  intro p e s m below meth c ls A hF hr hlk hAe hH0 hA hl
  unfold hB
  rw [hAe]
  clear hAe
  have hF : FX p m c cX12_unlocks 7 s _ RX12 D t := hF
  have hx := hF.1.1
  have hb := hF.1.2.1
  have hH : RT D t A s.heap h0 L σ s.heap [] := ⟨hH0, hM⟩
  have hl : lv_has ls 7 [(0, .ref h0), (1, .int a1)] := hl
  unfold F_X12_unlocks at hw
  refine lv_aload_n hx hb dX12_unlocks_0 rfl (lv_at hl 0 rfl) ?_
  refine w_getA 41 hF hH fk_X12_139 dX12_unlocks_1 (by decide) rfl ?_
  refine lv_aload_n hx hb dX12_unlocks_4 rfl (lv_at hl 0 rfl) ?_
  refine w_getI hF hH fk_X12_525 dX12_unlocks_5 hw (fun z1 hw => ?_)
  refine w_lald 41 40 hF hH dX12_unlocks_8 (by decide) rfl rfl hw (fun z2 hw => ?_)
  refine lv_lstore_n (lv' := [(2, .long z2), (0, .ref h0), (1, .int a1)]) hx hb dX12_unlocks_9 rfl hl (by decide) rfl (fun ls hl => ?_)
  refine lv_iconst (v := 1) hx hb dX12_unlocks_10 (by decide) ?_
  refine lv_istore (lv' := [(4, .int 1), (2, .long z2), (0, .ref h0), (1, .int a1)]) hx hb dX12_unlocks_11 hl (by decide) rfl (fun ls hl => ?_)
  refine lv_iconst (v := 0) hx hb dX12_unlocks_13 (by decide) ?_
  refine lv_istore (lv' := [(5, .int 0), (4, .int 1), (2, .long z2), (0, .ref h0), (1, .int a1)]) hx hb dX12_unlocks_14 hl (by decide) rfl (fun ls hl => ?_)
  have hl : lv_has ls 7 [(5, .int 0), (4, .int 1), (2, .long z2), (1, .int a1), (0, .ref h0)] := lv_sub hl [0, 1, 2, 4, 3] rfl
  refine w_loop (β := Int32 × Int32) (fun x3 => [(5, .int x3.1), (4, .int x3.2), (2, .long z2), (1, .int a1), (0, .ref h0)]) (0, 1) hl hw hH (fun K5 x3 σ4 ls H locs hl hw hH ih6 => ?_)
  have hl : lv_has ls 7 [(5, .int x3.1), (4, .int x3.2), (2, .long z2), (1, .int a1), (0, .ref h0)] := hl
  refine lv_iload hx hb dX12_unlocks_16 (lv_at hl 0 rfl) ?_
  refine lv_iload_n hx hb dX12_unlocks_18 rfl (lv_at hl 3 rfl) ?_
  obtain ⟨K9, hK10, hw⟩ := jn_open hw
  refine w_join (K := K9) 140 (fun (x7 : Unit) => [(4, .int x3.2), (0, .ref h0)]) (fun (x7 : Unit) => []) hl hH (fun x7 σ8 ls H locs hl hw hH => ?_) (fun jn11 => ?_)
  · have hw := hK10 x7 σ8 hw
    have hl : lv_has ls 7 [(4, .int x3.2), (0, .ref h0)] := hl
    refine lv_aload_n hx hb dX12_unlocks_140 rfl (lv_at hl 1 rfl) ?_
    refine w_cVv (As := []) (rest := []) hF hH hA mv_X12_757 (fun sz => c_X12_lookLocks l D t h0 L _ hH.2  _ hw sz) dX12_unlocks_141 rfl rfl (by decide) rfl hl.1 (Nat.le_of_ble_eq_true rfl) (by decide) rfl (fun σ12 H locs hw hH => ?_)
    refine lv_iload hx hb dX12_unlocks_144 (lv_at hl 0 rfl) ?_
    obtain ⟨K16, hK17, hw⟩ := jn_open hw
    refine w_join (K := K16) 160 (fun (x14 : Int64) => []) (fun (x14 : Int64) => [.long x14]) hl hH (fun x14 σ15 ls H locs hl hw hH => ?_) (fun jn18 => ?_)
    · have hw := hK17 x14 σ15 hw
      have hl : lv_has ls 7 [] := hl
      exact w_retl hF hH hr hlk dX12_unlocks_160 hw
    · skip
      refine w_if_eq (tgt := 157) hF dX12_unlocks_146 rfl hw (fun hw => ?_) (fun hw => ?_)
      · refine lv_ldc2 (v := 3221225598) hx hb hF.1.2.2.2.1 (hF.1.2.2.2.2 _ (wc_55 26 rfl)) dX12_unlocks_157 ?_
        have hl : lv_has ls 7 [] := lv_sub hl [] rfl
        exact jn18 3221225598 σ12 ls _ _ hl hw hH
      · refine lv_aload_n hx hb dX12_unlocks_149 rfl (lv_at hl 1 rfl) ?_
        refine lv_iconst (v := 4) hx hb dX12_unlocks_150 (by decide) ?_
        refine w_cVl (As := [.int 4]) (rest := []) hF hH hA mv_X12_536 (fun sz => c_X12_small l D t h0 L _ hH.2 4 _ hw sz) dX12_unlocks_151 rfl rfl (by decide) rfl hl.1 (Nat.le_of_ble_eq_true rfl) (by decide) rfl (fun z20 σ19 H locs hw hH => ?_)
        refine lv_goto (tgt := 160) hx hb dX12_unlocks_154 rfl ?_
        have hl : lv_has ls 7 [] := lv_sub hl [] rfl
        exact jn18 z20 σ19 ls _ _ hl hw hH
  · skip
    refine w_icmp_ge (tgt := 140) hF dX12_unlocks_19 rfl hw (fun hw => ?_) (fun hw => ?_)
    · have hl : lv_has ls 7 [(4, .int x3.2), (0, .ref h0)] := lv_sub hl [1, 4] rfl
      exact jn11 () σ4 ls _ _ hl hw hH
    · refine lv_iload hx hb dX12_unlocks_22 (lv_at hl 1 rfl) ?_
      refine w_if_eq (tgt := 140) hF dX12_unlocks_24 rfl hw (fun hw => ?_) (fun hw => ?_)
      · have hl : lv_has ls 7 [(4, .int x3.2), (0, .ref h0)] := lv_sub hl [1, 4] rfl
        exact jn11 () σ4 ls _ _ hl hw hH
      · refine lv_iconst (v := 0) hx hb dX12_unlocks_27 (by decide) ?_
        refine lv_istore (lv' := [(6, .int 0), (5, .int x3.1), (4, .int x3.2), (2, .long z2), (1, .int a1), (0, .ref h0)]) hx hb dX12_unlocks_28 hl (by decide) rfl (fun ls hl => ?_)
        have hl : lv_has ls 7 [(6, .int 0), (5, .int x3.1), (2, .long z2), (1, .int a1), (0, .ref h0)] := lv_sub hl [0, 1, 3, 4, 5] rfl
        refine w_loop (β := Int32) (fun x21 => [(6, .int x21), (5, .int x3.1), (2, .long z2), (1, .int a1), (0, .ref h0)]) 0 hl hw hH (fun K23 x21 σ22 ls H locs hl hw hH ih24 => ?_)
        have hl : lv_has ls 7 [(6, .int x21), (5, .int x3.1), (2, .long z2), (1, .int a1), (0, .ref h0)] := hl
        refine lv_iload hx hb dX12_unlocks_30 (lv_at hl 0 rfl) ?_
        refine lv_aload_n hx hb dX12_unlocks_32 rfl (lv_at hl 4 rfl) ?_
        refine w_getI hF hH fk_X12_289 dX12_unlocks_33 hw (fun z25 hw => ?_)
        obtain ⟨K28, hK29, hw⟩ := jn_open hw
        refine w_join (K := K28) 107 (fun (x26 : Unit) => [(6, .int x21), (5, .int x3.1), (2, .long z2), (1, .int a1), (0, .ref h0)]) (fun (x26 : Unit) => []) hl hH (fun x26 σ27 ls H locs hl hw hH => ?_) (fun jn30 => ?_)
        · have hw := hK29 x26 σ27 hw
          have hl : lv_has ls 7 [(6, .int x21), (5, .int x3.1), (2, .long z2), (1, .int a1), (0, .ref h0)] := hl
          refine lv_iload hx hb dX12_unlocks_107 (lv_at hl 0 rfl) ?_
          refine lv_aload_n hx hb dX12_unlocks_109 rfl (lv_at hl 4 rfl) ?_
          refine w_getI hF hH fk_X12_289 dX12_unlocks_110 hw (fun z31 hw => ?_)
          obtain ⟨K34, hK35, hw⟩ := jn_open hw
          refine w_join (K := K34) 121 (fun (x32 : Int32) => [(6, .int x21), (5, .int x3.1), (2, .long z2), (1, .int a1), (0, .ref h0)]) (fun (x32 : Int32) => [.int x32]) hl hH (fun x32 σ33 ls H locs hl hw hH => ?_) (fun jn36 => ?_)
          · have hw := hK35 x32 σ33 hw
            have hl : lv_has ls 7 [(6, .int x21), (5, .int x3.1), (2, .long z2), (1, .int a1), (0, .ref h0)] := hl
            refine lv_istore (lv' := [(4, .int x32), (6, .int x21), (5, .int x3.1), (2, .long z2), (1, .int a1), (0, .ref h0)]) hx hb dX12_unlocks_121 hl (by decide) rfl (fun ls hl => ?_)
            refine lv_iload hx hb dX12_unlocks_123 (lv_at hl 0 rfl) ?_
            obtain ⟨K39, hK40, hw⟩ := jn_open hw
            refine w_join (K := K39) 134 (fun (x37 : Unit) => [(5, .int x3.1), (4, .int x32), (2, .long z2), (1, .int a1), (0, .ref h0)]) (fun (x37 : Unit) => []) hl hH (fun x37 σ38 ls H locs hl hw hH => ?_) (fun jn41 => ?_)
            · have hw := hK40 x37 σ38 hw
              have hl : lv_has ls 7 [(5, .int x3.1), (4, .int x32), (2, .long z2), (1, .int a1), (0, .ref h0)] := hl
              obtain ⟨z42, ez42⟩ : ∃ z : Int32, z = x3.1 + 1 := ⟨_, rfl⟩
              have hw := hw z42 ez42
              refine lv_iinc (lv' := [(5, .int z42), (4, .int x32), (2, .long z2), (1, .int a1), (0, .ref h0)]) (k := 0) (v := z42) hx hb dX12_unlocks_134 hl rfl ez42.symm (by decide) rfl (fun ls hl => ?_)
              refine lv_goto (tgt := 16) hx hb dX12_unlocks_137 rfl ?_
              exact ih6 (z42, x32) σ38 ls _ _ hl hw hH
            · skip
              refine w_if_eq (tgt := 134) hF dX12_unlocks_125 rfl hw (fun hw => ?_) (fun hw => ?_)
              · have hl : lv_has ls 7 [(5, .int x3.1), (4, .int x32), (2, .long z2), (1, .int a1), (0, .ref h0)] := lv_sub hl [2, 0, 3, 4, 5] rfl
                exact jn41 () σ33 ls _ _ hl hw hH
              · refine lv_aload_n hx hb dX12_unlocks_128 rfl (lv_at hl 5 rfl) ?_
                refine lv_iload hx hb dX12_unlocks_129 (lv_at hl 1 rfl) ?_
                refine w_cVv (As := [.int x21]) (rest := []) hF hH hA mv_X12_751 (fun sz => c_X12_unlock l D t h0 L _ hH.2 x21 _ hw sz) dX12_unlocks_131 rfl rfl (by decide) rfl hl.1 (Nat.le_of_ble_eq_true rfl) (by decide) rfl (fun σ43 H locs hw hH => ?_)
                have hl : lv_has ls 7 [(5, .int x3.1), (4, .int x32), (2, .long z2), (1, .int a1), (0, .ref h0)] := lv_sub hl [2, 0, 3, 4, 5] rfl
                exact jn41 () σ43 ls _ _ hl hw hH
          · skip
            refine w_icmp_ge (tgt := 120) hF dX12_unlocks_113 rfl hw (fun hw => ?_) (fun hw => ?_)
            · refine lv_iconst (v := 0) hx hb dX12_unlocks_120 (by decide) ?_
              exact jn36 0 σ27 ls _ _ hl hw hH
            · refine lv_iconst (v := 1) hx hb dX12_unlocks_116 (by decide) ?_
              refine lv_goto (tgt := 121) hx hb dX12_unlocks_117 rfl ?_
              exact jn36 1 σ27 ls _ _ hl hw hH
        · skip
          refine w_icmp_ge (tgt := 107) hF dX12_unlocks_36 rfl hw (fun hw => ?_) (fun hw => ?_)
          · exact jn30 () σ22 ls _ _ hl hw hH
          · refine lv_aload_n hx hb dX12_unlocks_39 rfl (lv_at hl 4 rfl) ?_
            refine w_getA 56 hF hH fk_X12_184 dX12_unlocks_40 (by decide) rfl ?_
            refine lv_iload hx hb dX12_unlocks_43 (lv_at hl 0 rfl) ?_
            refine w_lald 56 80 hF hH dX12_unlocks_45 (by decide) rfl rfl hw (fun z45 hw => ?_)
            refine lv_lload_n hx hb dX12_unlocks_46 rfl (lv_at hl 2 rfl) ?_
            obtain ⟨K48, hK49, hw⟩ := jn_open hw
            refine w_join (K := K48) 101 (fun (x46 : Unit) => [(6, .int x21), (5, .int x3.1), (2, .long z2), (1, .int a1), (0, .ref h0)]) (fun (x46 : Unit) => []) hl hH (fun x46 σ47 ls H locs hl hw hH => ?_) (fun jn50 => ?_)
            · have hw := hK49 x46 σ47 hw
              have hl : lv_has ls 7 [(6, .int x21), (5, .int x3.1), (2, .long z2), (1, .int a1), (0, .ref h0)] := hl
              obtain ⟨z51, ez51⟩ : ∃ z : Int32, z = x21 + 1 := ⟨_, rfl⟩
              have hw := hw z51 ez51
              refine lv_iinc (lv' := [(6, .int z51), (5, .int x3.1), (2, .long z2), (1, .int a1), (0, .ref h0)]) (k := 0) (v := z51) hx hb dX12_unlocks_101 hl rfl ez51.symm (by decide) rfl (fun ls hl => ?_)
              refine lv_goto (tgt := 30) hx hb dX12_unlocks_104 rfl ?_
              exact ih24 z51 σ47 ls _ _ hl hw hH
            · skip
              refine w_lif_ne (tgt := 101) hF dX12_unlocks_47 dX12_unlocks_48 rfl hw (fun hw => ?_) (fun hw => ?_)
              · exact jn50 () σ22 ls _ _ hl hw hH
              · refine lv_aload_n hx hb dX12_unlocks_51 rfl (lv_at hl 4 rfl) ?_
                refine w_getA 58 hF hH fk_X12_190 dX12_unlocks_52 (by decide) rfl ?_
                refine lv_iload hx hb dX12_unlocks_55 (lv_at hl 0 rfl) ?_
                refine w_lald 58 80 hF hH dX12_unlocks_57 (by decide) rfl rfl hw (fun z52 hw => ?_)
                refine lv_aload_n hx hb dX12_unlocks_58 rfl (lv_at hl 4 rfl) ?_
                refine lv_bipush (v := 88) hx hb dX12_unlocks_59 (by decide) ?_
                refine lv_bipush (v := 24) hx hb dX12_unlocks_61 (by decide) ?_
                refine lv_iload hx hb dX12_unlocks_63 (lv_at hl 1 rfl) ?_
                refine lv_imul hx hb dX12_unlocks_65 ?_
                refine w_nmi hw (fun z53 hw => ?_)
                refine lv_iadd hx hb dX12_unlocks_66 ?_
                refine w_nmi hw (fun z54 hw => ?_)
                refine lv_bipush (v := 8) hx hb dX12_unlocks_67 (by decide) ?_
                refine w_cVl (As := [.int z54, .int 8]) (rest := [.long z52]) hF hH hA mv_X12_364 (fun sz => c_X12_number l D t h0 L _ hH.2 z54 8 _ hw sz) dX12_unlocks_69 rfl rfl (by decide) rfl hl.1 (Nat.le_of_ble_eq_true rfl) (by decide) rfl (fun z56 σ55 H locs hw hH => ?_)
                refine w_lif_ne (tgt := 101) hF dX12_unlocks_72 dX12_unlocks_73 rfl hw (fun hw => ?_) (fun hw => ?_)
                · exact jn50 () σ55 ls _ _ hl hw hH
                · refine lv_aload_n hx hb dX12_unlocks_76 rfl (lv_at hl 4 rfl) ?_
                  refine w_getA 59 hF hH fk_X12_193 dX12_unlocks_77 (by decide) rfl ?_
                  refine lv_iload hx hb dX12_unlocks_80 (lv_at hl 0 rfl) ?_
                  refine w_lald 59 80 hF hH dX12_unlocks_82 (by decide) rfl rfl hw (fun z57 hw => ?_)
                  refine lv_aload_n hx hb dX12_unlocks_83 rfl (lv_at hl 4 rfl) ?_
                  refine lv_bipush (v := 96) hx hb dX12_unlocks_84 (by decide) ?_
                  refine lv_bipush (v := 24) hx hb dX12_unlocks_86 (by decide) ?_
                  refine lv_iload hx hb dX12_unlocks_88 (lv_at hl 1 rfl) ?_
                  refine lv_imul hx hb dX12_unlocks_90 ?_
                  refine w_nmi hw (fun z58 hw => ?_)
                  refine lv_iadd hx hb dX12_unlocks_91 ?_
                  refine w_nmi hw (fun z59 hw => ?_)
                  refine lv_bipush (v := 8) hx hb dX12_unlocks_92 (by decide) ?_
                  refine w_cVl (As := [.int z59, .int 8]) (rest := [.long z57]) hF hH hA mv_X12_364 (fun sz => c_X12_number l D t h0 L _ hH.2 z59 8 _ hw sz) dX12_unlocks_94 rfl rfl (by decide) rfl hl.1 (Nat.le_of_ble_eq_true rfl) (by decide) rfl (fun z61 σ60 H locs hw hH => ?_)
                  refine w_lif_eq (tgt := 107) hF dX12_unlocks_97 dX12_unlocks_98 rfl hw (fun hw => ?_) (fun hw => ?_)
                  · exact jn30 () σ60 ls _ _ hl hw hH
                  · exact jn50 () σ60 ls _ _ hl hw hH
def F_X12_locksAll (h0 : Nat) (L : Nat → Nat) (a1 : Int32) (a2 : Int32) (post : Int64 → HS → Prop) (σ : HS) : Prop := ∀ z1 : Int32, z1 = sI σ h0 63 → ∀ z2 : Int32, z2 = z1 + a2 → ((z2.toInt ≤ (60 : Int32).toInt) → F_X12_breakSecond h0 L a1 (-1) (fun (σ3 : HS) => ∀ z5 : Int32, z5 = sI σ3 h0 63 → lw (fun (K8 : Int32 → HS → Prop) (x6 : Int32) (σ7 : HS) => ((a2.toInt ≤ x6.toInt) → F_X12_small h0 L 4 (fun (z11 : Int64) (σ10 : HS) => post z11 σ10) σ7) ∧ ((x6.toInt < a2.toInt) → ∀ z12 : Int32, z12 = 24 * x6 → ∀ z13 : Int32, z13 = 88 + z12 → F_X12_number h0 L z13 8 (fun (z15 : Int64) (σ14 : HS) => ∀ z16 : Int32, z16 = 24 * x6 → ∀ z17 : Int32, z17 = 96 + z16 → F_X12_number h0 L z17 8 (fun (z19 : Int64) (σ18 : HS) => ∀ z20 : Int32, z20 = 24 * x6 → ∀ z21 : Int32, z21 = 104 + z20 → F_X12_number h0 L z21 4 (fun (z23 : Int64) (σ22 : HS) => ∀ z24 : Int64, z24 = z23 &&& 1 → jn (fun (K27 : Int32 → HS → Prop) => ((z24.toInt = (0 : Int64).toInt) → K27 0 σ22) ∧ ((¬ z24.toInt = (0 : Int64).toInt) → K27 1 σ22)) (fun (x25 : Int32) (σ26 : HS) => F_X12_canBe h0 L a1 z15 z19 x25 (fun (z31 : Int32) (σ30 : HS) => ((z31.toInt = 0) → ∀ σ32 : HS, σ32 = h_uI σ30 h0 63 z5 → jn (fun (K35 : Unit → HS → Prop) => (((16 : Int64).toInt ≤ z23.toInt) → K35 () σ32) ∧ ((z23.toInt < (16 : Int64).toInt) → ∀ z38 : Int32, z38 = sI σ32 h0 95 → ((¬ z38.toInt = 0) → ∀ z39 : Int32, z39 = sI σ32 h0 69 → ((¬ z39.toInt = (16 : Int32).toInt) → ∀ z40 : Int32, z40 = sI σ32 h0 100 → (0 ≤ z40.toInt ∧ z40.toInt < 40) ∧ ∀ z41 : Int64, z41 = sJ σ32 (L 41) z40.toInt.toNat → F_X12_waitFor h0 L a1 z41 (fun (z43 : Int32) (σ42 : HS) => (0 ≤ z43.toInt ∧ z43.toInt < 16) ∧ ∀ σ44 : HS, σ44 = h_uJ σ42 (L 71) z43.toInt.toNat z15 → (0 ≤ z43.toInt ∧ z43.toInt < 16) ∧ ∀ σ45 : HS, σ45 = h_uJ σ44 (L 72) z43.toInt.toNat z19 → (0 ≤ z43.toInt ∧ z43.toInt < 16) ∧ ∀ σ46 : HS, σ46 = h_uI σ45 (L 73) z43.toInt.toNat (vp_nar .boolean x25) → post 259 σ46) σ32) ∧ ((z39.toInt = (16 : Int32).toInt) → post 3221225626 σ32)) ∧ ((z38.toInt = 0) → K35 () σ32))) (fun (x33 : Unit) (σ34 : HS) => post 3221225557 σ34)) ∧ ((¬ z31.toInt = 0) → ∀ z47 : Int32, z47 = sI σ30 h0 100 → (0 ≤ z47.toInt ∧ z47.toInt < 40) ∧ ∀ z48 : Int64, z48 = sJ σ30 (L 41) z47.toInt.toNat → F_X12_addLock h0 L z48 a1 z15 z19 x25 (fun (σ49 : HS) => ∀ z51 : Int32, z51 = x6 + 1 → K8 z51 σ49) σ30)) σ26)) σ18) σ14) σ7)) 0 σ3) σ) ∧ (((60 : Int32).toInt < z2.toInt) → post 3221225626 σ)
theorem dX12_locksAll_0 : decode cX12_locksAll 0 = .ok (.aload_n 0, 1) := by decide +kernel
theorem dX12_locksAll_1 : decode cX12_locksAll 1 = .ok (.getfield 289, 3) := by decide +kernel
theorem dX12_locksAll_4 : decode cX12_locksAll 4 = .ok (.iload_n 2, 1) := by decide +kernel
theorem dX12_locksAll_5 : decode cX12_locksAll 5 = .ok (.iadd, 1) := by decide +kernel
theorem dX12_locksAll_6 : decode cX12_locksAll 6 = .ok (.bipush 60, 2) := by decide +kernel
theorem dX12_locksAll_8 : decode cX12_locksAll 8 = .ok (.if_icmp .le 7, 3) := by decide +kernel
theorem dX12_locksAll_11 : decode cX12_locksAll 11 = .ok (.ldc2_w 607, 3) := by decide +kernel
theorem dX12_locksAll_14 : decode cX12_locksAll 14 = .ok (.lreturn, 1) := by decide +kernel
theorem dX12_locksAll_15 : decode cX12_locksAll 15 = .ok (.aload_n 0, 1) := by decide +kernel
theorem dX12_locksAll_16 : decode cX12_locksAll 16 = .ok (.iload_n 1, 1) := by decide +kernel
theorem dX12_locksAll_17 : decode cX12_locksAll 17 = .ok (.iconst (-1), 1) := by decide +kernel
theorem dX12_locksAll_18 : decode cX12_locksAll 18 = .ok (.invokevirtual 740, 3) := by decide +kernel
theorem dX12_locksAll_21 : decode cX12_locksAll 21 = .ok (.aload_n 0, 1) := by decide +kernel
theorem dX12_locksAll_22 : decode cX12_locksAll 22 = .ok (.getfield 289, 3) := by decide +kernel
theorem dX12_locksAll_25 : decode cX12_locksAll 25 = .ok (.istore_n 3, 1) := by decide +kernel
theorem dX12_locksAll_26 : decode cX12_locksAll 26 = .ok (.iconst 0, 1) := by decide +kernel
theorem dX12_locksAll_27 : decode cX12_locksAll 27 = .ok (.istore 4, 2) := by decide +kernel
theorem dX12_locksAll_29 : decode cX12_locksAll 29 = .ok (.iload 4, 2) := by decide +kernel
theorem dX12_locksAll_31 : decode cX12_locksAll 31 = .ok (.iload_n 2, 1) := by decide +kernel
theorem dX12_locksAll_32 : decode cX12_locksAll 32 = .ok (.if_icmp .ge 194, 3) := by decide +kernel
theorem dX12_locksAll_35 : decode cX12_locksAll 35 = .ok (.aload_n 0, 1) := by decide +kernel
theorem dX12_locksAll_36 : decode cX12_locksAll 36 = .ok (.bipush 88, 2) := by decide +kernel
theorem dX12_locksAll_38 : decode cX12_locksAll 38 = .ok (.bipush 24, 2) := by decide +kernel
theorem dX12_locksAll_40 : decode cX12_locksAll 40 = .ok (.iload 4, 2) := by decide +kernel
theorem dX12_locksAll_42 : decode cX12_locksAll 42 = .ok (.imul, 1) := by decide +kernel
theorem dX12_locksAll_43 : decode cX12_locksAll 43 = .ok (.iadd, 1) := by decide +kernel
theorem dX12_locksAll_44 : decode cX12_locksAll 44 = .ok (.bipush 8, 2) := by decide +kernel
theorem dX12_locksAll_46 : decode cX12_locksAll 46 = .ok (.invokevirtual 364, 3) := by decide +kernel
theorem dX12_locksAll_49 : decode cX12_locksAll 49 = .ok (.lstore 5, 2) := by decide +kernel
theorem dX12_locksAll_51 : decode cX12_locksAll 51 = .ok (.aload_n 0, 1) := by decide +kernel
theorem dX12_locksAll_52 : decode cX12_locksAll 52 = .ok (.bipush 96, 2) := by decide +kernel
theorem dX12_locksAll_54 : decode cX12_locksAll 54 = .ok (.bipush 24, 2) := by decide +kernel
theorem dX12_locksAll_56 : decode cX12_locksAll 56 = .ok (.iload 4, 2) := by decide +kernel
theorem dX12_locksAll_58 : decode cX12_locksAll 58 = .ok (.imul, 1) := by decide +kernel
theorem dX12_locksAll_59 : decode cX12_locksAll 59 = .ok (.iadd, 1) := by decide +kernel
theorem dX12_locksAll_60 : decode cX12_locksAll 60 = .ok (.bipush 8, 2) := by decide +kernel
theorem dX12_locksAll_62 : decode cX12_locksAll 62 = .ok (.invokevirtual 364, 3) := by decide +kernel
theorem dX12_locksAll_65 : decode cX12_locksAll 65 = .ok (.lstore 7, 2) := by decide +kernel
theorem dX12_locksAll_67 : decode cX12_locksAll 67 = .ok (.aload_n 0, 1) := by decide +kernel
theorem dX12_locksAll_68 : decode cX12_locksAll 68 = .ok (.bipush 104, 2) := by decide +kernel
theorem dX12_locksAll_70 : decode cX12_locksAll 70 = .ok (.bipush 24, 2) := by decide +kernel
theorem dX12_locksAll_72 : decode cX12_locksAll 72 = .ok (.iload 4, 2) := by decide +kernel
theorem dX12_locksAll_74 : decode cX12_locksAll 74 = .ok (.imul, 1) := by decide +kernel
theorem dX12_locksAll_75 : decode cX12_locksAll 75 = .ok (.iadd, 1) := by decide +kernel
theorem dX12_locksAll_76 : decode cX12_locksAll 76 = .ok (.iconst 4, 1) := by decide +kernel
theorem dX12_locksAll_77 : decode cX12_locksAll 77 = .ok (.invokevirtual 364, 3) := by decide +kernel
theorem dX12_locksAll_80 : decode cX12_locksAll 80 = .ok (.lstore 9, 2) := by decide +kernel
theorem dX12_locksAll_82 : decode cX12_locksAll 82 = .ok (.lload 9, 2) := by decide +kernel
theorem dX12_locksAll_84 : decode cX12_locksAll 84 = .ok (.lconst 1, 1) := by decide +kernel
theorem dX12_locksAll_85 : decode cX12_locksAll 85 = .ok (.land, 1) := by decide +kernel
theorem dX12_locksAll_86 : decode cX12_locksAll 86 = .ok (.lconst 0, 1) := by decide +kernel
theorem dX12_locksAll_87 : decode cX12_locksAll 87 = .ok (.lcmp, 1) := by decide +kernel
theorem dX12_locksAll_88 : decode cX12_locksAll 88 = .ok (.ifCond .eq 7, 3) := by decide +kernel
theorem dX12_locksAll_91 : decode cX12_locksAll 91 = .ok (.iconst 1, 1) := by decide +kernel
theorem dX12_locksAll_92 : decode cX12_locksAll 92 = .ok (.goto 4, 3) := by decide +kernel
theorem dX12_locksAll_95 : decode cX12_locksAll 95 = .ok (.iconst 0, 1) := by decide +kernel
theorem dX12_locksAll_96 : decode cX12_locksAll 96 = .ok (.istore 11, 2) := by decide +kernel
theorem dX12_locksAll_98 : decode cX12_locksAll 98 = .ok (.aload_n 0, 1) := by decide +kernel
theorem dX12_locksAll_99 : decode cX12_locksAll 99 = .ok (.iload_n 1, 1) := by decide +kernel
theorem dX12_locksAll_100 : decode cX12_locksAll 100 = .ok (.lload 5, 2) := by decide +kernel
theorem dX12_locksAll_102 : decode cX12_locksAll 102 = .ok (.lload 7, 2) := by decide +kernel
theorem dX12_locksAll_104 : decode cX12_locksAll 104 = .ok (.iload 11, 2) := by decide +kernel
theorem dX12_locksAll_106 : decode cX12_locksAll 106 = .ok (.invokevirtual 780, 3) := by decide +kernel
theorem dX12_locksAll_109 : decode cX12_locksAll 109 = .ok (.ifCond .eq 26, 3) := by decide +kernel
theorem dX12_locksAll_112 : decode cX12_locksAll 112 = .ok (.aload_n 0, 1) := by decide +kernel
theorem dX12_locksAll_113 : decode cX12_locksAll 113 = .ok (.aload_n 0, 1) := by decide +kernel
theorem dX12_locksAll_114 : decode cX12_locksAll 114 = .ok (.getfield 139, 3) := by decide +kernel
theorem dX12_locksAll_117 : decode cX12_locksAll 117 = .ok (.aload_n 0, 1) := by decide +kernel
theorem dX12_locksAll_118 : decode cX12_locksAll 118 = .ok (.getfield 525, 3) := by decide +kernel
theorem dX12_locksAll_121 : decode cX12_locksAll 121 = .ok (.laload, 1) := by decide +kernel
theorem dX12_locksAll_122 : decode cX12_locksAll 122 = .ok (.iload_n 1, 1) := by decide +kernel
theorem dX12_locksAll_123 : decode cX12_locksAll 123 = .ok (.lload 5, 2) := by decide +kernel
theorem dX12_locksAll_125 : decode cX12_locksAll 125 = .ok (.lload 7, 2) := by decide +kernel
theorem dX12_locksAll_127 : decode cX12_locksAll 127 = .ok (.iload 11, 2) := by decide +kernel
theorem dX12_locksAll_129 : decode cX12_locksAll 129 = .ok (.invokevirtual 784, 3) := by decide +kernel
theorem dX12_locksAll_132 : decode cX12_locksAll 132 = .ok (.goto 88, 3) := by decide +kernel
theorem dX12_locksAll_135 : decode cX12_locksAll 135 = .ok (.aload_n 0, 1) := by decide +kernel
theorem dX12_locksAll_136 : decode cX12_locksAll 136 = .ok (.iload_n 3, 1) := by decide +kernel
theorem dX12_locksAll_137 : decode cX12_locksAll 137 = .ok (.putfield 289, 3) := by decide +kernel
theorem dX12_locksAll_140 : decode cX12_locksAll 140 = .ok (.lload 9, 2) := by decide +kernel
theorem dX12_locksAll_142 : decode cX12_locksAll 142 = .ok (.ldc2_w 613, 3) := by decide +kernel
theorem dX12_locksAll_145 : decode cX12_locksAll 145 = .ok (.lcmp, 1) := by decide +kernel
theorem dX12_locksAll_146 : decode cX12_locksAll 146 = .ok (.ifCond .ge 10, 3) := by decide +kernel
theorem dX12_locksAll_149 : decode cX12_locksAll 149 = .ok (.aload_n 0, 1) := by decide +kernel
theorem dX12_locksAll_150 : decode cX12_locksAll 150 = .ok (.getfield 407, 3) := by decide +kernel
theorem dX12_locksAll_153 : decode cX12_locksAll 153 = .ok (.ifCond .ne 7, 3) := by decide +kernel
theorem dX12_locksAll_156 : decode cX12_locksAll 156 = .ok (.ldc2_w 798, 3) := by decide +kernel
theorem dX12_locksAll_159 : decode cX12_locksAll 159 = .ok (.lreturn, 1) := by decide +kernel
theorem dX12_locksAll_160 : decode cX12_locksAll 160 = .ok (.aload_n 0, 1) := by decide +kernel
theorem dX12_locksAll_161 : decode cX12_locksAll 161 = .ok (.getfield 292, 3) := by decide +kernel
theorem dX12_locksAll_164 : decode cX12_locksAll 164 = .ok (.bipush 16, 2) := by decide +kernel
theorem dX12_locksAll_166 : decode cX12_locksAll 166 = .ok (.if_icmp .ne 7, 3) := by decide +kernel
theorem dX12_locksAll_169 : decode cX12_locksAll 169 = .ok (.ldc2_w 607, 3) := by decide +kernel
theorem dX12_locksAll_172 : decode cX12_locksAll 172 = .ok (.lreturn, 1) := by decide +kernel
theorem dX12_locksAll_173 : decode cX12_locksAll 173 = .ok (.aload_n 0, 1) := by decide +kernel
theorem dX12_locksAll_174 : decode cX12_locksAll 174 = .ok (.iload_n 1, 1) := by decide +kernel
theorem dX12_locksAll_175 : decode cX12_locksAll 175 = .ok (.aload_n 0, 1) := by decide +kernel
theorem dX12_locksAll_176 : decode cX12_locksAll 176 = .ok (.getfield 139, 3) := by decide +kernel
theorem dX12_locksAll_179 : decode cX12_locksAll 179 = .ok (.aload_n 0, 1) := by decide +kernel
theorem dX12_locksAll_180 : decode cX12_locksAll 180 = .ok (.getfield 525, 3) := by decide +kernel
theorem dX12_locksAll_183 : decode cX12_locksAll 183 = .ok (.laload, 1) := by decide +kernel
theorem dX12_locksAll_184 : decode cX12_locksAll 184 = .ok (.invokevirtual 654, 3) := by decide +kernel
theorem dX12_locksAll_187 : decode cX12_locksAll 187 = .ok (.istore 12, 2) := by decide +kernel
theorem dX12_locksAll_189 : decode cX12_locksAll 189 = .ok (.aload_n 0, 1) := by decide +kernel
theorem dX12_locksAll_190 : decode cX12_locksAll 190 = .ok (.getfield 229, 3) := by decide +kernel
theorem dX12_locksAll_193 : decode cX12_locksAll 193 = .ok (.iload 12, 2) := by decide +kernel
theorem dX12_locksAll_195 : decode cX12_locksAll 195 = .ok (.lload 5, 2) := by decide +kernel
theorem dX12_locksAll_197 : decode cX12_locksAll 197 = .ok (.lastore, 1) := by decide +kernel
theorem dX12_locksAll_198 : decode cX12_locksAll 198 = .ok (.aload_n 0, 1) := by decide +kernel
theorem dX12_locksAll_199 : decode cX12_locksAll 199 = .ok (.getfield 232, 3) := by decide +kernel
theorem dX12_locksAll_202 : decode cX12_locksAll 202 = .ok (.iload 12, 2) := by decide +kernel
theorem dX12_locksAll_204 : decode cX12_locksAll 204 = .ok (.lload 7, 2) := by decide +kernel
theorem dX12_locksAll_206 : decode cX12_locksAll 206 = .ok (.lastore, 1) := by decide +kernel
theorem dX12_locksAll_207 : decode cX12_locksAll 207 = .ok (.aload_n 0, 1) := by decide +kernel
theorem dX12_locksAll_208 : decode cX12_locksAll 208 = .ok (.getfield 235, 3) := by decide +kernel
theorem dX12_locksAll_211 : decode cX12_locksAll 211 = .ok (.iload 12, 2) := by decide +kernel
theorem dX12_locksAll_213 : decode cX12_locksAll 213 = .ok (.iload 11, 2) := by decide +kernel
theorem dX12_locksAll_215 : decode cX12_locksAll 215 = .ok (.bastore, 1) := by decide +kernel
theorem dX12_locksAll_216 : decode cX12_locksAll 216 = .ok (.ldc2_w 592, 3) := by decide +kernel
theorem dX12_locksAll_219 : decode cX12_locksAll 219 = .ok (.lreturn, 1) := by decide +kernel
theorem dX12_locksAll_220 : decode cX12_locksAll 220 = .ok (.iinc 4 1, 3) := by decide +kernel
theorem dX12_locksAll_223 : decode cX12_locksAll 223 = .ok (.goto (-194), 3) := by decide +kernel
theorem dX12_locksAll_226 : decode cX12_locksAll 226 = .ok (.aload_n 0, 1) := by decide +kernel
theorem dX12_locksAll_227 : decode cX12_locksAll 227 = .ok (.iconst 4, 1) := by decide +kernel
theorem dX12_locksAll_228 : decode cX12_locksAll 228 = .ok (.invokevirtual 536, 3) := by decide +kernel
theorem dX12_locksAll_231 : decode cX12_locksAll 231 = .ok (.lreturn, 1) := by decide +kernel
set_option maxRecDepth 100000 in
set_option maxHeartbeats 4000000 in
theorem c_X12_locksAll (l : Launch) (D : va_G) (t : Nat → ClassId) (h0 : Nat) (L : Nat → Nat) (σ : HS) (hM : MdI h0 L σ) (a1 : Int32) (a2 : Int32) (post : Int64 → HS → Prop) (hw : F_X12_locksAll h0 L a1 a2 post σ) (sz : Nat) : RMl l D t yX12_locksAll cX12_locksAll 13 (some .long) ({ frames := 4, cells := 0, slots := 0, locals := 112 }) h0 L σ sz [.ref h0, .int a1, .int a2] post := by
  refine h_go (τ := τT) okT (by decide) (Nat.le_of_ble_eq_true rfl) ?_
  intro p e s m below meth c ls A hF hr hlk hAe hH0 hA hl
  unfold hB
  rw [hAe]
  clear hAe
  have hF : FX p m c cX12_locksAll 13 s _ RX12 D t := hF
  have hx := hF.1.1
  have hb := hF.1.2.1
  have hH : RT D t A s.heap h0 L σ s.heap [] := ⟨hH0, hM⟩
  have hl : lv_has ls 13 [(0, .ref h0), (1, .int a1), (2, .int a2)] := hl
  unfold F_X12_locksAll at hw
  refine lv_aload_n hx hb dX12_locksAll_0 rfl (lv_at hl 0 rfl) ?_
  refine w_getI hF hH fk_X12_289 dX12_locksAll_1 hw (fun z1 hw => ?_)
  refine lv_iload_n hx hb dX12_locksAll_4 rfl (lv_at hl 2 rfl) ?_
  refine lv_iadd hx hb dX12_locksAll_5 ?_
  refine w_nmi hw (fun z2 hw => ?_)
  refine lv_bipush (v := 60) hx hb dX12_locksAll_6 (by decide) ?_
  refine w_icmp_le (tgt := 15) hF dX12_locksAll_8 rfl hw (fun hw => ?_) (fun hw => ?_)
  · refine lv_aload_n hx hb dX12_locksAll_15 rfl (lv_at hl 0 rfl) ?_
    refine lv_iload_n hx hb dX12_locksAll_16 rfl (lv_at hl 1 rfl) ?_
    refine lv_iconst (v := (-1)) hx hb dX12_locksAll_17 (by decide) ?_
    refine w_cVv (As := [.int a1, .int (-1)]) (rest := []) hF hH hA mv_X12_740 (fun sz => c_X12_breakSecond l D t h0 L _ hH.2 a1 (-1) _ hw sz) dX12_locksAll_18 rfl rfl (by decide) rfl hl.1 (Nat.le_of_ble_eq_true rfl) (by decide) rfl (fun σ3 H locs hw hH => ?_)
    refine lv_aload_n hx hb dX12_locksAll_21 rfl (lv_at hl 0 rfl) ?_
    refine w_getI hF hH fk_X12_289 dX12_locksAll_22 hw (fun z5 hw => ?_)
    refine lv_istore_n (lv' := [(3, .int z5), (0, .ref h0), (1, .int a1), (2, .int a2)]) hx hb dX12_locksAll_25 rfl hl (by decide) rfl (fun ls hl => ?_)
    refine lv_iconst (v := 0) hx hb dX12_locksAll_26 (by decide) ?_
    refine lv_istore (lv' := [(4, .int 0), (3, .int z5), (0, .ref h0), (1, .int a1), (2, .int a2)]) hx hb dX12_locksAll_27 hl (by decide) rfl (fun ls hl => ?_)
    have hl : lv_has ls 13 [(4, .int 0), (3, .int z5), (2, .int a2), (1, .int a1), (0, .ref h0)] := lv_sub hl [0, 1, 4, 3, 2] rfl
    refine w_loop (β := Int32) (fun x6 => [(4, .int x6), (3, .int z5), (2, .int a2), (1, .int a1), (0, .ref h0)]) 0 hl hw hH (fun K8 x6 σ7 ls H locs hl hw hH ih9 => ?_)
    have hl : lv_has ls 13 [(4, .int x6), (3, .int z5), (2, .int a2), (1, .int a1), (0, .ref h0)] := hl
    refine lv_iload hx hb dX12_locksAll_29 (lv_at hl 0 rfl) ?_
    refine lv_iload_n hx hb dX12_locksAll_31 rfl (lv_at hl 2 rfl) ?_
    refine w_icmp_ge (tgt := 226) hF dX12_locksAll_32 rfl hw (fun hw => ?_) (fun hw => ?_)
    · refine lv_aload_n hx hb dX12_locksAll_226 rfl (lv_at hl 4 rfl) ?_
      refine lv_iconst (v := 4) hx hb dX12_locksAll_227 (by decide) ?_
      refine w_cVl (As := [.int 4]) (rest := []) hF hH hA mv_X12_536 (fun sz => c_X12_small l D t h0 L _ hH.2 4 _ hw sz) dX12_locksAll_228 rfl rfl (by decide) rfl hl.1 (Nat.le_of_ble_eq_true rfl) (by decide) rfl (fun z11 σ10 H locs hw hH => ?_)
      exact w_retl hF hH hr hlk dX12_locksAll_231 hw
    · refine lv_aload_n hx hb dX12_locksAll_35 rfl (lv_at hl 4 rfl) ?_
      refine lv_bipush (v := 88) hx hb dX12_locksAll_36 (by decide) ?_
      refine lv_bipush (v := 24) hx hb dX12_locksAll_38 (by decide) ?_
      refine lv_iload hx hb dX12_locksAll_40 (lv_at hl 0 rfl) ?_
      refine lv_imul hx hb dX12_locksAll_42 ?_
      refine w_nmi hw (fun z12 hw => ?_)
      refine lv_iadd hx hb dX12_locksAll_43 ?_
      refine w_nmi hw (fun z13 hw => ?_)
      refine lv_bipush (v := 8) hx hb dX12_locksAll_44 (by decide) ?_
      refine w_cVl (As := [.int z13, .int 8]) (rest := []) hF hH hA mv_X12_364 (fun sz => c_X12_number l D t h0 L _ hH.2 z13 8 _ hw sz) dX12_locksAll_46 rfl rfl (by decide) rfl hl.1 (Nat.le_of_ble_eq_true rfl) (by decide) rfl (fun z15 σ14 H locs hw hH => ?_)
      refine lv_lstore (lv' := [(5, .long z15), (4, .int x6), (3, .int z5), (2, .int a2), (1, .int a1), (0, .ref h0)]) hx hb dX12_locksAll_49 hl (by decide) rfl (fun ls hl => ?_)
      refine lv_aload_n hx hb dX12_locksAll_51 rfl (lv_at hl 5 rfl) ?_
      refine lv_bipush (v := 96) hx hb dX12_locksAll_52 (by decide) ?_
      refine lv_bipush (v := 24) hx hb dX12_locksAll_54 (by decide) ?_
      refine lv_iload hx hb dX12_locksAll_56 (lv_at hl 1 rfl) ?_
      refine lv_imul hx hb dX12_locksAll_58 ?_
      refine w_nmi hw (fun z16 hw => ?_)
      refine lv_iadd hx hb dX12_locksAll_59 ?_
      refine w_nmi hw (fun z17 hw => ?_)
      refine lv_bipush (v := 8) hx hb dX12_locksAll_60 (by decide) ?_
      refine w_cVl (As := [.int z17, .int 8]) (rest := []) hF hH hA mv_X12_364 (fun sz => c_X12_number l D t h0 L _ hH.2 z17 8 _ hw sz) dX12_locksAll_62 rfl rfl (by decide) rfl hl.1 (Nat.le_of_ble_eq_true rfl) (by decide) rfl (fun z19 σ18 H locs hw hH => ?_)
      refine lv_lstore (lv' := [(7, .long z19), (5, .long z15), (4, .int x6), (3, .int z5), (2, .int a2), (1, .int a1), (0, .ref h0)]) hx hb dX12_locksAll_65 hl (by decide) rfl (fun ls hl => ?_)
      refine lv_aload_n hx hb dX12_locksAll_67 rfl (lv_at hl 6 rfl) ?_
      refine lv_bipush (v := 104) hx hb dX12_locksAll_68 (by decide) ?_
      refine lv_bipush (v := 24) hx hb dX12_locksAll_70 (by decide) ?_
      refine lv_iload hx hb dX12_locksAll_72 (lv_at hl 2 rfl) ?_
      refine lv_imul hx hb dX12_locksAll_74 ?_
      refine w_nmi hw (fun z20 hw => ?_)
      refine lv_iadd hx hb dX12_locksAll_75 ?_
      refine w_nmi hw (fun z21 hw => ?_)
      refine lv_iconst (v := 4) hx hb dX12_locksAll_76 (by decide) ?_
      refine w_cVl (As := [.int z21, .int 4]) (rest := []) hF hH hA mv_X12_364 (fun sz => c_X12_number l D t h0 L _ hH.2 z21 4 _ hw sz) dX12_locksAll_77 rfl rfl (by decide) rfl hl.1 (Nat.le_of_ble_eq_true rfl) (by decide) rfl (fun z23 σ22 H locs hw hH => ?_)
      refine lv_lstore (lv' := [(9, .long z23), (7, .long z19), (5, .long z15), (4, .int x6), (3, .int z5), (2, .int a2), (1, .int a1), (0, .ref h0)]) hx hb dX12_locksAll_80 hl (by decide) rfl (fun ls hl => ?_)
      refine lv_lload hx hb dX12_locksAll_82 (lv_at hl 0 rfl) ?_
      refine lv_lconst (v := 1) hx hb dX12_locksAll_84 (by decide) ?_
      refine lv_land hx hb dX12_locksAll_85 ?_
      refine w_nml hw (fun z24 hw => ?_)
      refine lv_lconst (v := 0) hx hb dX12_locksAll_86 (by decide) ?_
      obtain ⟨K27, hK28, hw⟩ := jn_open hw
      refine w_join (K := K27) 96 (fun (x25 : Int32) => [(9, .long z23), (7, .long z19), (5, .long z15), (4, .int x6), (3, .int z5), (2, .int a2), (1, .int a1), (0, .ref h0)]) (fun (x25 : Int32) => [.int x25]) hl hH (fun x25 σ26 ls H locs hl hw hH => ?_) (fun jn29 => ?_)
      · have hw := hK28 x25 σ26 hw
        have hl : lv_has ls 13 [(9, .long z23), (7, .long z19), (5, .long z15), (4, .int x6), (3, .int z5), (2, .int a2), (1, .int a1), (0, .ref h0)] := hl
        refine lv_istore (lv' := [(11, .int x25), (9, .long z23), (7, .long z19), (5, .long z15), (4, .int x6), (3, .int z5), (2, .int a2), (1, .int a1), (0, .ref h0)]) hx hb dX12_locksAll_96 hl (by decide) rfl (fun ls hl => ?_)
        refine lv_aload_n hx hb dX12_locksAll_98 rfl (lv_at hl 8 rfl) ?_
        refine lv_iload_n hx hb dX12_locksAll_99 rfl (lv_at hl 7 rfl) ?_
        refine lv_lload hx hb dX12_locksAll_100 (lv_at hl 3 rfl) ?_
        refine lv_lload hx hb dX12_locksAll_102 (lv_at hl 2 rfl) ?_
        refine lv_iload hx hb dX12_locksAll_104 (lv_at hl 0 rfl) ?_
        refine w_cVi (As := [.int a1, .long z15, .long z19, .int x25]) (rest := []) hF hH hA mv_X12_780 (fun sz => c_X12_canBe l D t h0 L _ hH.2 a1 z15 z19 x25 _ hw sz) dX12_locksAll_106 rfl rfl (by decide) rfl hl.1 (Nat.le_of_ble_eq_true rfl) (by decide) rfl (fun z31 σ30 H locs hw hH => ?_)
        refine w_if_eq (tgt := 135) hF dX12_locksAll_109 rfl hw (fun hw => ?_) (fun hw => ?_)
        · refine lv_aload_n hx hb dX12_locksAll_135 rfl (lv_at hl 8 rfl) ?_
          refine lv_iload_n hx hb dX12_locksAll_136 rfl (lv_at hl 5 rfl) ?_
          refine w_putI hF hH fk_X12_289 dX12_locksAll_137 rfl rfl rfl hw (fun σ32 H locs hw hH => ?_)
          refine lv_lload hx hb dX12_locksAll_140 (lv_at hl 1 rfl) ?_
          refine lv_ldc2 (v := 16) hx hb hF.1.2.2.2.1 (hF.1.2.2.2.2 _ (wc_53 11 rfl)) dX12_locksAll_142 ?_
          obtain ⟨K35, hK36, hw⟩ := jn_open hw
          refine w_join (K := K35) 156 (fun (x33 : Unit) => []) (fun (x33 : Unit) => []) hl hH (fun x33 σ34 ls H locs hl hw hH => ?_) (fun jn37 => ?_)
          · have hw := hK36 x33 σ34 hw
            have hl : lv_has ls 13 [] := hl
            refine lv_ldc2 (v := 3221225557) hx hb hF.1.2.2.2.1 (hF.1.2.2.2.2 _ (wc_55 27 rfl)) dX12_locksAll_156 ?_
            exact w_retl hF hH hr hlk dX12_locksAll_159 hw
          · skip
            refine w_lif_ge (tgt := 156) hF dX12_locksAll_145 dX12_locksAll_146 rfl hw (fun hw => ?_) (fun hw => ?_)
            · have hl : lv_has ls 13 [] := lv_sub hl [] rfl
              exact jn37 () σ32 ls _ _ hl hw hH
            · refine lv_aload_n hx hb dX12_locksAll_149 rfl (lv_at hl 8 rfl) ?_
              refine w_getI hF hH fk_X12_407 dX12_locksAll_150 hw (fun z38 hw => ?_)
              refine w_if_ne (tgt := 160) hF dX12_locksAll_153 rfl hw (fun hw => ?_) (fun hw => ?_)
              · refine lv_aload_n hx hb dX12_locksAll_160 rfl (lv_at hl 8 rfl) ?_
                refine w_getI hF hH fk_X12_292 dX12_locksAll_161 hw (fun z39 hw => ?_)
                refine lv_bipush (v := 16) hx hb dX12_locksAll_164 (by decide) ?_
                refine w_icmp_ne (tgt := 173) hF dX12_locksAll_166 rfl hw (fun hw => ?_) (fun hw => ?_)
                · refine lv_aload_n hx hb dX12_locksAll_173 rfl (lv_at hl 8 rfl) ?_
                  refine lv_iload_n hx hb dX12_locksAll_174 rfl (lv_at hl 7 rfl) ?_
                  refine lv_aload_n hx hb dX12_locksAll_175 rfl (lv_at hl 8 rfl) ?_
                  refine w_getA 41 hF hH fk_X12_139 dX12_locksAll_176 (by decide) rfl ?_
                  refine lv_aload_n hx hb dX12_locksAll_179 rfl (lv_at hl 8 rfl) ?_
                  refine w_getI hF hH fk_X12_525 dX12_locksAll_180 hw (fun z40 hw => ?_)
                  refine w_lald 41 40 hF hH dX12_locksAll_183 (by decide) rfl rfl hw (fun z41 hw => ?_)
                  refine w_cVi (As := [.int a1, .long z41]) (rest := []) hF hH hA mv_X12_654 (fun sz => c_X12_waitFor l D t h0 L _ hH.2 a1 z41 _ hw sz) dX12_locksAll_184 rfl rfl (by decide) rfl hl.1 (Nat.le_of_ble_eq_true rfl) (by decide) rfl (fun z43 σ42 H locs hw hH => ?_)
                  refine lv_istore (lv' := [(12, .int z43), (11, .int x25), (9, .long z23), (7, .long z19), (5, .long z15), (4, .int x6), (3, .int z5), (2, .int a2), (1, .int a1), (0, .ref h0)]) hx hb dX12_locksAll_187 hl (by decide) rfl (fun ls hl => ?_)
                  refine lv_aload_n hx hb dX12_locksAll_189 rfl (lv_at hl 9 rfl) ?_
                  refine w_getA 71 hF hH fk_X12_229 dX12_locksAll_190 (by decide) rfl ?_
                  refine lv_iload hx hb dX12_locksAll_193 (lv_at hl 0 rfl) ?_
                  refine lv_lload hx hb dX12_locksAll_195 (lv_at hl 4 rfl) ?_
                  refine w_last 71 16 hF hH dX12_locksAll_197 (by decide) rfl rfl hw (fun σ44 H locs hw hH => ?_)
                  refine lv_aload_n hx hb dX12_locksAll_198 rfl (lv_at hl 9 rfl) ?_
                  refine w_getA 72 hF hH fk_X12_232 dX12_locksAll_199 (by decide) rfl ?_
                  refine lv_iload hx hb dX12_locksAll_202 (lv_at hl 0 rfl) ?_
                  refine lv_lload hx hb dX12_locksAll_204 (lv_at hl 3 rfl) ?_
                  refine w_last 72 16 hF hH dX12_locksAll_206 (by decide) rfl rfl hw (fun σ45 H locs hw hH => ?_)
                  refine lv_aload_n hx hb dX12_locksAll_207 rfl (lv_at hl 9 rfl) ?_
                  refine w_getA 73 hF hH fk_X12_235 dX12_locksAll_208 (by decide) rfl ?_
                  refine lv_iload hx hb dX12_locksAll_211 (lv_at hl 0 rfl) ?_
                  refine lv_iload hx hb dX12_locksAll_213 (lv_at hl 1 rfl) ?_
                  refine w_zast 73 16 hF hH dX12_locksAll_215 (by decide) rfl rfl hw (fun σ46 H locs hw hH => ?_)
                  refine lv_ldc2 (v := 259) hx hb hF.1.2.2.2.1 (hF.1.2.2.2.2 _ (wc_52 38 rfl)) dX12_locksAll_216 ?_
                  exact w_retl hF hH hr hlk dX12_locksAll_219 hw
                · refine lv_ldc2 (v := 3221225626) hx hb hF.1.2.2.2.1 (hF.1.2.2.2.2 _ (wc_53 8 rfl)) dX12_locksAll_169 ?_
                  exact w_retl hF hH hr hlk dX12_locksAll_172 hw
              · have hl : lv_has ls 13 [] := lv_sub hl [] rfl
                exact jn37 () σ32 ls _ _ hl hw hH
        · refine lv_aload_n hx hb dX12_locksAll_112 rfl (lv_at hl 8 rfl) ?_
          refine lv_aload_n hx hb dX12_locksAll_113 rfl (lv_at hl 8 rfl) ?_
          refine w_getA 41 hF hH fk_X12_139 dX12_locksAll_114 (by decide) rfl ?_
          refine lv_aload_n hx hb dX12_locksAll_117 rfl (lv_at hl 8 rfl) ?_
          refine w_getI hF hH fk_X12_525 dX12_locksAll_118 hw (fun z47 hw => ?_)
          refine w_lald 41 40 hF hH dX12_locksAll_121 (by decide) rfl rfl hw (fun z48 hw => ?_)
          refine lv_iload_n hx hb dX12_locksAll_122 rfl (lv_at hl 7 rfl) ?_
          refine lv_lload hx hb dX12_locksAll_123 (lv_at hl 3 rfl) ?_
          refine lv_lload hx hb dX12_locksAll_125 (lv_at hl 2 rfl) ?_
          refine lv_iload hx hb dX12_locksAll_127 (lv_at hl 0 rfl) ?_
          refine w_cVv (As := [.long z48, .int a1, .long z15, .long z19, .int x25]) (rest := []) hF hH hA mv_X12_784 (fun sz => c_X12_addLock l D t h0 L _ hH.2 z48 a1 z15 z19 x25 _ hw sz) dX12_locksAll_129 rfl rfl (by decide) rfl hl.1 (Nat.le_of_ble_eq_true rfl) (by decide) rfl (fun σ49 H locs hw hH => ?_)
          refine lv_goto (tgt := 220) hx hb dX12_locksAll_132 rfl ?_
          obtain ⟨z51, ez51⟩ : ∃ z : Int32, z = x6 + 1 := ⟨_, rfl⟩
          have hw := hw z51 ez51
          refine lv_iinc (lv' := [(4, .int z51), (11, .int x25), (9, .long z23), (7, .long z19), (5, .long z15), (3, .int z5), (2, .int a2), (1, .int a1), (0, .ref h0)]) (k := 4) (v := z51) hx hb dX12_locksAll_220 hl rfl ez51.symm (by decide) rfl (fun ls hl => ?_)
          refine lv_goto (tgt := 29) hx hb dX12_locksAll_223 rfl ?_
          have hl : lv_has ls 13 [(4, .int z51), (3, .int z5), (2, .int a2), (1, .int a1), (0, .ref h0)] := lv_sub hl [0, 5, 6, 7, 8] rfl
          exact ih9 z51 σ49 ls _ _ hl hw hH
      · skip
        refine w_lif_eq (tgt := 95) hF dX12_locksAll_87 dX12_locksAll_88 rfl hw (fun hw => ?_) (fun hw => ?_)
        · refine lv_iconst (v := 0) hx hb dX12_locksAll_95 (by decide) ?_
          exact jn29 0 σ22 ls _ _ hl hw hH
        · refine lv_iconst (v := 1) hx hb dX12_locksAll_91 (by decide) ?_
          refine lv_goto (tgt := 96) hx hb dX12_locksAll_92 rfl ?_
          exact jn29 1 σ22 ls _ _ hl hw hH
  · refine lv_ldc2 (v := 3221225626) hx hb hF.1.2.2.2.1 (hF.1.2.2.2.2 _ (wc_53 8 rfl)) dX12_locksAll_11 ?_
    exact w_retl hF hH hr hlk dX12_locksAll_14 hw
def F_X12_lock (h0 : Nat) (L : Nat → Nat)  (post : Int64 → HS → Prop) (σ : HS) : Prop := F_X12_number2 h0 L 66 (fun (z2 : Int32) (σ1 : HS) => ∀ z3 : Int32, z3 = sI σ1 h0 100 → (0 ≤ z3.toInt ∧ z3.toInt < 40) ∧ ∀ z4 : Int32, z4 = sI σ1 (L 43) z3.toInt.toNat → jn (fun (K7 : Unit → HS → Prop) => ((z2.toInt < (1 : Int32).toInt) → K7 () σ1) ∧ (((1 : Int32).toInt ≤ z2.toInt) → (((8 : Int32).toInt < z2.toInt) → K7 () σ1) ∧ ((z2.toInt ≤ (8 : Int32).toInt) → ∀ z10 : Int32, z10 = 24 * z2 → ∀ z11 : Int32, z11 = 88 + z10 → ∀ z12 : Int32, z12 = sI σ1 h0 87 → ((z11.toInt ≤ z12.toInt) → (0 ≤ z4.toInt ∧ z4.toInt < 160) ∧ ∀ z13 : Int32, z13 = sI σ1 (L 3) z4.toInt.toNat → ((z13.toInt = 0) → ∀ z14 : Int32, z14 = sI σ1 h0 100 → (0 ≤ z14.toInt ∧ z14.toInt < 40) ∧ ∀ z15 : Int32, z15 = sI σ1 (L 44) z14.toInt.toNat → ∀ z16 : Int32, z16 = z15 &&& 7 → ((¬ z16.toInt = 0) → F_X12_number h0 L 104 4 (fun (z18 : Int64) (σ17 : HS) => jn (fun (K21 : Int32 → HS → Prop) => ((¬ z18.toInt = (4 : Int64).toInt) → K21 0 σ17) ∧ ((z18.toInt = (4 : Int64).toInt) → K21 1 σ17)) (fun (x19 : Int32) (σ20 : HS) => lw (fun (K26 : (Int32 × Int32) → HS → Prop) (x24 : Int32 × Int32) (σ25 : HS) => ((z2.toInt ≤ x24.1.toInt) → ((¬ x24.2.toInt = 0) → jn (fun (K30 : Int64 → HS → Prop) => ((x19.toInt = 0) → F_X12_locksAll h0 L z4 z2 (fun (z34 : Int64) (σ33 : HS) => K30 z34 σ33) σ25) ∧ ((¬ x19.toInt = 0) → F_X12_unlocks h0 L z2 (fun (z36 : Int64) (σ35 : HS) => K30 z36 σ35) σ25)) (fun (x28 : Int64) (σ29 : HS) => post x28 σ29)) ∧ ((x24.2.toInt = 0) → post 3221225485 σ25)) ∧ ((x24.1.toInt < z2.toInt) → ∀ z37 : Int32, z37 = 24 * x24.1 → ∀ z38 : Int32, z38 = 88 + z37 → F_X12_number h0 L z38 8 (fun (z40 : Int64) (σ39 : HS) => ∀ z41 : Int32, z41 = 24 * x24.1 → ∀ z42 : Int32, z42 = 96 + z41 → F_X12_number h0 L z42 8 (fun (z44 : Int64) (σ43 : HS) => ∀ z45 : Int32, z45 = 24 * x24.1 → ∀ z46 : Int32, z46 = 104 + z45 → F_X12_number h0 L z46 4 (fun (z48 : Int64) (σ47 : HS) => jn (fun (K51 : Int32 → HS → Prop) => jn (fun (K72 : Unit → HS → Prop) => ((x24.2.toInt = 0) → K72 () σ47) ∧ ((¬ x24.2.toInt = 0) → jn (fun (K77 : Unit → HS → Prop) => ((z44.toInt = (0 : Int64).toInt) → K77 () σ47) ∧ ((¬ z44.toInt = (0 : Int64).toInt) → ∀ z80 : Int64, z80 = z40 + z44 → ∀ z81 : Int64, z81 = z80 - 1 → F_X12_isLess h0 L z81 z40 (fun (z83 : Int32) (σ82 : HS) => ((¬ z83.toInt = 0) → K72 () σ82) ∧ ((z83.toInt = 0) → K77 () σ82)) σ47)) (fun (x75 : Unit) (σ76 : HS) => K51 1 σ76))) (fun (x70 : Unit) (σ71 : HS) => K51 0 σ71)) (fun (x49 : Int32) (σ50 : HS) => jn (fun (K56 : Int32 → HS → Prop) => jn (fun (K62 : Unit → HS → Prop) => ((x49.toInt = 0) → K62 () σ50) ∧ ((¬ x49.toInt = 0) → jn (fun (K67 : Unit → HS → Prop) => ((x19.toInt = 0) → ((z48.toInt = (17 : Int64).toInt) → K67 () σ50) ∧ ((¬ z48.toInt = (17 : Int64).toInt) → ((z48.toInt = (18 : Int64).toInt) → K67 () σ50) ∧ ((¬ z48.toInt = (18 : Int64).toInt) → ((¬ z2.toInt = (1 : Int32).toInt) → K62 () σ50) ∧ ((z2.toInt = (1 : Int32).toInt) → ((z48.toInt = (1 : Int64).toInt) → K67 () σ50) ∧ ((¬ z48.toInt = (1 : Int64).toInt) → ((¬ z48.toInt = (2 : Int64).toInt) → K62 () σ50) ∧ ((z48.toInt = (2 : Int64).toInt) → K67 () σ50)))))) ∧ ((¬ x19.toInt = 0) → ((¬ z48.toInt = (4 : Int64).toInt) → K62 () σ50) ∧ ((z48.toInt = (4 : Int64).toInt) → K67 () σ50))) (fun (x65 : Unit) (σ66 : HS) => K56 1 σ66))) (fun (x60 : Unit) (σ61 : HS) => K56 0 σ61)) (fun (x54 : Int32) (σ55 : HS) => ∀ z59 : Int32, z59 = x24.1 + 1 → K26 (z59, x54) σ55))) σ43) σ39) σ25)) (0, 1) σ20)) σ1) ∧ ((z16.toInt = 0) → post 3221225506 σ1)) ∧ ((¬ z13.toInt = 0) → post 3221225658 σ1)) ∧ ((z12.toInt < z11.toInt) → K7 () σ1)))) (fun (x5 : Unit) (σ6 : HS) => post 3221225485 σ6)) σ
theorem dX12_lock_0 : decode cX12_lock 0 = .ok (.aload_n 0, 1) := by decide +kernel
theorem dX12_lock_1 : decode cX12_lock 1 = .ok (.bipush 66, 2) := by decide +kernel
theorem dX12_lock_3 : decode cX12_lock 3 = .ok (.invokevirtual 415, 3) := by decide +kernel
theorem dX12_lock_6 : decode cX12_lock 6 = .ok (.istore_n 1, 1) := by decide +kernel
theorem dX12_lock_7 : decode cX12_lock 7 = .ok (.aload_n 0, 1) := by decide +kernel
theorem dX12_lock_8 : decode cX12_lock 8 = .ok (.getfield 145, 3) := by decide +kernel
theorem dX12_lock_11 : decode cX12_lock 11 = .ok (.aload_n 0, 1) := by decide +kernel
theorem dX12_lock_12 : decode cX12_lock 12 = .ok (.getfield 525, 3) := by decide +kernel
theorem dX12_lock_15 : decode cX12_lock 15 = .ok (.iaload, 1) := by decide +kernel
theorem dX12_lock_16 : decode cX12_lock 16 = .ok (.istore_n 2, 1) := by decide +kernel
theorem dX12_lock_17 : decode cX12_lock 17 = .ok (.iload_n 1, 1) := by decide +kernel
theorem dX12_lock_18 : decode cX12_lock 18 = .ok (.iconst 1, 1) := by decide +kernel
theorem dX12_lock_19 : decode cX12_lock 19 = .ok (.if_icmp .lt 23, 3) := by decide +kernel
theorem dX12_lock_22 : decode cX12_lock 22 = .ok (.iload_n 1, 1) := by decide +kernel
theorem dX12_lock_23 : decode cX12_lock 23 = .ok (.bipush 8, 2) := by decide +kernel
theorem dX12_lock_25 : decode cX12_lock 25 = .ok (.if_icmp .gt 17, 3) := by decide +kernel
theorem dX12_lock_28 : decode cX12_lock 28 = .ok (.bipush 88, 2) := by decide +kernel
theorem dX12_lock_30 : decode cX12_lock 30 = .ok (.bipush 24, 2) := by decide +kernel
theorem dX12_lock_32 : decode cX12_lock 32 = .ok (.iload_n 1, 1) := by decide +kernel
theorem dX12_lock_33 : decode cX12_lock 33 = .ok (.imul, 1) := by decide +kernel
theorem dX12_lock_34 : decode cX12_lock 34 = .ok (.iadd, 1) := by decide +kernel
theorem dX12_lock_35 : decode cX12_lock 35 = .ok (.aload_n 0, 1) := by decide +kernel
theorem dX12_lock_36 : decode cX12_lock 36 = .ok (.getfield 404, 3) := by decide +kernel
theorem dX12_lock_39 : decode cX12_lock 39 = .ok (.if_icmp .le 7, 3) := by decide +kernel
theorem dX12_lock_42 : decode cX12_lock 42 = .ok (.ldc2_w 518, 3) := by decide +kernel
theorem dX12_lock_45 : decode cX12_lock 45 = .ok (.lreturn, 1) := by decide +kernel
theorem dX12_lock_46 : decode cX12_lock 46 = .ok (.aload_n 0, 1) := by decide +kernel
theorem dX12_lock_47 : decode cX12_lock 47 = .ok (.getfield 21, 3) := by decide +kernel
theorem dX12_lock_50 : decode cX12_lock 50 = .ok (.iload_n 2, 1) := by decide +kernel
theorem dX12_lock_51 : decode cX12_lock 51 = .ok (.baload, 1) := by decide +kernel
theorem dX12_lock_52 : decode cX12_lock 52 = .ok (.ifCond .eq 7, 3) := by decide +kernel
theorem dX12_lock_55 : decode cX12_lock 55 = .ok (.ldc2_w 715, 3) := by decide +kernel
theorem dX12_lock_58 : decode cX12_lock 58 = .ok (.lreturn, 1) := by decide +kernel
theorem dX12_lock_59 : decode cX12_lock 59 = .ok (.aload_n 0, 1) := by decide +kernel
theorem dX12_lock_60 : decode cX12_lock 60 = .ok (.getfield 148, 3) := by decide +kernel
theorem dX12_lock_63 : decode cX12_lock 63 = .ok (.aload_n 0, 1) := by decide +kernel
theorem dX12_lock_64 : decode cX12_lock 64 = .ok (.getfield 525, 3) := by decide +kernel
theorem dX12_lock_67 : decode cX12_lock 67 = .ok (.iaload, 1) := by decide +kernel
theorem dX12_lock_68 : decode cX12_lock 68 = .ok (.bipush 7, 2) := by decide +kernel
theorem dX12_lock_70 : decode cX12_lock 70 = .ok (.iand, 1) := by decide +kernel
theorem dX12_lock_71 : decode cX12_lock 71 = .ok (.ifCond .ne 7, 3) := by decide +kernel
theorem dX12_lock_74 : decode cX12_lock 74 = .ok (.ldc2_w 667, 3) := by decide +kernel
theorem dX12_lock_77 : decode cX12_lock 77 = .ok (.lreturn, 1) := by decide +kernel
theorem dX12_lock_78 : decode cX12_lock 78 = .ok (.aload_n 0, 1) := by decide +kernel
theorem dX12_lock_79 : decode cX12_lock 79 = .ok (.bipush 104, 2) := by decide +kernel
theorem dX12_lock_81 : decode cX12_lock 81 = .ok (.iconst 4, 1) := by decide +kernel
theorem dX12_lock_82 : decode cX12_lock 82 = .ok (.invokevirtual 364, 3) := by decide +kernel
theorem dX12_lock_85 : decode cX12_lock 85 = .ok (.ldc2_w 410, 3) := by decide +kernel
theorem dX12_lock_88 : decode cX12_lock 88 = .ok (.lcmp, 1) := by decide +kernel
theorem dX12_lock_89 : decode cX12_lock 89 = .ok (.ifCond .ne 7, 3) := by decide +kernel
theorem dX12_lock_92 : decode cX12_lock 92 = .ok (.iconst 1, 1) := by decide +kernel
theorem dX12_lock_93 : decode cX12_lock 93 = .ok (.goto 4, 3) := by decide +kernel
theorem dX12_lock_96 : decode cX12_lock 96 = .ok (.iconst 0, 1) := by decide +kernel
theorem dX12_lock_97 : decode cX12_lock 97 = .ok (.istore_n 3, 1) := by decide +kernel
theorem dX12_lock_98 : decode cX12_lock 98 = .ok (.iconst 1, 1) := by decide +kernel
theorem dX12_lock_99 : decode cX12_lock 99 = .ok (.istore 4, 2) := by decide +kernel
theorem dX12_lock_101 : decode cX12_lock 101 = .ok (.iconst 0, 1) := by decide +kernel
theorem dX12_lock_102 : decode cX12_lock 102 = .ok (.istore 5, 2) := by decide +kernel
theorem dX12_lock_104 : decode cX12_lock 104 = .ok (.iload 5, 2) := by decide +kernel
theorem dX12_lock_106 : decode cX12_lock 106 = .ok (.iload_n 1, 1) := by decide +kernel
theorem dX12_lock_107 : decode cX12_lock 107 = .ok (.if_icmp .ge 157, 3) := by decide +kernel
theorem dX12_lock_110 : decode cX12_lock 110 = .ok (.aload_n 0, 1) := by decide +kernel
theorem dX12_lock_111 : decode cX12_lock 111 = .ok (.bipush 88, 2) := by decide +kernel
theorem dX12_lock_113 : decode cX12_lock 113 = .ok (.bipush 24, 2) := by decide +kernel
theorem dX12_lock_115 : decode cX12_lock 115 = .ok (.iload 5, 2) := by decide +kernel
theorem dX12_lock_117 : decode cX12_lock 117 = .ok (.imul, 1) := by decide +kernel
theorem dX12_lock_118 : decode cX12_lock 118 = .ok (.iadd, 1) := by decide +kernel
theorem dX12_lock_119 : decode cX12_lock 119 = .ok (.bipush 8, 2) := by decide +kernel
theorem dX12_lock_121 : decode cX12_lock 121 = .ok (.invokevirtual 364, 3) := by decide +kernel
theorem dX12_lock_124 : decode cX12_lock 124 = .ok (.lstore 6, 2) := by decide +kernel
theorem dX12_lock_126 : decode cX12_lock 126 = .ok (.aload_n 0, 1) := by decide +kernel
theorem dX12_lock_127 : decode cX12_lock 127 = .ok (.bipush 96, 2) := by decide +kernel
theorem dX12_lock_129 : decode cX12_lock 129 = .ok (.bipush 24, 2) := by decide +kernel
theorem dX12_lock_131 : decode cX12_lock 131 = .ok (.iload 5, 2) := by decide +kernel
theorem dX12_lock_133 : decode cX12_lock 133 = .ok (.imul, 1) := by decide +kernel
theorem dX12_lock_134 : decode cX12_lock 134 = .ok (.iadd, 1) := by decide +kernel
theorem dX12_lock_135 : decode cX12_lock 135 = .ok (.bipush 8, 2) := by decide +kernel
theorem dX12_lock_137 : decode cX12_lock 137 = .ok (.invokevirtual 364, 3) := by decide +kernel
theorem dX12_lock_140 : decode cX12_lock 140 = .ok (.lstore 8, 2) := by decide +kernel
theorem dX12_lock_142 : decode cX12_lock 142 = .ok (.aload_n 0, 1) := by decide +kernel
theorem dX12_lock_143 : decode cX12_lock 143 = .ok (.bipush 104, 2) := by decide +kernel
theorem dX12_lock_145 : decode cX12_lock 145 = .ok (.bipush 24, 2) := by decide +kernel
theorem dX12_lock_147 : decode cX12_lock 147 = .ok (.iload 5, 2) := by decide +kernel
theorem dX12_lock_149 : decode cX12_lock 149 = .ok (.imul, 1) := by decide +kernel
theorem dX12_lock_150 : decode cX12_lock 150 = .ok (.iadd, 1) := by decide +kernel
theorem dX12_lock_151 : decode cX12_lock 151 = .ok (.iconst 4, 1) := by decide +kernel
theorem dX12_lock_152 : decode cX12_lock 152 = .ok (.invokevirtual 364, 3) := by decide +kernel
theorem dX12_lock_155 : decode cX12_lock 155 = .ok (.lstore 10, 2) := by decide +kernel
theorem dX12_lock_157 : decode cX12_lock 157 = .ok (.iload 4, 2) := by decide +kernel
theorem dX12_lock_159 : decode cX12_lock 159 = .ok (.ifCond .eq 29, 3) := by decide +kernel
theorem dX12_lock_162 : decode cX12_lock 162 = .ok (.lload 8, 2) := by decide +kernel
theorem dX12_lock_164 : decode cX12_lock 164 = .ok (.lconst 0, 1) := by decide +kernel
theorem dX12_lock_165 : decode cX12_lock 165 = .ok (.lcmp, 1) := by decide +kernel
theorem dX12_lock_166 : decode cX12_lock 166 = .ok (.ifCond .eq 18, 3) := by decide +kernel
theorem dX12_lock_169 : decode cX12_lock 169 = .ok (.lload 6, 2) := by decide +kernel
theorem dX12_lock_171 : decode cX12_lock 171 = .ok (.lload 8, 2) := by decide +kernel
theorem dX12_lock_173 : decode cX12_lock 173 = .ok (.ladd, 1) := by decide +kernel
theorem dX12_lock_174 : decode cX12_lock 174 = .ok (.lconst 1, 1) := by decide +kernel
theorem dX12_lock_175 : decode cX12_lock 175 = .ok (.lsub, 1) := by decide +kernel
theorem dX12_lock_176 : decode cX12_lock 176 = .ok (.lload 6, 2) := by decide +kernel
theorem dX12_lock_178 : decode cX12_lock 178 = .ok (.invokestatic 763, 3) := by decide +kernel
theorem dX12_lock_181 : decode cX12_lock 181 = .ok (.ifCond .ne 7, 3) := by decide +kernel
theorem dX12_lock_184 : decode cX12_lock 184 = .ok (.iconst 1, 1) := by decide +kernel
theorem dX12_lock_185 : decode cX12_lock 185 = .ok (.goto 4, 3) := by decide +kernel
theorem dX12_lock_188 : decode cX12_lock 188 = .ok (.iconst 0, 1) := by decide +kernel
theorem dX12_lock_189 : decode cX12_lock 189 = .ok (.istore 4, 2) := by decide +kernel
theorem dX12_lock_191 : decode cX12_lock 191 = .ok (.iload 4, 2) := by decide +kernel
theorem dX12_lock_193 : decode cX12_lock 193 = .ok (.ifCond .eq 62, 3) := by decide +kernel
theorem dX12_lock_196 : decode cX12_lock 196 = .ok (.iload_n 3, 1) := by decide +kernel
theorem dX12_lock_197 : decode cX12_lock 197 = .ok (.ifCond .eq 15, 3) := by decide +kernel
theorem dX12_lock_200 : decode cX12_lock 200 = .ok (.lload 10, 2) := by decide +kernel
theorem dX12_lock_202 : decode cX12_lock 202 = .ok (.ldc2_w 410, 3) := by decide +kernel
theorem dX12_lock_205 : decode cX12_lock 205 = .ok (.lcmp, 1) := by decide +kernel
theorem dX12_lock_206 : decode cX12_lock 206 = .ok (.ifCond .ne 49, 3) := by decide +kernel
theorem dX12_lock_209 : decode cX12_lock 209 = .ok (.goto 42, 3) := by decide +kernel
theorem dX12_lock_212 : decode cX12_lock 212 = .ok (.lload 10, 2) := by decide +kernel
theorem dX12_lock_214 : decode cX12_lock 214 = .ok (.ldc2_w 774, 3) := by decide +kernel
theorem dX12_lock_217 : decode cX12_lock 217 = .ok (.lcmp, 1) := by decide +kernel
theorem dX12_lock_218 : decode cX12_lock 218 = .ok (.ifCond .eq 33, 3) := by decide +kernel
theorem dX12_lock_221 : decode cX12_lock 221 = .ok (.lload 10, 2) := by decide +kernel
theorem dX12_lock_223 : decode cX12_lock 223 = .ok (.ldc2_w 788, 3) := by decide +kernel
theorem dX12_lock_226 : decode cX12_lock 226 = .ok (.lcmp, 1) := by decide +kernel
theorem dX12_lock_227 : decode cX12_lock 227 = .ok (.ifCond .eq 24, 3) := by decide +kernel
theorem dX12_lock_230 : decode cX12_lock 230 = .ok (.iload_n 1, 1) := by decide +kernel
theorem dX12_lock_231 : decode cX12_lock 231 = .ok (.iconst 1, 1) := by decide +kernel
theorem dX12_lock_232 : decode cX12_lock 232 = .ok (.if_icmp .ne 23, 3) := by decide +kernel
theorem dX12_lock_235 : decode cX12_lock 235 = .ok (.lload 10, 2) := by decide +kernel
theorem dX12_lock_237 : decode cX12_lock 237 = .ok (.lconst 1, 1) := by decide +kernel
theorem dX12_lock_238 : decode cX12_lock 238 = .ok (.lcmp, 1) := by decide +kernel
theorem dX12_lock_239 : decode cX12_lock 239 = .ok (.ifCond .eq 12, 3) := by decide +kernel
theorem dX12_lock_242 : decode cX12_lock 242 = .ok (.lload 10, 2) := by decide +kernel
theorem dX12_lock_244 : decode cX12_lock 244 = .ok (.ldc2_w 465, 3) := by decide +kernel
theorem dX12_lock_247 : decode cX12_lock 247 = .ok (.lcmp, 1) := by decide +kernel
theorem dX12_lock_248 : decode cX12_lock 248 = .ok (.ifCond .ne 7, 3) := by decide +kernel
theorem dX12_lock_251 : decode cX12_lock 251 = .ok (.iconst 1, 1) := by decide +kernel
theorem dX12_lock_252 : decode cX12_lock 252 = .ok (.goto 4, 3) := by decide +kernel
theorem dX12_lock_255 : decode cX12_lock 255 = .ok (.iconst 0, 1) := by decide +kernel
theorem dX12_lock_256 : decode cX12_lock 256 = .ok (.istore 4, 2) := by decide +kernel
theorem dX12_lock_258 : decode cX12_lock 258 = .ok (.iinc 5 1, 3) := by decide +kernel
theorem dX12_lock_261 : decode cX12_lock 261 = .ok (.goto (-157), 3) := by decide +kernel
theorem dX12_lock_264 : decode cX12_lock 264 = .ok (.iload 4, 2) := by decide +kernel
theorem dX12_lock_266 : decode cX12_lock 266 = .ok (.ifCond .ne 7, 3) := by decide +kernel
theorem dX12_lock_269 : decode cX12_lock 269 = .ok (.ldc2_w 518, 3) := by decide +kernel
theorem dX12_lock_272 : decode cX12_lock 272 = .ok (.lreturn, 1) := by decide +kernel
theorem dX12_lock_273 : decode cX12_lock 273 = .ok (.iload_n 3, 1) := by decide +kernel
theorem dX12_lock_274 : decode cX12_lock 274 = .ok (.ifCond .eq 11, 3) := by decide +kernel
theorem dX12_lock_277 : decode cX12_lock 277 = .ok (.aload_n 0, 1) := by decide +kernel
theorem dX12_lock_278 : decode cX12_lock 278 = .ok (.iload_n 1, 1) := by decide +kernel
theorem dX12_lock_279 : decode cX12_lock 279 = .ok (.invokevirtual 790, 3) := by decide +kernel
theorem dX12_lock_282 : decode cX12_lock 282 = .ok (.goto 9, 3) := by decide +kernel
theorem dX12_lock_285 : decode cX12_lock 285 = .ok (.aload_n 0, 1) := by decide +kernel
theorem dX12_lock_286 : decode cX12_lock 286 = .ok (.iload_n 2, 1) := by decide +kernel
theorem dX12_lock_287 : decode cX12_lock 287 = .ok (.iload_n 1, 1) := by decide +kernel
theorem dX12_lock_288 : decode cX12_lock 288 = .ok (.invokevirtual 793, 3) := by decide +kernel
theorem dX12_lock_291 : decode cX12_lock 291 = .ok (.lreturn, 1) := by decide +kernel
set_option maxRecDepth 100000 in
set_option maxHeartbeats 4000000 in
theorem c_X12_lock (l : Launch) (D : va_G) (t : Nat → ClassId) (h0 : Nat) (L : Nat → Nat) (σ : HS) (hM : MdI h0 L σ)  (post : Int64 → HS → Prop) (hw : F_X12_lock h0 L  post σ) (sz : Nat) : RMl l D t yX12_lock cX12_lock 12 (some .long) ({ frames := 6, cells := 0, slots := 0, locals := 155 }) h0 L σ sz [.ref h0] post := by
  refine h_go (τ := τT) okT (by decide) (Nat.le_of_ble_eq_true rfl) ?_
  intro p e s m below meth c ls A hF hr hlk hAe hH0 hA hl
  unfold hB
  rw [hAe]
  clear hAe
  have hF : FX p m c cX12_lock 12 s _ RX12 D t := hF
  have hx := hF.1.1
  have hb := hF.1.2.1
  have hH : RT D t A s.heap h0 L σ s.heap [] := ⟨hH0, hM⟩
  have hl : lv_has ls 12 [(0, .ref h0)] := hl
  unfold F_X12_lock at hw
  refine lv_aload_n hx hb dX12_lock_0 rfl (lv_at hl 0 rfl) ?_
  refine lv_bipush (v := 66) hx hb dX12_lock_1 (by decide) ?_
  refine w_cVi (As := [.int 66]) (rest := []) hF hH hA mv_X12_415 (fun sz => c_X12_number2 l D t h0 L _ hH.2 66 _ hw sz) dX12_lock_3 rfl rfl (by decide) rfl hl.1 (Nat.le_of_ble_eq_true rfl) (by decide) rfl (fun z2 σ1 H locs hw hH => ?_)
  refine lv_istore_n (lv' := [(1, .int z2), (0, .ref h0)]) hx hb dX12_lock_6 rfl hl (by decide) rfl (fun ls hl => ?_)
  refine lv_aload_n hx hb dX12_lock_7 rfl (lv_at hl 1 rfl) ?_
  refine w_getA 43 hF hH fk_X12_145 dX12_lock_8 (by decide) rfl ?_
  refine lv_aload_n hx hb dX12_lock_11 rfl (lv_at hl 1 rfl) ?_
  refine w_getI hF hH fk_X12_525 dX12_lock_12 hw (fun z3 hw => ?_)
  refine w_iald 43 40 hF hH dX12_lock_15 (by decide) rfl rfl hw (fun z4 hw => ?_)
  refine lv_istore_n (lv' := [(2, .int z4), (1, .int z2), (0, .ref h0)]) hx hb dX12_lock_16 rfl hl (by decide) rfl (fun ls hl => ?_)
  refine lv_iload_n hx hb dX12_lock_17 rfl (lv_at hl 1 rfl) ?_
  refine lv_iconst (v := 1) hx hb dX12_lock_18 (by decide) ?_
  obtain ⟨K7, hK8, hw⟩ := jn_open hw
  refine w_join (K := K7) 42 (fun (x5 : Unit) => []) (fun (x5 : Unit) => []) hl hH (fun x5 σ6 ls H locs hl hw hH => ?_) (fun jn9 => ?_)
  · have hw := hK8 x5 σ6 hw
    have hl : lv_has ls 12 [] := hl
    refine lv_ldc2 (v := 3221225485) hx hb hF.1.2.2.2.1 (hF.1.2.2.2.2 _ (wc_47 33 rfl)) dX12_lock_42 ?_
    exact w_retl hF hH hr hlk dX12_lock_45 hw
  · skip
    refine w_icmp_lt (tgt := 42) hF dX12_lock_19 rfl hw (fun hw => ?_) (fun hw => ?_)
    · have hl : lv_has ls 12 [] := lv_sub hl [] rfl
      exact jn9 () σ1 ls _ _ hl hw hH
    · refine lv_iload_n hx hb dX12_lock_22 rfl (lv_at hl 1 rfl) ?_
      refine lv_bipush (v := 8) hx hb dX12_lock_23 (by decide) ?_
      refine w_icmp_gt (tgt := 42) hF dX12_lock_25 rfl hw (fun hw => ?_) (fun hw => ?_)
      · have hl : lv_has ls 12 [] := lv_sub hl [] rfl
        exact jn9 () σ1 ls _ _ hl hw hH
      · refine lv_bipush (v := 88) hx hb dX12_lock_28 (by decide) ?_
        refine lv_bipush (v := 24) hx hb dX12_lock_30 (by decide) ?_
        refine lv_iload_n hx hb dX12_lock_32 rfl (lv_at hl 1 rfl) ?_
        refine lv_imul hx hb dX12_lock_33 ?_
        refine w_nmi hw (fun z10 hw => ?_)
        refine lv_iadd hx hb dX12_lock_34 ?_
        refine w_nmi hw (fun z11 hw => ?_)
        refine lv_aload_n hx hb dX12_lock_35 rfl (lv_at hl 2 rfl) ?_
        refine w_getI hF hH fk_X12_404 dX12_lock_36 hw (fun z12 hw => ?_)
        refine w_icmp_le (tgt := 46) hF dX12_lock_39 rfl hw (fun hw => ?_) (fun hw => ?_)
        · refine lv_aload_n hx hb dX12_lock_46 rfl (lv_at hl 2 rfl) ?_
          refine w_getA 3 hF hH fk_X12_21 dX12_lock_47 (by decide) rfl ?_
          refine lv_iload_n hx hb dX12_lock_50 rfl (lv_at hl 0 rfl) ?_
          refine w_zald 3 160 hF hH dX12_lock_51 (by decide) rfl rfl hw (fun z13 hw => ?_)
          refine w_if_eq (tgt := 59) hF dX12_lock_52 rfl hw (fun hw => ?_) (fun hw => ?_)
          · refine lv_aload_n hx hb dX12_lock_59 rfl (lv_at hl 2 rfl) ?_
            refine w_getA 44 hF hH fk_X12_148 dX12_lock_60 (by decide) rfl ?_
            refine lv_aload_n hx hb dX12_lock_63 rfl (lv_at hl 2 rfl) ?_
            refine w_getI hF hH fk_X12_525 dX12_lock_64 hw (fun z14 hw => ?_)
            refine w_iald 44 40 hF hH dX12_lock_67 (by decide) rfl rfl hw (fun z15 hw => ?_)
            refine lv_bipush (v := 7) hx hb dX12_lock_68 (by decide) ?_
            refine lv_iand hx hb dX12_lock_70 ?_
            refine w_nmi hw (fun z16 hw => ?_)
            refine w_if_ne (tgt := 78) hF dX12_lock_71 rfl hw (fun hw => ?_) (fun hw => ?_)
            · refine lv_aload_n hx hb dX12_lock_78 rfl (lv_at hl 2 rfl) ?_
              refine lv_bipush (v := 104) hx hb dX12_lock_79 (by decide) ?_
              refine lv_iconst (v := 4) hx hb dX12_lock_81 (by decide) ?_
              refine w_cVl (As := [.int 104, .int 4]) (rest := []) hF hH hA mv_X12_364 (fun sz => c_X12_number l D t h0 L _ hH.2 104 4 _ hw sz) dX12_lock_82 rfl rfl (by decide) rfl hl.1 (Nat.le_of_ble_eq_true rfl) (by decide) rfl (fun z18 σ17 H locs hw hH => ?_)
              refine lv_ldc2 (v := 4) hx hb hF.1.2.2.2.1 (hF.1.2.2.2.2 _ (wc_47 22 rfl)) dX12_lock_85 ?_
              obtain ⟨K21, hK22, hw⟩ := jn_open hw
              refine w_join (K := K21) 97 (fun (x19 : Int32) => [(2, .int z4), (1, .int z2), (0, .ref h0)]) (fun (x19 : Int32) => [.int x19]) hl hH (fun x19 σ20 ls H locs hl hw hH => ?_) (fun jn23 => ?_)
              · have hw := hK22 x19 σ20 hw
                have hl : lv_has ls 12 [(2, .int z4), (1, .int z2), (0, .ref h0)] := hl
                refine lv_istore_n (lv' := [(3, .int x19), (2, .int z4), (1, .int z2), (0, .ref h0)]) hx hb dX12_lock_97 rfl hl (by decide) rfl (fun ls hl => ?_)
                refine lv_iconst (v := 1) hx hb dX12_lock_98 (by decide) ?_
                refine lv_istore (lv' := [(4, .int 1), (3, .int x19), (2, .int z4), (1, .int z2), (0, .ref h0)]) hx hb dX12_lock_99 hl (by decide) rfl (fun ls hl => ?_)
                refine lv_iconst (v := 0) hx hb dX12_lock_101 (by decide) ?_
                refine lv_istore (lv' := [(5, .int 0), (4, .int 1), (3, .int x19), (2, .int z4), (1, .int z2), (0, .ref h0)]) hx hb dX12_lock_102 hl (by decide) rfl (fun ls hl => ?_)
                refine w_loop (β := Int32 × Int32) (fun x24 => [(5, .int x24.1), (4, .int x24.2), (3, .int x19), (2, .int z4), (1, .int z2), (0, .ref h0)]) (0, 1) hl hw hH (fun K26 x24 σ25 ls H locs hl hw hH ih27 => ?_)
                have hl : lv_has ls 12 [(5, .int x24.1), (4, .int x24.2), (3, .int x19), (2, .int z4), (1, .int z2), (0, .ref h0)] := hl
                refine lv_iload hx hb dX12_lock_104 (lv_at hl 0 rfl) ?_
                refine lv_iload_n hx hb dX12_lock_106 rfl (lv_at hl 4 rfl) ?_
                refine w_icmp_ge (tgt := 264) hF dX12_lock_107 rfl hw (fun hw => ?_) (fun hw => ?_)
                · refine lv_iload hx hb dX12_lock_264 (lv_at hl 1 rfl) ?_
                  refine w_if_ne (tgt := 273) hF dX12_lock_266 rfl hw (fun hw => ?_) (fun hw => ?_)
                  · refine lv_iload_n hx hb dX12_lock_273 rfl (lv_at hl 2 rfl) ?_
                    obtain ⟨K30, hK31, hw⟩ := jn_open hw
                    refine w_join (K := K30) 291 (fun (x28 : Int64) => []) (fun (x28 : Int64) => [.long x28]) hl hH (fun x28 σ29 ls H locs hl hw hH => ?_) (fun jn32 => ?_)
                    · have hw := hK31 x28 σ29 hw
                      have hl : lv_has ls 12 [] := hl
                      exact w_retl hF hH hr hlk dX12_lock_291 hw
                    · skip
                      refine w_if_eq (tgt := 285) hF dX12_lock_274 rfl hw (fun hw => ?_) (fun hw => ?_)
                      · refine lv_aload_n hx hb dX12_lock_285 rfl (lv_at hl 5 rfl) ?_
                        refine lv_iload_n hx hb dX12_lock_286 rfl (lv_at hl 3 rfl) ?_
                        refine lv_iload_n hx hb dX12_lock_287 rfl (lv_at hl 4 rfl) ?_
                        refine w_cVl (As := [.int z4, .int z2]) (rest := []) hF hH hA mv_X12_793 (fun sz => c_X12_locksAll l D t h0 L _ hH.2 z4 z2 _ hw sz) dX12_lock_288 rfl rfl (by decide) rfl hl.1 (Nat.le_of_ble_eq_true rfl) (by decide) rfl (fun z34 σ33 H locs hw hH => ?_)
                        have hl : lv_has ls 12 [] := lv_sub hl [] rfl
                        exact jn32 z34 σ33 ls _ _ hl hw hH
                      · refine lv_aload_n hx hb dX12_lock_277 rfl (lv_at hl 5 rfl) ?_
                        refine lv_iload_n hx hb dX12_lock_278 rfl (lv_at hl 4 rfl) ?_
                        refine w_cVl (As := [.int z2]) (rest := []) hF hH hA mv_X12_790 (fun sz => c_X12_unlocks l D t h0 L _ hH.2 z2 _ hw sz) dX12_lock_279 rfl rfl (by decide) rfl hl.1 (Nat.le_of_ble_eq_true rfl) (by decide) rfl (fun z36 σ35 H locs hw hH => ?_)
                        refine lv_goto (tgt := 291) hx hb dX12_lock_282 rfl ?_
                        have hl : lv_has ls 12 [] := lv_sub hl [] rfl
                        exact jn32 z36 σ35 ls _ _ hl hw hH
                  · refine lv_ldc2 (v := 3221225485) hx hb hF.1.2.2.2.1 (hF.1.2.2.2.2 _ (wc_47 33 rfl)) dX12_lock_269 ?_
                    exact w_retl hF hH hr hlk dX12_lock_272 hw
                · refine lv_aload_n hx hb dX12_lock_110 rfl (lv_at hl 5 rfl) ?_
                  refine lv_bipush (v := 88) hx hb dX12_lock_111 (by decide) ?_
                  refine lv_bipush (v := 24) hx hb dX12_lock_113 (by decide) ?_
                  refine lv_iload hx hb dX12_lock_115 (lv_at hl 0 rfl) ?_
                  refine lv_imul hx hb dX12_lock_117 ?_
                  refine w_nmi hw (fun z37 hw => ?_)
                  refine lv_iadd hx hb dX12_lock_118 ?_
                  refine w_nmi hw (fun z38 hw => ?_)
                  refine lv_bipush (v := 8) hx hb dX12_lock_119 (by decide) ?_
                  refine w_cVl (As := [.int z38, .int 8]) (rest := []) hF hH hA mv_X12_364 (fun sz => c_X12_number l D t h0 L _ hH.2 z38 8 _ hw sz) dX12_lock_121 rfl rfl (by decide) rfl hl.1 (Nat.le_of_ble_eq_true rfl) (by decide) rfl (fun z40 σ39 H locs hw hH => ?_)
                  refine lv_lstore (lv' := [(6, .long z40), (5, .int x24.1), (4, .int x24.2), (3, .int x19), (2, .int z4), (1, .int z2), (0, .ref h0)]) hx hb dX12_lock_124 hl (by decide) rfl (fun ls hl => ?_)
                  refine lv_aload_n hx hb dX12_lock_126 rfl (lv_at hl 6 rfl) ?_
                  refine lv_bipush (v := 96) hx hb dX12_lock_127 (by decide) ?_
                  refine lv_bipush (v := 24) hx hb dX12_lock_129 (by decide) ?_
                  refine lv_iload hx hb dX12_lock_131 (lv_at hl 1 rfl) ?_
                  refine lv_imul hx hb dX12_lock_133 ?_
                  refine w_nmi hw (fun z41 hw => ?_)
                  refine lv_iadd hx hb dX12_lock_134 ?_
                  refine w_nmi hw (fun z42 hw => ?_)
                  refine lv_bipush (v := 8) hx hb dX12_lock_135 (by decide) ?_
                  refine w_cVl (As := [.int z42, .int 8]) (rest := []) hF hH hA mv_X12_364 (fun sz => c_X12_number l D t h0 L _ hH.2 z42 8 _ hw sz) dX12_lock_137 rfl rfl (by decide) rfl hl.1 (Nat.le_of_ble_eq_true rfl) (by decide) rfl (fun z44 σ43 H locs hw hH => ?_)
                  refine lv_lstore (lv' := [(8, .long z44), (6, .long z40), (5, .int x24.1), (4, .int x24.2), (3, .int x19), (2, .int z4), (1, .int z2), (0, .ref h0)]) hx hb dX12_lock_140 hl (by decide) rfl (fun ls hl => ?_)
                  refine lv_aload_n hx hb dX12_lock_142 rfl (lv_at hl 7 rfl) ?_
                  refine lv_bipush (v := 104) hx hb dX12_lock_143 (by decide) ?_
                  refine lv_bipush (v := 24) hx hb dX12_lock_145 (by decide) ?_
                  refine lv_iload hx hb dX12_lock_147 (lv_at hl 2 rfl) ?_
                  refine lv_imul hx hb dX12_lock_149 ?_
                  refine w_nmi hw (fun z45 hw => ?_)
                  refine lv_iadd hx hb dX12_lock_150 ?_
                  refine w_nmi hw (fun z46 hw => ?_)
                  refine lv_iconst (v := 4) hx hb dX12_lock_151 (by decide) ?_
                  refine w_cVl (As := [.int z46, .int 4]) (rest := []) hF hH hA mv_X12_364 (fun sz => c_X12_number l D t h0 L _ hH.2 z46 4 _ hw sz) dX12_lock_152 rfl rfl (by decide) rfl hl.1 (Nat.le_of_ble_eq_true rfl) (by decide) rfl (fun z48 σ47 H locs hw hH => ?_)
                  refine lv_lstore (lv' := [(10, .long z48), (8, .long z44), (6, .long z40), (5, .int x24.1), (4, .int x24.2), (3, .int x19), (2, .int z4), (1, .int z2), (0, .ref h0)]) hx hb dX12_lock_155 hl (by decide) rfl (fun ls hl => ?_)
                  refine lv_iload hx hb dX12_lock_157 (lv_at hl 4 rfl) ?_
                  obtain ⟨K51, hK52, hw⟩ := jn_open hw
                  refine w_join (K := K51) 189 (fun (x49 : Int32) => [(10, .long z48), (5, .int x24.1), (3, .int x19), (2, .int z4), (1, .int z2), (0, .ref h0)]) (fun (x49 : Int32) => [.int x49]) hl hH (fun x49 σ50 ls H locs hl hw hH => ?_) (fun jn53 => ?_)
                  · have hw := hK52 x49 σ50 hw
                    have hl : lv_has ls 12 [(10, .long z48), (5, .int x24.1), (3, .int x19), (2, .int z4), (1, .int z2), (0, .ref h0)] := hl
                    refine lv_istore (lv' := [(4, .int x49), (10, .long z48), (5, .int x24.1), (3, .int x19), (2, .int z4), (1, .int z2), (0, .ref h0)]) hx hb dX12_lock_189 hl (by decide) rfl (fun ls hl => ?_)
                    refine lv_iload hx hb dX12_lock_191 (lv_at hl 0 rfl) ?_
                    obtain ⟨K56, hK57, hw⟩ := jn_open hw
                    refine w_join (K := K56) 256 (fun (x54 : Int32) => [(5, .int x24.1), (3, .int x19), (2, .int z4), (1, .int z2), (0, .ref h0)]) (fun (x54 : Int32) => [.int x54]) hl hH (fun x54 σ55 ls H locs hl hw hH => ?_) (fun jn58 => ?_)
                    · have hw := hK57 x54 σ55 hw
                      have hl : lv_has ls 12 [(5, .int x24.1), (3, .int x19), (2, .int z4), (1, .int z2), (0, .ref h0)] := hl
                      refine lv_istore (lv' := [(4, .int x54), (5, .int x24.1), (3, .int x19), (2, .int z4), (1, .int z2), (0, .ref h0)]) hx hb dX12_lock_256 hl (by decide) rfl (fun ls hl => ?_)
                      obtain ⟨z59, ez59⟩ : ∃ z : Int32, z = x24.1 + 1 := ⟨_, rfl⟩
                      have hw := hw z59 ez59
                      refine lv_iinc (lv' := [(5, .int z59), (4, .int x54), (3, .int x19), (2, .int z4), (1, .int z2), (0, .ref h0)]) (k := 1) (v := z59) hx hb dX12_lock_258 hl rfl ez59.symm (by decide) rfl (fun ls hl => ?_)
                      refine lv_goto (tgt := 104) hx hb dX12_lock_261 rfl ?_
                      exact ih27 (z59, x54) σ55 ls _ _ hl hw hH
                    · skip
                      obtain ⟨K62, hK63, hw⟩ := jn_open hw
                      refine w_join (K := K62) 255 (fun (x60 : Unit) => [(5, .int x24.1), (3, .int x19), (2, .int z4), (1, .int z2), (0, .ref h0)]) (fun (x60 : Unit) => []) hl hH (fun x60 σ61 ls H locs hl hw hH => ?_) (fun jn64 => ?_)
                      · have hw := hK63 x60 σ61 hw
                        have hl : lv_has ls 12 [(5, .int x24.1), (3, .int x19), (2, .int z4), (1, .int z2), (0, .ref h0)] := hl
                        refine lv_iconst (v := 0) hx hb dX12_lock_255 (by decide) ?_
                        exact jn58 0 σ61 ls _ _ hl hw hH
                      · skip
                        refine w_if_eq (tgt := 255) hF dX12_lock_193 rfl hw (fun hw => ?_) (fun hw => ?_)
                        · have hl : lv_has ls 12 [(5, .int x24.1), (3, .int x19), (2, .int z4), (1, .int z2), (0, .ref h0)] := lv_sub hl [2, 3, 4, 5, 6] rfl
                          exact jn64 () σ50 ls _ _ hl hw hH
                        · refine lv_iload_n hx hb dX12_lock_196 rfl (lv_at hl 3 rfl) ?_
                          obtain ⟨K67, hK68, hw⟩ := jn_open hw
                          refine w_join (K := K67) 251 (fun (x65 : Unit) => [(5, .int x24.1), (3, .int x19), (2, .int z4), (1, .int z2), (0, .ref h0)]) (fun (x65 : Unit) => []) hl hH (fun x65 σ66 ls H locs hl hw hH => ?_) (fun jn69 => ?_)
                          · have hw := hK68 x65 σ66 hw
                            have hl : lv_has ls 12 [(5, .int x24.1), (3, .int x19), (2, .int z4), (1, .int z2), (0, .ref h0)] := hl
                            refine lv_iconst (v := 1) hx hb dX12_lock_251 (by decide) ?_
                            refine lv_goto (tgt := 256) hx hb dX12_lock_252 rfl ?_
                            exact jn58 1 σ66 ls _ _ hl hw hH
                          · skip
                            refine w_if_eq (tgt := 212) hF dX12_lock_197 rfl hw (fun hw => ?_) (fun hw => ?_)
                            · refine lv_lload hx hb dX12_lock_212 (lv_at hl 1 rfl) ?_
                              refine lv_ldc2 (v := 17) hx hb hF.1.2.2.2.1 (hF.1.2.2.2.2 _ (wc_55 17 rfl)) dX12_lock_214 ?_
                              refine w_lif_eq (tgt := 251) hF dX12_lock_217 dX12_lock_218 rfl hw (fun hw => ?_) (fun hw => ?_)
                              · have hl : lv_has ls 12 [(5, .int x24.1), (3, .int x19), (2, .int z4), (1, .int z2), (0, .ref h0)] := lv_sub hl [2, 3, 4, 5, 6] rfl
                                exact jn69 () σ50 ls _ _ hl hw hH
                              · refine lv_lload hx hb dX12_lock_221 (lv_at hl 1 rfl) ?_
                                refine lv_ldc2 (v := 18) hx hb hF.1.2.2.2.1 (hF.1.2.2.2.2 _ (wc_55 19 rfl)) dX12_lock_223 ?_
                                refine w_lif_eq (tgt := 251) hF dX12_lock_226 dX12_lock_227 rfl hw (fun hw => ?_) (fun hw => ?_)
                                · have hl : lv_has ls 12 [(5, .int x24.1), (3, .int x19), (2, .int z4), (1, .int z2), (0, .ref h0)] := lv_sub hl [2, 3, 4, 5, 6] rfl
                                  exact jn69 () σ50 ls _ _ hl hw hH
                                · refine lv_iload_n hx hb dX12_lock_230 rfl (lv_at hl 5 rfl) ?_
                                  refine lv_iconst (v := 1) hx hb dX12_lock_231 (by decide) ?_
                                  refine w_icmp_ne (tgt := 255) hF dX12_lock_232 rfl hw (fun hw => ?_) (fun hw => ?_)
                                  · have hl : lv_has ls 12 [(5, .int x24.1), (3, .int x19), (2, .int z4), (1, .int z2), (0, .ref h0)] := lv_sub hl [2, 3, 4, 5, 6] rfl
                                    exact jn64 () σ50 ls _ _ hl hw hH
                                  · refine lv_lload hx hb dX12_lock_235 (lv_at hl 1 rfl) ?_
                                    refine lv_lconst (v := 1) hx hb dX12_lock_237 (by decide) ?_
                                    refine w_lif_eq (tgt := 251) hF dX12_lock_238 dX12_lock_239 rfl hw (fun hw => ?_) (fun hw => ?_)
                                    · have hl : lv_has ls 12 [(5, .int x24.1), (3, .int x19), (2, .int z4), (1, .int z2), (0, .ref h0)] := lv_sub hl [2, 3, 4, 5, 6] rfl
                                      exact jn69 () σ50 ls _ _ hl hw hH
                                    · refine lv_lload hx hb dX12_lock_242 (lv_at hl 1 rfl) ?_
                                      refine lv_ldc2 (v := 2) hx hb hF.1.2.2.2.1 (hF.1.2.2.2.2 _ (wc_51 22 rfl)) dX12_lock_244 ?_
                                      refine w_lif_ne (tgt := 255) hF dX12_lock_247 dX12_lock_248 rfl hw (fun hw => ?_) (fun hw => ?_)
                                      · have hl : lv_has ls 12 [(5, .int x24.1), (3, .int x19), (2, .int z4), (1, .int z2), (0, .ref h0)] := lv_sub hl [2, 3, 4, 5, 6] rfl
                                        exact jn64 () σ50 ls _ _ hl hw hH
                                      · have hl : lv_has ls 12 [(5, .int x24.1), (3, .int x19), (2, .int z4), (1, .int z2), (0, .ref h0)] := lv_sub hl [2, 3, 4, 5, 6] rfl
                                        exact jn69 () σ50 ls _ _ hl hw hH
                            · refine lv_lload hx hb dX12_lock_200 (lv_at hl 1 rfl) ?_
                              refine lv_ldc2 (v := 4) hx hb hF.1.2.2.2.1 (hF.1.2.2.2.2 _ (wc_47 22 rfl)) dX12_lock_202 ?_
                              refine w_lif_ne (tgt := 255) hF dX12_lock_205 dX12_lock_206 rfl hw (fun hw => ?_) (fun hw => ?_)
                              · have hl : lv_has ls 12 [(5, .int x24.1), (3, .int x19), (2, .int z4), (1, .int z2), (0, .ref h0)] := lv_sub hl [2, 3, 4, 5, 6] rfl
                                exact jn64 () σ50 ls _ _ hl hw hH
                              · refine lv_goto (tgt := 251) hx hb dX12_lock_209 rfl ?_
                                have hl : lv_has ls 12 [(5, .int x24.1), (3, .int x19), (2, .int z4), (1, .int z2), (0, .ref h0)] := lv_sub hl [2, 3, 4, 5, 6] rfl
                                exact jn69 () σ50 ls _ _ hl hw hH
                  · skip
                    obtain ⟨K72, hK73, hw⟩ := jn_open hw
                    refine w_join (K := K72) 188 (fun (x70 : Unit) => [(10, .long z48), (5, .int x24.1), (3, .int x19), (2, .int z4), (1, .int z2), (0, .ref h0)]) (fun (x70 : Unit) => []) hl hH (fun x70 σ71 ls H locs hl hw hH => ?_) (fun jn74 => ?_)
                    · have hw := hK73 x70 σ71 hw
                      have hl : lv_has ls 12 [(10, .long z48), (5, .int x24.1), (3, .int x19), (2, .int z4), (1, .int z2), (0, .ref h0)] := hl
                      refine lv_iconst (v := 0) hx hb dX12_lock_188 (by decide) ?_
                      exact jn53 0 σ71 ls _ _ hl hw hH
                    · skip
                      refine w_if_eq (tgt := 188) hF dX12_lock_159 rfl hw (fun hw => ?_) (fun hw => ?_)
                      · have hl : lv_has ls 12 [(10, .long z48), (5, .int x24.1), (3, .int x19), (2, .int z4), (1, .int z2), (0, .ref h0)] := lv_sub hl [0, 3, 5, 6, 7, 8] rfl
                        exact jn74 () σ47 ls _ _ hl hw hH
                      · refine lv_lload hx hb dX12_lock_162 (lv_at hl 1 rfl) ?_
                        refine lv_lconst (v := 0) hx hb dX12_lock_164 (by decide) ?_
                        obtain ⟨K77, hK78, hw⟩ := jn_open hw
                        refine w_join (K := K77) 184 (fun (x75 : Unit) => [(10, .long z48), (5, .int x24.1), (3, .int x19), (2, .int z4), (1, .int z2), (0, .ref h0)]) (fun (x75 : Unit) => []) hl hH (fun x75 σ76 ls H locs hl hw hH => ?_) (fun jn79 => ?_)
                        · have hw := hK78 x75 σ76 hw
                          have hl : lv_has ls 12 [(10, .long z48), (5, .int x24.1), (3, .int x19), (2, .int z4), (1, .int z2), (0, .ref h0)] := hl
                          refine lv_iconst (v := 1) hx hb dX12_lock_184 (by decide) ?_
                          refine lv_goto (tgt := 189) hx hb dX12_lock_185 rfl ?_
                          exact jn53 1 σ76 ls _ _ hl hw hH
                        · skip
                          refine w_lif_eq (tgt := 184) hF dX12_lock_165 dX12_lock_166 rfl hw (fun hw => ?_) (fun hw => ?_)
                          · have hl : lv_has ls 12 [(10, .long z48), (5, .int x24.1), (3, .int x19), (2, .int z4), (1, .int z2), (0, .ref h0)] := lv_sub hl [0, 3, 5, 6, 7, 8] rfl
                            exact jn79 () σ47 ls _ _ hl hw hH
                          · refine lv_lload hx hb dX12_lock_169 (lv_at hl 2 rfl) ?_
                            refine lv_lload hx hb dX12_lock_171 (lv_at hl 1 rfl) ?_
                            refine lv_ladd hx hb dX12_lock_173 ?_
                            refine w_nml hw (fun z80 hw => ?_)
                            refine lv_lconst (v := 1) hx hb dX12_lock_174 (by decide) ?_
                            refine lv_lsub hx hb dX12_lock_175 ?_
                            refine w_nml hw (fun z81 hw => ?_)
                            refine lv_lload hx hb dX12_lock_176 (lv_at hl 2 rfl) ?_
                            refine w_cSi (As := [.long z81, .long z40]) (rest := []) hF hH hA ms_X12_763 (fun sz => c_X12_isLess l D t h0 L _ hH.2 z81 z40 _ hw sz) dX12_lock_178 rfl rfl (by decide) rfl hl.1 (Nat.le_of_ble_eq_true rfl) (by decide) rfl (fun z83 σ82 H locs hw hH => ?_)
                            refine w_if_ne (tgt := 188) hF dX12_lock_181 rfl hw (fun hw => ?_) (fun hw => ?_)
                            · have hl : lv_has ls 12 [(10, .long z48), (5, .int x24.1), (3, .int x19), (2, .int z4), (1, .int z2), (0, .ref h0)] := lv_sub hl [0, 3, 5, 6, 7, 8] rfl
                              exact jn74 () σ82 ls _ _ hl hw hH
                            · have hl : lv_has ls 12 [(10, .long z48), (5, .int x24.1), (3, .int x19), (2, .int z4), (1, .int z2), (0, .ref h0)] := lv_sub hl [0, 3, 5, 6, 7, 8] rfl
                              exact jn79 () σ82 ls _ _ hl hw hH
              · skip
                refine w_lif_ne (tgt := 96) hF dX12_lock_88 dX12_lock_89 rfl hw (fun hw => ?_) (fun hw => ?_)
                · refine lv_iconst (v := 0) hx hb dX12_lock_96 (by decide) ?_
                  exact jn23 0 σ17 ls _ _ hl hw hH
                · refine lv_iconst (v := 1) hx hb dX12_lock_92 (by decide) ?_
                  refine lv_goto (tgt := 97) hx hb dX12_lock_93 rfl ?_
                  exact jn23 1 σ17 ls _ _ hl hw hH
            · refine lv_ldc2 (v := 3221225506) hx hb hF.1.2.2.2.1 (hF.1.2.2.2.2 _ (wc_53 35 rfl)) dX12_lock_74 ?_
              exact w_retl hF hH hr hlk dX12_lock_77 hw
          · refine lv_ldc2 (v := 3221225658) hx hb hF.1.2.2.2.1 (hF.1.2.2.2.2 _ (wc_54 33 rfl)) dX12_lock_55 ?_
            exact w_retl hF hH hr hlk dX12_lock_58 hw
        · have hl : lv_has ls 12 [] := lv_sub hl [] rfl
          exact jn9 () σ1 ls _ _ hl hw hH
def F_X12_matches (h0 : Nat) (L : Nat → Nat) (a1 : Int32) (a2 : Int32) (a3 : Int32) (post : Int32 → HS → Prop) (σ : HS) : Prop := jn (fun (K3 : Int32 → HS → Prop) => ((a3.toInt ≤ 0) → (0 ≤ a2.toInt ∧ a2.toInt < 160) ∧ ∀ z66 : Int32, z66 = sI σ (L 5) a2.toInt.toNat → K3 z66 σ) ∧ ((0 < a3.toInt) → K3 a3 σ)) (fun (x1 : Int32) (σ2 : HS) => lw (fun (K8 : (Int32 × Int32 × Int32 × Int32) → HS → Prop) (x6 : Int32 × Int32 × Int32 × Int32) (σ7 : HS) => ((x1.toInt ≤ x6.2.2.1.toInt) → lw (fun (K12 : Int32 → HS → Prop) (x10 : Int32) (σ11 : HS) => (0 ≤ a1.toInt ∧ a1.toInt < 40) ∧ ∀ z14 : Int32, z14 = sI σ11 (L 51) a1.toInt.toNat → jn (fun (K17 : Unit → HS → Prop) => ((z14.toInt ≤ x10.toInt) → K17 () σ11) ∧ ((x10.toInt < z14.toInt) → ∀ z26 : Int32, z26 = 20 * a1 → ∀ z27 : Int32, z27 = z26 + x10 → (0 ≤ z27.toInt ∧ z27.toInt < 800) ∧ ∀ z28 : Int32, z28 = sI σ11 (L 52) z27.toInt.toNat → ((¬ z28.toInt = (42 : Int32).toInt) → K17 () σ11) ∧ ((z28.toInt = (42 : Int32).toInt) → ∀ z29 : Int32, z29 = x10 + 1 → K12 z29 σ11))) (fun (x15 : Unit) (σ16 : HS) => (0 ≤ a1.toInt ∧ a1.toInt < 40) ∧ ∀ z20 : Int32, z20 = sI σ16 (L 51) a1.toInt.toNat → jn (fun (K23 : Int32 → HS → Prop) => ((¬ x10.toInt = z20.toInt) → K23 0 σ16) ∧ ((x10.toInt = z20.toInt) → K23 1 σ16)) (fun (x21 : Int32) (σ22 : HS) => (0 ≤ x21.toInt ∧ x21.toInt ≤ 1) ∧ post x21 σ22))) x6.2.2.2 σ7) ∧ ((x6.2.2.1.toInt < x1.toInt) → jn (fun (K32 : Int32 → HS → Prop) => ((a3.toInt ≤ 0) → ∀ z61 : Int32, z61 = 12 * a2 → ∀ z62 : Int32, z62 = z61 + x6.2.2.1 → (0 ≤ z62.toInt ∧ z62.toInt < 1920) ∧ ∀ z63 : Int32, z63 = sI σ7 (L 4) z62.toInt.toNat → F_X12_folded h0 L z63 (fun (z65 : Int32) (σ64 : HS) => K32 z65 σ64) σ7) ∧ ((0 < a3.toInt) → K32 46 σ7)) (fun (x30 : Int32) (σ31 : HS) => (0 ≤ a1.toInt ∧ a1.toInt < 40) ∧ ∀ z35 : Int32, z35 = sI σ31 (L 51) a1.toInt.toNat → jn (fun (K38 : Int32 → HS → Prop) => ((z35.toInt ≤ x6.2.2.2.toInt) → K38 (-1) σ31) ∧ ((x6.2.2.2.toInt < z35.toInt) → ∀ z56 : Int32, z56 = 20 * a1 → ∀ z57 : Int32, z57 = z56 + x6.2.2.2 → (0 ≤ z57.toInt ∧ z57.toInt < 800) ∧ ∀ z58 : Int32, z58 = sI σ31 (L 52) z57.toInt.toNat → F_X12_folded h0 L z58 (fun (z60 : Int32) (σ59 : HS) => K38 z60 σ59) σ31)) (fun (x36 : Int32) (σ37 : HS) => jn (fun (K43 : (Int32 × Int32 × Int32 × Int32) → HS → Prop) => ((¬ x36.toInt = (42 : Int32).toInt) → jn (fun (K48 : Unit → HS → Prop) => ((x36.toInt = (63 : Int32).toInt) → K48 () σ37) ∧ ((¬ x36.toInt = (63 : Int32).toInt) → ((¬ x36.toInt = x30.toInt) → ((x6.2.1.toInt < 0) → (0 ≤ (0 : Int32).toInt ∧ (0 : Int32).toInt ≤ 1) ∧ post 0 σ37) ∧ ((0 ≤ x6.2.1.toInt) → ∀ z53 : Int32, z53 = x6.1 + 1 → ∀ z54 : Int32, z54 = x6.2.1 + 1 → K43 (z53, x6.2.1, z53, z54) σ37)) ∧ ((x36.toInt = x30.toInt) → K48 () σ37))) (fun (x46 : Unit) (σ47 : HS) => ∀ z51 : Int32, z51 = x6.2.2.2 + 1 → ∀ z52 : Int32, z52 = x6.2.2.1 + 1 → K43 (x6.1, x6.2.1, z52, z51) σ47)) ∧ ((x36.toInt = (42 : Int32).toInt) → ∀ z55 : Int32, z55 = x6.2.2.2 + 1 → K43 (x6.2.2.1, x6.2.2.2, x6.2.2.1, z55) σ37)) (fun (x41 : Int32 × Int32 × Int32 × Int32) (σ42 : HS) => K8 (x41.1, x41.2.1, x41.2.2.1, x41.2.2.2) σ42))))) (0, (-1), 0, 0) σ2)
theorem dX12_matches_0 : decode cX12_matches 0 = .ok (.iload_n 3, 1) := by decide +kernel
theorem dX12_matches_1 : decode cX12_matches 1 = .ok (.ifCond .le 7, 3) := by decide +kernel
theorem dX12_matches_4 : decode cX12_matches 4 = .ok (.iload_n 3, 1) := by decide +kernel
theorem dX12_matches_5 : decode cX12_matches 5 = .ok (.goto 9, 3) := by decide +kernel
theorem dX12_matches_8 : decode cX12_matches 8 = .ok (.aload_n 0, 1) := by decide +kernel
theorem dX12_matches_9 : decode cX12_matches 9 = .ok (.getfield 27, 3) := by decide +kernel
theorem dX12_matches_12 : decode cX12_matches 12 = .ok (.iload_n 2, 1) := by decide +kernel
theorem dX12_matches_13 : decode cX12_matches 13 = .ok (.iaload, 1) := by decide +kernel
theorem dX12_matches_14 : decode cX12_matches 14 = .ok (.istore 4, 2) := by decide +kernel
theorem dX12_matches_16 : decode cX12_matches 16 = .ok (.iconst 0, 1) := by decide +kernel
theorem dX12_matches_17 : decode cX12_matches 17 = .ok (.istore 5, 2) := by decide +kernel
theorem dX12_matches_19 : decode cX12_matches 19 = .ok (.iconst 0, 1) := by decide +kernel
theorem dX12_matches_20 : decode cX12_matches 20 = .ok (.istore 6, 2) := by decide +kernel
theorem dX12_matches_22 : decode cX12_matches 22 = .ok (.iconst (-1), 1) := by decide +kernel
theorem dX12_matches_23 : decode cX12_matches 23 = .ok (.istore 7, 2) := by decide +kernel
theorem dX12_matches_25 : decode cX12_matches 25 = .ok (.iconst 0, 1) := by decide +kernel
theorem dX12_matches_26 : decode cX12_matches 26 = .ok (.istore 8, 2) := by decide +kernel
theorem dX12_matches_28 : decode cX12_matches 28 = .ok (.iload 6, 2) := by decide +kernel
theorem dX12_matches_30 : decode cX12_matches 30 = .ok (.iload 4, 2) := by decide +kernel
theorem dX12_matches_32 : decode cX12_matches 32 = .ok (.if_icmp .ge 131, 3) := by decide +kernel
theorem dX12_matches_35 : decode cX12_matches 35 = .ok (.iload_n 3, 1) := by decide +kernel
theorem dX12_matches_36 : decode cX12_matches 36 = .ok (.ifCond .le 8, 3) := by decide +kernel
theorem dX12_matches_39 : decode cX12_matches 39 = .ok (.bipush 46, 2) := by decide +kernel
theorem dX12_matches_41 : decode cX12_matches 41 = .ok (.goto 18, 3) := by decide +kernel
theorem dX12_matches_44 : decode cX12_matches 44 = .ok (.aload_n 0, 1) := by decide +kernel
theorem dX12_matches_45 : decode cX12_matches 45 = .ok (.getfield 24, 3) := by decide +kernel
theorem dX12_matches_48 : decode cX12_matches 48 = .ok (.bipush 12, 2) := by decide +kernel
theorem dX12_matches_50 : decode cX12_matches 50 = .ok (.iload_n 2, 1) := by decide +kernel
theorem dX12_matches_51 : decode cX12_matches 51 = .ok (.imul, 1) := by decide +kernel
theorem dX12_matches_52 : decode cX12_matches 52 = .ok (.iload 6, 2) := by decide +kernel
theorem dX12_matches_54 : decode cX12_matches 54 = .ok (.iadd, 1) := by decide +kernel
theorem dX12_matches_55 : decode cX12_matches 55 = .ok (.baload, 1) := by decide +kernel
theorem dX12_matches_56 : decode cX12_matches 56 = .ok (.invokestatic 311, 3) := by decide +kernel
theorem dX12_matches_59 : decode cX12_matches 59 = .ok (.istore 9, 2) := by decide +kernel
theorem dX12_matches_61 : decode cX12_matches 61 = .ok (.iload 5, 2) := by decide +kernel
theorem dX12_matches_63 : decode cX12_matches 63 = .ok (.aload_n 0, 1) := by decide +kernel
theorem dX12_matches_64 : decode cX12_matches 64 = .ok (.getfield 169, 3) := by decide +kernel
theorem dX12_matches_67 : decode cX12_matches 67 = .ok (.iload_n 1, 1) := by decide +kernel
theorem dX12_matches_68 : decode cX12_matches 68 = .ok (.iaload, 1) := by decide +kernel
theorem dX12_matches_69 : decode cX12_matches 69 = .ok (.if_icmp .ge 21, 3) := by decide +kernel
theorem dX12_matches_72 : decode cX12_matches 72 = .ok (.aload_n 0, 1) := by decide +kernel
theorem dX12_matches_73 : decode cX12_matches 73 = .ok (.getfield 172, 3) := by decide +kernel
theorem dX12_matches_76 : decode cX12_matches 76 = .ok (.bipush 20, 2) := by decide +kernel
theorem dX12_matches_78 : decode cX12_matches 78 = .ok (.iload_n 1, 1) := by decide +kernel
theorem dX12_matches_79 : decode cX12_matches 79 = .ok (.imul, 1) := by decide +kernel
theorem dX12_matches_80 : decode cX12_matches 80 = .ok (.iload 5, 2) := by decide +kernel
theorem dX12_matches_82 : decode cX12_matches 82 = .ok (.iadd, 1) := by decide +kernel
theorem dX12_matches_83 : decode cX12_matches 83 = .ok (.iaload, 1) := by decide +kernel
theorem dX12_matches_84 : decode cX12_matches 84 = .ok (.invokestatic 311, 3) := by decide +kernel
theorem dX12_matches_87 : decode cX12_matches 87 = .ok (.goto 4, 3) := by decide +kernel
theorem dX12_matches_90 : decode cX12_matches 90 = .ok (.iconst (-1), 1) := by decide +kernel
theorem dX12_matches_91 : decode cX12_matches 91 = .ok (.istore 10, 2) := by decide +kernel
theorem dX12_matches_93 : decode cX12_matches 93 = .ok (.iload 10, 2) := by decide +kernel
theorem dX12_matches_95 : decode cX12_matches 95 = .ok (.bipush 42, 2) := by decide +kernel
theorem dX12_matches_97 : decode cX12_matches 97 = .ok (.if_icmp .ne 17, 3) := by decide +kernel
theorem dX12_matches_100 : decode cX12_matches 100 = .ok (.iload 5, 2) := by decide +kernel
theorem dX12_matches_102 : decode cX12_matches 102 = .ok (.istore 7, 2) := by decide +kernel
theorem dX12_matches_104 : decode cX12_matches 104 = .ok (.iload 6, 2) := by decide +kernel
theorem dX12_matches_106 : decode cX12_matches 106 = .ok (.istore 8, 2) := by decide +kernel
theorem dX12_matches_108 : decode cX12_matches 108 = .ok (.iinc 5 1, 3) := by decide +kernel
theorem dX12_matches_111 : decode cX12_matches 111 = .ok (.goto 49, 3) := by decide +kernel
theorem dX12_matches_114 : decode cX12_matches 114 = .ok (.iload 10, 2) := by decide +kernel
theorem dX12_matches_116 : decode cX12_matches 116 = .ok (.bipush 63, 2) := by decide +kernel
theorem dX12_matches_118 : decode cX12_matches 118 = .ok (.if_icmp .eq 10, 3) := by decide +kernel
theorem dX12_matches_121 : decode cX12_matches 121 = .ok (.iload 10, 2) := by decide +kernel
theorem dX12_matches_123 : decode cX12_matches 123 = .ok (.iload 9, 2) := by decide +kernel
theorem dX12_matches_125 : decode cX12_matches 125 = .ok (.if_icmp .ne 12, 3) := by decide +kernel
theorem dX12_matches_128 : decode cX12_matches 128 = .ok (.iinc 5 1, 3) := by decide +kernel
theorem dX12_matches_131 : decode cX12_matches 131 = .ok (.iinc 6 1, 3) := by decide +kernel
theorem dX12_matches_134 : decode cX12_matches 134 = .ok (.goto 26, 3) := by decide +kernel
theorem dX12_matches_137 : decode cX12_matches 137 = .ok (.iload 7, 2) := by decide +kernel
theorem dX12_matches_139 : decode cX12_matches 139 = .ok (.ifCond .lt 19, 3) := by decide +kernel
theorem dX12_matches_142 : decode cX12_matches 142 = .ok (.iinc 8 1, 3) := by decide +kernel
theorem dX12_matches_145 : decode cX12_matches 145 = .ok (.iload 8, 2) := by decide +kernel
theorem dX12_matches_147 : decode cX12_matches 147 = .ok (.istore 6, 2) := by decide +kernel
theorem dX12_matches_149 : decode cX12_matches 149 = .ok (.iload 7, 2) := by decide +kernel
theorem dX12_matches_151 : decode cX12_matches 151 = .ok (.iconst 1, 1) := by decide +kernel
theorem dX12_matches_152 : decode cX12_matches 152 = .ok (.iadd, 1) := by decide +kernel
theorem dX12_matches_153 : decode cX12_matches 153 = .ok (.istore 5, 2) := by decide +kernel
theorem dX12_matches_155 : decode cX12_matches 155 = .ok (.goto 5, 3) := by decide +kernel
theorem dX12_matches_158 : decode cX12_matches 158 = .ok (.iconst 0, 1) := by decide +kernel
theorem dX12_matches_159 : decode cX12_matches 159 = .ok (.ireturn, 1) := by decide +kernel
theorem dX12_matches_160 : decode cX12_matches 160 = .ok (.goto (-132), 3) := by decide +kernel
theorem dX12_matches_163 : decode cX12_matches 163 = .ok (.iload 5, 2) := by decide +kernel
theorem dX12_matches_165 : decode cX12_matches 165 = .ok (.aload_n 0, 1) := by decide +kernel
theorem dX12_matches_166 : decode cX12_matches 166 = .ok (.getfield 169, 3) := by decide +kernel
theorem dX12_matches_169 : decode cX12_matches 169 = .ok (.iload_n 1, 1) := by decide +kernel
theorem dX12_matches_170 : decode cX12_matches 170 = .ok (.iaload, 1) := by decide +kernel
theorem dX12_matches_171 : decode cX12_matches 171 = .ok (.if_icmp .ge 26, 3) := by decide +kernel
theorem dX12_matches_174 : decode cX12_matches 174 = .ok (.aload_n 0, 1) := by decide +kernel
theorem dX12_matches_175 : decode cX12_matches 175 = .ok (.getfield 172, 3) := by decide +kernel
theorem dX12_matches_178 : decode cX12_matches 178 = .ok (.bipush 20, 2) := by decide +kernel
theorem dX12_matches_180 : decode cX12_matches 180 = .ok (.iload_n 1, 1) := by decide +kernel
theorem dX12_matches_181 : decode cX12_matches 181 = .ok (.imul, 1) := by decide +kernel
theorem dX12_matches_182 : decode cX12_matches 182 = .ok (.iload 5, 2) := by decide +kernel
theorem dX12_matches_184 : decode cX12_matches 184 = .ok (.iadd, 1) := by decide +kernel
theorem dX12_matches_185 : decode cX12_matches 185 = .ok (.iaload, 1) := by decide +kernel
theorem dX12_matches_186 : decode cX12_matches 186 = .ok (.bipush 42, 2) := by decide +kernel
theorem dX12_matches_188 : decode cX12_matches 188 = .ok (.if_icmp .ne 9, 3) := by decide +kernel
theorem dX12_matches_191 : decode cX12_matches 191 = .ok (.iinc 5 1, 3) := by decide +kernel
theorem dX12_matches_194 : decode cX12_matches 194 = .ok (.goto (-31), 3) := by decide +kernel
theorem dX12_matches_197 : decode cX12_matches 197 = .ok (.iload 5, 2) := by decide +kernel
theorem dX12_matches_199 : decode cX12_matches 199 = .ok (.aload_n 0, 1) := by decide +kernel
theorem dX12_matches_200 : decode cX12_matches 200 = .ok (.getfield 169, 3) := by decide +kernel
theorem dX12_matches_203 : decode cX12_matches 203 = .ok (.iload_n 1, 1) := by decide +kernel
theorem dX12_matches_204 : decode cX12_matches 204 = .ok (.iaload, 1) := by decide +kernel
theorem dX12_matches_205 : decode cX12_matches 205 = .ok (.if_icmp .ne 7, 3) := by decide +kernel
theorem dX12_matches_208 : decode cX12_matches 208 = .ok (.iconst 1, 1) := by decide +kernel
theorem dX12_matches_209 : decode cX12_matches 209 = .ok (.goto 4, 3) := by decide +kernel
theorem dX12_matches_212 : decode cX12_matches 212 = .ok (.iconst 0, 1) := by decide +kernel
theorem dX12_matches_213 : decode cX12_matches 213 = .ok (.ireturn, 1) := by decide +kernel
set_option maxRecDepth 100000 in
set_option maxHeartbeats 4000000 in
theorem c_X12_matches (l : Launch) (D : va_G) (t : Nat → ClassId) (h0 : Nat) (L : Nat → Nat) (σ : HS) (hM : MdI h0 L σ) (a1 : Int32) (a2 : Int32) (a3 : Int32) (post : Int32 → HS → Prop) (hw : F_X12_matches h0 L a1 a2 a3 post σ) (sz : Nat) : RMi l D t yX12_matches cX12_matches 11 (some .boolean) ({ frames := 1, cells := 0, slots := 0, locals := 20 }) h0 L σ sz [.ref h0, .int a1, .int a2, .int a3] post := by
  refine h_go (τ := τT) okT (by decide) (Nat.le_of_ble_eq_true rfl) ?_
  intro p e s m below meth c ls A hF hr hlk hAe hH0 hA hl
  unfold hB
  rw [hAe]
  clear hAe
  have hF : FX p m c cX12_matches 11 s _ RX12 D t := hF
  have hx := hF.1.1
  have hb := hF.1.2.1
  have hH : RT D t A s.heap h0 L σ s.heap [] := ⟨hH0, hM⟩
  have hl : lv_has ls 11 [(0, .ref h0), (1, .int a1), (2, .int a2), (3, .int a3)] := hl
  unfold F_X12_matches at hw
  refine lv_iload_n hx hb dX12_matches_0 rfl (lv_at hl 3 rfl) ?_
  obtain ⟨K3, hK4, hw⟩ := jn_open hw
  refine w_join (K := K3) 14 (fun (x1 : Int32) => [(3, .int a3), (2, .int a2), (1, .int a1), (0, .ref h0)]) (fun (x1 : Int32) => [.int x1]) hl hH (fun x1 σ2 ls H locs hl hw hH => ?_) (fun jn5 => ?_)
  · have hw := hK4 x1 σ2 hw
    have hl : lv_has ls 11 [(3, .int a3), (2, .int a2), (1, .int a1), (0, .ref h0)] := hl
    refine lv_istore (lv' := [(4, .int x1), (3, .int a3), (2, .int a2), (1, .int a1), (0, .ref h0)]) hx hb dX12_matches_14 hl (by decide) rfl (fun ls hl => ?_)
    refine lv_iconst (v := 0) hx hb dX12_matches_16 (by decide) ?_
    refine lv_istore (lv' := [(5, .int 0), (4, .int x1), (3, .int a3), (2, .int a2), (1, .int a1), (0, .ref h0)]) hx hb dX12_matches_17 hl (by decide) rfl (fun ls hl => ?_)
    refine lv_iconst (v := 0) hx hb dX12_matches_19 (by decide) ?_
    refine lv_istore (lv' := [(6, .int 0), (5, .int 0), (4, .int x1), (3, .int a3), (2, .int a2), (1, .int a1), (0, .ref h0)]) hx hb dX12_matches_20 hl (by decide) rfl (fun ls hl => ?_)
    refine lv_iconst (v := (-1)) hx hb dX12_matches_22 (by decide) ?_
    refine lv_istore (lv' := [(7, .int (-1)), (6, .int 0), (5, .int 0), (4, .int x1), (3, .int a3), (2, .int a2), (1, .int a1), (0, .ref h0)]) hx hb dX12_matches_23 hl (by decide) rfl (fun ls hl => ?_)
    refine lv_iconst (v := 0) hx hb dX12_matches_25 (by decide) ?_
    refine lv_istore (lv' := [(8, .int 0), (7, .int (-1)), (6, .int 0), (5, .int 0), (4, .int x1), (3, .int a3), (2, .int a2), (1, .int a1), (0, .ref h0)]) hx hb dX12_matches_26 hl (by decide) rfl (fun ls hl => ?_)
    refine w_loop (β := Int32 × Int32 × Int32 × Int32) (fun x6 => [(8, .int x6.1), (7, .int x6.2.1), (6, .int x6.2.2.1), (5, .int x6.2.2.2), (4, .int x1), (3, .int a3), (2, .int a2), (1, .int a1), (0, .ref h0)]) (0, (-1), 0, 0) hl hw hH (fun K8 x6 σ7 ls H locs hl hw hH ih9 => ?_)
    have hl : lv_has ls 11 [(8, .int x6.1), (7, .int x6.2.1), (6, .int x6.2.2.1), (5, .int x6.2.2.2), (4, .int x1), (3, .int a3), (2, .int a2), (1, .int a1), (0, .ref h0)] := hl
    refine lv_iload hx hb dX12_matches_28 (lv_at hl 2 rfl) ?_
    refine lv_iload hx hb dX12_matches_30 (lv_at hl 4 rfl) ?_
    refine w_icmp_ge (tgt := 163) hF dX12_matches_32 rfl hw (fun hw => ?_) (fun hw => ?_)
    · have hl : lv_has ls 11 [(5, .int x6.2.2.2), (1, .int a1), (0, .ref h0)] := lv_sub hl [3, 7, 8] rfl
      refine w_loop (β := Int32) (fun x10 => [(5, .int x10), (1, .int a1), (0, .ref h0)]) x6.2.2.2 hl hw hH (fun K12 x10 σ11 ls H locs hl hw hH ih13 => ?_)
      have hl : lv_has ls 11 [(5, .int x10), (1, .int a1), (0, .ref h0)] := hl
      refine lv_iload hx hb dX12_matches_163 (lv_at hl 0 rfl) ?_
      refine lv_aload_n hx hb dX12_matches_165 rfl (lv_at hl 2 rfl) ?_
      refine w_getA 51 hF hH fk_X12_169 dX12_matches_166 (by decide) rfl ?_
      refine lv_iload_n hx hb dX12_matches_169 rfl (lv_at hl 1 rfl) ?_
      refine w_iald 51 40 hF hH dX12_matches_170 (by decide) rfl rfl hw (fun z14 hw => ?_)
      obtain ⟨K17, hK18, hw⟩ := jn_open hw
      refine w_join (K := K17) 197 (fun (x15 : Unit) => [(5, .int x10), (1, .int a1), (0, .ref h0)]) (fun (x15 : Unit) => []) hl hH (fun x15 σ16 ls H locs hl hw hH => ?_) (fun jn19 => ?_)
      · have hw := hK18 x15 σ16 hw
        have hl : lv_has ls 11 [(5, .int x10), (1, .int a1), (0, .ref h0)] := hl
        refine lv_iload hx hb dX12_matches_197 (lv_at hl 0 rfl) ?_
        refine lv_aload_n hx hb dX12_matches_199 rfl (lv_at hl 2 rfl) ?_
        refine w_getA 51 hF hH fk_X12_169 dX12_matches_200 (by decide) rfl ?_
        refine lv_iload_n hx hb dX12_matches_203 rfl (lv_at hl 1 rfl) ?_
        refine w_iald 51 40 hF hH dX12_matches_204 (by decide) rfl rfl hw (fun z20 hw => ?_)
        obtain ⟨K23, hK24, hw⟩ := jn_open hw
        refine w_join (K := K23) 213 (fun (x21 : Int32) => []) (fun (x21 : Int32) => [.int x21]) hl hH (fun x21 σ22 ls H locs hl hw hH => ?_) (fun jn25 => ?_)
        · have hw := hK24 x21 σ22 hw
          have hl : lv_has ls 11 [] := hl
          exact w_retz hF hH hr hlk dX12_matches_213 hw
        · skip
          refine w_icmp_ne (tgt := 212) hF dX12_matches_205 rfl hw (fun hw => ?_) (fun hw => ?_)
          · refine lv_iconst (v := 0) hx hb dX12_matches_212 (by decide) ?_
            have hl : lv_has ls 11 [] := lv_sub hl [] rfl
            exact jn25 0 σ16 ls _ _ hl hw hH
          · refine lv_iconst (v := 1) hx hb dX12_matches_208 (by decide) ?_
            refine lv_goto (tgt := 213) hx hb dX12_matches_209 rfl ?_
            have hl : lv_has ls 11 [] := lv_sub hl [] rfl
            exact jn25 1 σ16 ls _ _ hl hw hH
      · skip
        refine w_icmp_ge (tgt := 197) hF dX12_matches_171 rfl hw (fun hw => ?_) (fun hw => ?_)
        · exact jn19 () σ11 ls _ _ hl hw hH
        · refine lv_aload_n hx hb dX12_matches_174 rfl (lv_at hl 2 rfl) ?_
          refine w_getA 52 hF hH fk_X12_172 dX12_matches_175 (by decide) rfl ?_
          refine lv_bipush (v := 20) hx hb dX12_matches_178 (by decide) ?_
          refine lv_iload_n hx hb dX12_matches_180 rfl (lv_at hl 1 rfl) ?_
          refine lv_imul hx hb dX12_matches_181 ?_
          refine w_nmi hw (fun z26 hw => ?_)
          refine lv_iload hx hb dX12_matches_182 (lv_at hl 0 rfl) ?_
          refine lv_iadd hx hb dX12_matches_184 ?_
          refine w_nmi hw (fun z27 hw => ?_)
          refine w_iald 52 800 hF hH dX12_matches_185 (by decide) rfl rfl hw (fun z28 hw => ?_)
          refine lv_bipush (v := 42) hx hb dX12_matches_186 (by decide) ?_
          refine w_icmp_ne (tgt := 197) hF dX12_matches_188 rfl hw (fun hw => ?_) (fun hw => ?_)
          · exact jn19 () σ11 ls _ _ hl hw hH
          · obtain ⟨z29, ez29⟩ : ∃ z : Int32, z = x10 + 1 := ⟨_, rfl⟩
            have hw := hw z29 ez29
            refine lv_iinc (lv' := [(5, .int z29), (1, .int a1), (0, .ref h0)]) (k := 0) (v := z29) hx hb dX12_matches_191 hl rfl ez29.symm (by decide) rfl (fun ls hl => ?_)
            refine lv_goto (tgt := 163) hx hb dX12_matches_194 rfl ?_
            exact ih13 z29 σ11 ls _ _ hl hw hH
    · refine lv_iload_n hx hb dX12_matches_35 rfl (lv_at hl 5 rfl) ?_
      obtain ⟨K32, hK33, hw⟩ := jn_open hw
      refine w_join (K := K32) 59 (fun (x30 : Int32) => [(8, .int x6.1), (7, .int x6.2.1), (6, .int x6.2.2.1), (5, .int x6.2.2.2), (4, .int x1), (3, .int a3), (2, .int a2), (1, .int a1), (0, .ref h0)]) (fun (x30 : Int32) => [.int x30]) hl hH (fun x30 σ31 ls H locs hl hw hH => ?_) (fun jn34 => ?_)
      · have hw := hK33 x30 σ31 hw
        have hl : lv_has ls 11 [(8, .int x6.1), (7, .int x6.2.1), (6, .int x6.2.2.1), (5, .int x6.2.2.2), (4, .int x1), (3, .int a3), (2, .int a2), (1, .int a1), (0, .ref h0)] := hl
        refine lv_istore (lv' := [(9, .int x30), (8, .int x6.1), (7, .int x6.2.1), (6, .int x6.2.2.1), (5, .int x6.2.2.2), (4, .int x1), (3, .int a3), (2, .int a2), (1, .int a1), (0, .ref h0)]) hx hb dX12_matches_59 hl (by decide) rfl (fun ls hl => ?_)
        refine lv_iload hx hb dX12_matches_61 (lv_at hl 4 rfl) ?_
        refine lv_aload_n hx hb dX12_matches_63 rfl (lv_at hl 9 rfl) ?_
        refine w_getA 51 hF hH fk_X12_169 dX12_matches_64 (by decide) rfl ?_
        refine lv_iload_n hx hb dX12_matches_67 rfl (lv_at hl 8 rfl) ?_
        refine w_iald 51 40 hF hH dX12_matches_68 (by decide) rfl rfl hw (fun z35 hw => ?_)
        obtain ⟨K38, hK39, hw⟩ := jn_open hw
        refine w_join (K := K38) 91 (fun (x36 : Int32) => [(9, .int x30), (8, .int x6.1), (7, .int x6.2.1), (6, .int x6.2.2.1), (5, .int x6.2.2.2), (4, .int x1), (3, .int a3), (2, .int a2), (1, .int a1), (0, .ref h0)]) (fun (x36 : Int32) => [.int x36]) hl hH (fun x36 σ37 ls H locs hl hw hH => ?_) (fun jn40 => ?_)
        · have hw := hK39 x36 σ37 hw
          have hl : lv_has ls 11 [(9, .int x30), (8, .int x6.1), (7, .int x6.2.1), (6, .int x6.2.2.1), (5, .int x6.2.2.2), (4, .int x1), (3, .int a3), (2, .int a2), (1, .int a1), (0, .ref h0)] := hl
          refine lv_istore (lv' := [(10, .int x36), (9, .int x30), (8, .int x6.1), (7, .int x6.2.1), (6, .int x6.2.2.1), (5, .int x6.2.2.2), (4, .int x1), (3, .int a3), (2, .int a2), (1, .int a1), (0, .ref h0)]) hx hb dX12_matches_91 hl (by decide) rfl (fun ls hl => ?_)
          refine lv_iload hx hb dX12_matches_93 (lv_at hl 0 rfl) ?_
          refine lv_bipush (v := 42) hx hb dX12_matches_95 (by decide) ?_
          obtain ⟨K43, hK44, hw⟩ := jn_open hw
          refine w_join (K := K43) 160 (fun (x41 : Int32 × Int32 × Int32 × Int32) => [(8, .int x41.1), (7, .int x41.2.1), (6, .int x41.2.2.1), (5, .int x41.2.2.2), (4, .int x1), (3, .int a3), (2, .int a2), (1, .int a1), (0, .ref h0)]) (fun (x41 : Int32 × Int32 × Int32 × Int32) => []) hl hH (fun x41 σ42 ls H locs hl hw hH => ?_) (fun jn45 => ?_)
          · have hw := hK44 x41 σ42 hw
            have hl : lv_has ls 11 [(8, .int x41.1), (7, .int x41.2.1), (6, .int x41.2.2.1), (5, .int x41.2.2.2), (4, .int x1), (3, .int a3), (2, .int a2), (1, .int a1), (0, .ref h0)] := hl
            refine lv_goto (tgt := 28) hx hb dX12_matches_160 rfl ?_
            exact ih9 (x41.1, x41.2.1, x41.2.2.1, x41.2.2.2) σ42 ls _ _ hl hw hH
          · skip
            refine w_icmp_ne (tgt := 114) hF dX12_matches_97 rfl hw (fun hw => ?_) (fun hw => ?_)
            · refine lv_iload hx hb dX12_matches_114 (lv_at hl 0 rfl) ?_
              refine lv_bipush (v := 63) hx hb dX12_matches_116 (by decide) ?_
              obtain ⟨K48, hK49, hw⟩ := jn_open hw
              refine w_join (K := K48) 128 (fun (x46 : Unit) => [(8, .int x6.1), (7, .int x6.2.1), (6, .int x6.2.2.1), (5, .int x6.2.2.2), (4, .int x1), (3, .int a3), (2, .int a2), (1, .int a1), (0, .ref h0)]) (fun (x46 : Unit) => []) hl hH (fun x46 σ47 ls H locs hl hw hH => ?_) (fun jn50 => ?_)
              · have hw := hK49 x46 σ47 hw
                have hl : lv_has ls 11 [(8, .int x6.1), (7, .int x6.2.1), (6, .int x6.2.2.1), (5, .int x6.2.2.2), (4, .int x1), (3, .int a3), (2, .int a2), (1, .int a1), (0, .ref h0)] := hl
                obtain ⟨z51, ez51⟩ : ∃ z : Int32, z = x6.2.2.2 + 1 := ⟨_, rfl⟩
                have hw := hw z51 ez51
                refine lv_iinc (lv' := [(5, .int z51), (8, .int x6.1), (7, .int x6.2.1), (6, .int x6.2.2.1), (4, .int x1), (3, .int a3), (2, .int a2), (1, .int a1), (0, .ref h0)]) (k := 3) (v := z51) hx hb dX12_matches_128 hl rfl ez51.symm (by decide) rfl (fun ls hl => ?_)
                obtain ⟨z52, ez52⟩ : ∃ z : Int32, z = x6.2.2.1 + 1 := ⟨_, rfl⟩
                have hw := hw z52 ez52
                refine lv_iinc (lv' := [(6, .int z52), (5, .int z51), (8, .int x6.1), (7, .int x6.2.1), (4, .int x1), (3, .int a3), (2, .int a2), (1, .int a1), (0, .ref h0)]) (k := 3) (v := z52) hx hb dX12_matches_131 hl rfl ez52.symm (by decide) rfl (fun ls hl => ?_)
                refine lv_goto (tgt := 160) hx hb dX12_matches_134 rfl ?_
                have hl : lv_has ls 11 [(8, .int x6.1), (7, .int x6.2.1), (6, .int z52), (5, .int z51), (4, .int x1), (3, .int a3), (2, .int a2), (1, .int a1), (0, .ref h0)] := lv_sub hl [2, 3, 0, 1, 4, 5, 6, 7, 8] rfl
                exact jn45 (x6.1, x6.2.1, z52, z51) σ47 ls _ _ hl hw hH
              · skip
                refine w_icmp_eq (tgt := 128) hF dX12_matches_118 rfl hw (fun hw => ?_) (fun hw => ?_)
                · have hl : lv_has ls 11 [(8, .int x6.1), (7, .int x6.2.1), (6, .int x6.2.2.1), (5, .int x6.2.2.2), (4, .int x1), (3, .int a3), (2, .int a2), (1, .int a1), (0, .ref h0)] := lv_sub hl [2, 3, 4, 5, 6, 7, 8, 9, 10] rfl
                  exact jn50 () σ37 ls _ _ hl hw hH
                · refine lv_iload hx hb dX12_matches_121 (lv_at hl 0 rfl) ?_
                  refine lv_iload hx hb dX12_matches_123 (lv_at hl 1 rfl) ?_
                  refine w_icmp_ne (tgt := 137) hF dX12_matches_125 rfl hw (fun hw => ?_) (fun hw => ?_)
                  · refine lv_iload hx hb dX12_matches_137 (lv_at hl 3 rfl) ?_
                    refine w_if_lt (tgt := 158) hF dX12_matches_139 rfl hw (fun hw => ?_) (fun hw => ?_)
                    · refine lv_iconst (v := 0) hx hb dX12_matches_158 (by decide) ?_
                      exact w_retz hF hH hr hlk dX12_matches_159 hw
                    · obtain ⟨z53, ez53⟩ : ∃ z : Int32, z = x6.1 + 1 := ⟨_, rfl⟩
                      have hw := hw z53 ez53
                      refine lv_iinc (lv' := [(8, .int z53), (10, .int x36), (9, .int x30), (7, .int x6.2.1), (6, .int x6.2.2.1), (5, .int x6.2.2.2), (4, .int x1), (3, .int a3), (2, .int a2), (1, .int a1), (0, .ref h0)]) (k := 2) (v := z53) hx hb dX12_matches_142 hl rfl ez53.symm (by decide) rfl (fun ls hl => ?_)
                      refine lv_iload hx hb dX12_matches_145 (lv_at hl 0 rfl) ?_
                      refine lv_istore (lv' := [(6, .int z53), (8, .int z53), (10, .int x36), (9, .int x30), (7, .int x6.2.1), (5, .int x6.2.2.2), (4, .int x1), (3, .int a3), (2, .int a2), (1, .int a1), (0, .ref h0)]) hx hb dX12_matches_147 hl (by decide) rfl (fun ls hl => ?_)
                      refine lv_iload hx hb dX12_matches_149 (lv_at hl 4 rfl) ?_
                      refine lv_iconst (v := 1) hx hb dX12_matches_151 (by decide) ?_
                      refine lv_iadd hx hb dX12_matches_152 ?_
                      refine w_nmi hw (fun z54 hw => ?_)
                      refine lv_istore (lv' := [(5, .int z54), (6, .int z53), (8, .int z53), (10, .int x36), (9, .int x30), (7, .int x6.2.1), (4, .int x1), (3, .int a3), (2, .int a2), (1, .int a1), (0, .ref h0)]) hx hb dX12_matches_153 hl (by decide) rfl (fun ls hl => ?_)
                      refine lv_goto (tgt := 160) hx hb dX12_matches_155 rfl ?_
                      have hl : lv_has ls 11 [(8, .int z53), (7, .int x6.2.1), (6, .int z53), (5, .int z54), (4, .int x1), (3, .int a3), (2, .int a2), (1, .int a1), (0, .ref h0)] := lv_sub hl [2, 5, 1, 0, 6, 7, 8, 9, 10] rfl
                      exact jn45 (z53, x6.2.1, z53, z54) σ37 ls _ _ hl hw hH
                  · have hl : lv_has ls 11 [(8, .int x6.1), (7, .int x6.2.1), (6, .int x6.2.2.1), (5, .int x6.2.2.2), (4, .int x1), (3, .int a3), (2, .int a2), (1, .int a1), (0, .ref h0)] := lv_sub hl [2, 3, 4, 5, 6, 7, 8, 9, 10] rfl
                    exact jn50 () σ37 ls _ _ hl hw hH
            · refine lv_iload hx hb dX12_matches_100 (lv_at hl 5 rfl) ?_
              refine lv_istore (lv' := [(7, .int x6.2.2.2), (10, .int x36), (9, .int x30), (8, .int x6.1), (6, .int x6.2.2.1), (5, .int x6.2.2.2), (4, .int x1), (3, .int a3), (2, .int a2), (1, .int a1), (0, .ref h0)]) hx hb dX12_matches_102 hl (by decide) rfl (fun ls hl => ?_)
              refine lv_iload hx hb dX12_matches_104 (lv_at hl 4 rfl) ?_
              refine lv_istore (lv' := [(8, .int x6.2.2.1), (7, .int x6.2.2.2), (10, .int x36), (9, .int x30), (6, .int x6.2.2.1), (5, .int x6.2.2.2), (4, .int x1), (3, .int a3), (2, .int a2), (1, .int a1), (0, .ref h0)]) hx hb dX12_matches_106 hl (by decide) rfl (fun ls hl => ?_)
              obtain ⟨z55, ez55⟩ : ∃ z : Int32, z = x6.2.2.2 + 1 := ⟨_, rfl⟩
              have hw := hw z55 ez55
              refine lv_iinc (lv' := [(5, .int z55), (8, .int x6.2.2.1), (7, .int x6.2.2.2), (10, .int x36), (9, .int x30), (6, .int x6.2.2.1), (4, .int x1), (3, .int a3), (2, .int a2), (1, .int a1), (0, .ref h0)]) (k := 5) (v := z55) hx hb dX12_matches_108 hl rfl ez55.symm (by decide) rfl (fun ls hl => ?_)
              refine lv_goto (tgt := 160) hx hb dX12_matches_111 rfl ?_
              have hl : lv_has ls 11 [(8, .int x6.2.2.1), (7, .int x6.2.2.2), (6, .int x6.2.2.1), (5, .int z55), (4, .int x1), (3, .int a3), (2, .int a2), (1, .int a1), (0, .ref h0)] := lv_sub hl [1, 2, 5, 0, 6, 7, 8, 9, 10] rfl
              exact jn45 (x6.2.2.1, x6.2.2.2, x6.2.2.1, z55) σ37 ls _ _ hl hw hH
        · skip
          refine w_icmp_ge (tgt := 90) hF dX12_matches_69 rfl hw (fun hw => ?_) (fun hw => ?_)
          · refine lv_iconst (v := (-1)) hx hb dX12_matches_90 (by decide) ?_
            exact jn40 (-1) σ31 ls _ _ hl hw hH
          · refine lv_aload_n hx hb dX12_matches_72 rfl (lv_at hl 9 rfl) ?_
            refine w_getA 52 hF hH fk_X12_172 dX12_matches_73 (by decide) rfl ?_
            refine lv_bipush (v := 20) hx hb dX12_matches_76 (by decide) ?_
            refine lv_iload_n hx hb dX12_matches_78 rfl (lv_at hl 8 rfl) ?_
            refine lv_imul hx hb dX12_matches_79 ?_
            refine w_nmi hw (fun z56 hw => ?_)
            refine lv_iload hx hb dX12_matches_80 (lv_at hl 4 rfl) ?_
            refine lv_iadd hx hb dX12_matches_82 ?_
            refine w_nmi hw (fun z57 hw => ?_)
            refine w_iald 52 800 hF hH dX12_matches_83 (by decide) rfl rfl hw (fun z58 hw => ?_)
            refine w_cSi (As := [.int z58]) (rest := []) hF hH hA ms_X12_311 (fun sz => c_X12_folded l D t h0 L _ hH.2 z58 _ hw sz) dX12_matches_84 rfl rfl (by decide) rfl hl.1 (Nat.le_of_ble_eq_true rfl) (by decide) rfl (fun z60 σ59 H locs hw hH => ?_)
            refine lv_goto (tgt := 91) hx hb dX12_matches_87 rfl ?_
            exact jn40 z60 σ59 ls _ _ hl hw hH
      · skip
        refine w_if_le (tgt := 44) hF dX12_matches_36 rfl hw (fun hw => ?_) (fun hw => ?_)
        · refine lv_aload_n hx hb dX12_matches_44 rfl (lv_at hl 8 rfl) ?_
          refine w_getA 4 hF hH fk_X12_24 dX12_matches_45 (by decide) rfl ?_
          refine lv_bipush (v := 12) hx hb dX12_matches_48 (by decide) ?_
          refine lv_iload_n hx hb dX12_matches_50 rfl (lv_at hl 6 rfl) ?_
          refine lv_imul hx hb dX12_matches_51 ?_
          refine w_nmi hw (fun z61 hw => ?_)
          refine lv_iload hx hb dX12_matches_52 (lv_at hl 2 rfl) ?_
          refine lv_iadd hx hb dX12_matches_54 ?_
          refine w_nmi hw (fun z62 hw => ?_)
          refine w_bald 4 1920 hF hH dX12_matches_55 (by decide) rfl rfl hw (fun z63 hw => ?_)
          refine w_cSi (As := [.int z63]) (rest := []) hF hH hA ms_X12_311 (fun sz => c_X12_folded l D t h0 L _ hH.2 z63 _ hw sz) dX12_matches_56 rfl rfl (by decide) rfl hl.1 (Nat.le_of_ble_eq_true rfl) (by decide) rfl (fun z65 σ64 H locs hw hH => ?_)
          exact jn34 z65 σ64 ls _ _ hl hw hH
        · refine lv_bipush (v := 46) hx hb dX12_matches_39 (by decide) ?_
          refine lv_goto (tgt := 59) hx hb dX12_matches_41 rfl ?_
          exact jn34 46 σ7 ls _ _ hl hw hH
  · skip
    refine w_if_le (tgt := 8) hF dX12_matches_1 rfl hw (fun hw => ?_) (fun hw => ?_)
    · refine lv_aload_n hx hb dX12_matches_8 rfl (lv_at hl 0 rfl) ?_
      refine w_getA 5 hF hH fk_X12_27 dX12_matches_9 (by decide) rfl ?_
      refine lv_iload_n hx hb dX12_matches_12 rfl (lv_at hl 2 rfl) ?_
      refine w_iald 5 160 hF hH dX12_matches_13 (by decide) rfl rfl hw (fun z66 hw => ?_)
      have hl : lv_has ls 11 [(3, .int a3), (2, .int a2), (1, .int a1), (0, .ref h0)] := lv_sub hl [3, 2, 1, 0] rfl
      exact jn5 z66 σ ls _ _ hl hw hH
    · refine lv_iload_n hx hb dX12_matches_4 rfl (lv_at hl 3 rfl) ?_
      refine lv_goto (tgt := 14) hx hb dX12_matches_5 rfl ?_
      have hl : lv_has ls 11 [(3, .int a3), (2, .int a2), (1, .int a1), (0, .ref h0)] := lv_sub hl [3, 2, 1, 0] rfl
      exact jn5 a3 σ ls _ _ hl hw hH
def F_X12_against (h0 : Nat) (L : Nat → Nat) (a1 : Int32) (a2 : Int32) (post : Int32 → HS → Prop) (σ : HS) : Prop := lw (fun (K3 : Int32 → HS → Prop) (x1 : Int32) (σ2 : HS) => (0 ≤ a1.toInt ∧ a1.toInt < 160) ∧ ∀ z5 : Int32, z5 = sI σ2 (L 5) a1.toInt.toNat → jn (fun (K8 : Unit → HS → Prop) => ((z5.toInt ≤ x1.toInt) → K8 () σ2) ∧ ((x1.toInt < z5.toInt) → (0 ≤ a2.toInt ∧ a2.toInt < 40) ∧ ∀ z14 : Int32, z14 = sI σ2 (L 55) a2.toInt.toNat → ((z14.toInt ≤ x1.toInt) → K8 () σ2) ∧ ((x1.toInt < z14.toInt) → ∀ z15 : Int32, z15 = 12 * a1 → ∀ z16 : Int32, z16 = z15 + x1 → (0 ≤ z16.toInt ∧ z16.toInt < 1920) ∧ ∀ z17 : Int32, z17 = sI σ2 (L 4) z16.toInt.toNat → F_X12_folded h0 L z17 (fun (z19 : Int32) (σ18 : HS) => ∀ z20 : Int32, z20 = 12 * a2 → ∀ z21 : Int32, z21 = z20 + x1 → (0 ≤ z21.toInt ∧ z21.toInt < 480) ∧ ∀ z22 : Int32, z22 = sI σ18 (L 54) z21.toInt.toNat → F_X12_folded h0 L z22 (fun (z24 : Int32) (σ23 : HS) => ∀ z25 : Int32, z25 = z19 - z24 → ((z25.toInt = 0) → ∀ z26 : Int32, z26 = x1 + 1 → K3 z26 σ23) ∧ ((¬ z25.toInt = 0) → post z25 σ23)) σ18) σ2))) (fun (x6 : Unit) (σ7 : HS) => (0 ≤ a1.toInt ∧ a1.toInt < 160) ∧ ∀ z11 : Int32, z11 = sI σ7 (L 5) a1.toInt.toNat → (0 ≤ a2.toInt ∧ a2.toInt < 40) ∧ ∀ z12 : Int32, z12 = sI σ7 (L 55) a2.toInt.toNat → ∀ z13 : Int32, z13 = z11 - z12 → post z13 σ7)) 0 σ
theorem dX12_against_0 : decode cX12_against 0 = .ok (.iconst 0, 1) := by decide +kernel
theorem dX12_against_1 : decode cX12_against 1 = .ok (.istore_n 3, 1) := by decide +kernel
theorem dX12_against_2 : decode cX12_against 2 = .ok (.iload_n 3, 1) := by decide +kernel
theorem dX12_against_3 : decode cX12_against 3 = .ok (.aload_n 0, 1) := by decide +kernel
theorem dX12_against_4 : decode cX12_against 4 = .ok (.getfield 27, 3) := by decide +kernel
theorem dX12_against_7 : decode cX12_against 7 = .ok (.iload_n 1, 1) := by decide +kernel
theorem dX12_against_8 : decode cX12_against 8 = .ok (.iaload, 1) := by decide +kernel
theorem dX12_against_9 : decode cX12_against 9 = .ok (.if_icmp .ge 58, 3) := by decide +kernel
theorem dX12_against_12 : decode cX12_against 12 = .ok (.iload_n 3, 1) := by decide +kernel
theorem dX12_against_13 : decode cX12_against 13 = .ok (.aload_n 0, 1) := by decide +kernel
theorem dX12_against_14 : decode cX12_against 14 = .ok (.getfield 181, 3) := by decide +kernel
theorem dX12_against_17 : decode cX12_against 17 = .ok (.iload_n 2, 1) := by decide +kernel
theorem dX12_against_18 : decode cX12_against 18 = .ok (.iaload, 1) := by decide +kernel
theorem dX12_against_19 : decode cX12_against 19 = .ok (.if_icmp .ge 48, 3) := by decide +kernel
theorem dX12_against_22 : decode cX12_against 22 = .ok (.aload_n 0, 1) := by decide +kernel
theorem dX12_against_23 : decode cX12_against 23 = .ok (.getfield 24, 3) := by decide +kernel
theorem dX12_against_26 : decode cX12_against 26 = .ok (.bipush 12, 2) := by decide +kernel
theorem dX12_against_28 : decode cX12_against 28 = .ok (.iload_n 1, 1) := by decide +kernel
theorem dX12_against_29 : decode cX12_against 29 = .ok (.imul, 1) := by decide +kernel
theorem dX12_against_30 : decode cX12_against 30 = .ok (.iload_n 3, 1) := by decide +kernel
theorem dX12_against_31 : decode cX12_against 31 = .ok (.iadd, 1) := by decide +kernel
theorem dX12_against_32 : decode cX12_against 32 = .ok (.baload, 1) := by decide +kernel
theorem dX12_against_33 : decode cX12_against 33 = .ok (.invokestatic 311, 3) := by decide +kernel
theorem dX12_against_36 : decode cX12_against 36 = .ok (.aload_n 0, 1) := by decide +kernel
theorem dX12_against_37 : decode cX12_against 37 = .ok (.getfield 178, 3) := by decide +kernel
theorem dX12_against_40 : decode cX12_against 40 = .ok (.bipush 12, 2) := by decide +kernel
theorem dX12_against_42 : decode cX12_against 42 = .ok (.iload_n 2, 1) := by decide +kernel
theorem dX12_against_43 : decode cX12_against 43 = .ok (.imul, 1) := by decide +kernel
theorem dX12_against_44 : decode cX12_against 44 = .ok (.iload_n 3, 1) := by decide +kernel
theorem dX12_against_45 : decode cX12_against 45 = .ok (.iadd, 1) := by decide +kernel
theorem dX12_against_46 : decode cX12_against 46 = .ok (.baload, 1) := by decide +kernel
theorem dX12_against_47 : decode cX12_against 47 = .ok (.invokestatic 311, 3) := by decide +kernel
theorem dX12_against_50 : decode cX12_against 50 = .ok (.isub, 1) := by decide +kernel
theorem dX12_against_51 : decode cX12_against 51 = .ok (.istore 4, 2) := by decide +kernel
theorem dX12_against_53 : decode cX12_against 53 = .ok (.iload 4, 2) := by decide +kernel
theorem dX12_against_55 : decode cX12_against 55 = .ok (.ifCond .eq 6, 3) := by decide +kernel
theorem dX12_against_58 : decode cX12_against 58 = .ok (.iload 4, 2) := by decide +kernel
theorem dX12_against_60 : decode cX12_against 60 = .ok (.ireturn, 1) := by decide +kernel
theorem dX12_against_61 : decode cX12_against 61 = .ok (.iinc 3 1, 3) := by decide +kernel
theorem dX12_against_64 : decode cX12_against 64 = .ok (.goto (-62), 3) := by decide +kernel
theorem dX12_against_67 : decode cX12_against 67 = .ok (.aload_n 0, 1) := by decide +kernel
theorem dX12_against_68 : decode cX12_against 68 = .ok (.getfield 27, 3) := by decide +kernel
theorem dX12_against_71 : decode cX12_against 71 = .ok (.iload_n 1, 1) := by decide +kernel
theorem dX12_against_72 : decode cX12_against 72 = .ok (.iaload, 1) := by decide +kernel
theorem dX12_against_73 : decode cX12_against 73 = .ok (.aload_n 0, 1) := by decide +kernel
theorem dX12_against_74 : decode cX12_against 74 = .ok (.getfield 181, 3) := by decide +kernel
theorem dX12_against_77 : decode cX12_against 77 = .ok (.iload_n 2, 1) := by decide +kernel
theorem dX12_against_78 : decode cX12_against 78 = .ok (.iaload, 1) := by decide +kernel
theorem dX12_against_79 : decode cX12_against 79 = .ok (.isub, 1) := by decide +kernel
theorem dX12_against_80 : decode cX12_against 80 = .ok (.ireturn, 1) := by decide +kernel
set_option maxRecDepth 100000 in
set_option maxHeartbeats 4000000 in
theorem c_X12_against (l : Launch) (D : va_G) (t : Nat → ClassId) (h0 : Nat) (L : Nat → Nat) (σ : HS) (hM : MdI h0 L σ) (a1 : Int32) (a2 : Int32) (post : Int32 → HS → Prop) (hw : F_X12_against h0 L a1 a2 post σ) (sz : Nat) : RMi l D t yX12_against cX12_against 5 (some .int) ({ frames := 1, cells := 0, slots := 0, locals := 20 }) h0 L σ sz [.ref h0, .int a1, .int a2] post := by
  refine h_go (τ := τT) okT (by decide) (Nat.le_of_ble_eq_true rfl) ?_
  intro p e s m below meth c ls A hF hr hlk hAe hH0 hA hl
  unfold hB
  rw [hAe]
  clear hAe
  have hF : FX p m c cX12_against 5 s _ RX12 D t := hF
  have hx := hF.1.1
  have hb := hF.1.2.1
  have hH : RT D t A s.heap h0 L σ s.heap [] := ⟨hH0, hM⟩
  have hl : lv_has ls 5 [(0, .ref h0), (1, .int a1), (2, .int a2)] := hl
  unfold F_X12_against at hw
  refine lv_iconst (v := 0) hx hb dX12_against_0 (by decide) ?_
  refine lv_istore_n (lv' := [(3, .int 0), (0, .ref h0), (1, .int a1), (2, .int a2)]) hx hb dX12_against_1 rfl hl (by decide) rfl (fun ls hl => ?_)
  have hl : lv_has ls 5 [(3, .int 0), (2, .int a2), (1, .int a1), (0, .ref h0)] := lv_sub hl [0, 3, 2, 1] rfl
  refine w_loop (β := Int32) (fun x1 => [(3, .int x1), (2, .int a2), (1, .int a1), (0, .ref h0)]) 0 hl hw hH (fun K3 x1 σ2 ls H locs hl hw hH ih4 => ?_)
  have hl : lv_has ls 5 [(3, .int x1), (2, .int a2), (1, .int a1), (0, .ref h0)] := hl
  refine lv_iload_n hx hb dX12_against_2 rfl (lv_at hl 0 rfl) ?_
  refine lv_aload_n hx hb dX12_against_3 rfl (lv_at hl 3 rfl) ?_
  refine w_getA 5 hF hH fk_X12_27 dX12_against_4 (by decide) rfl ?_
  refine lv_iload_n hx hb dX12_against_7 rfl (lv_at hl 2 rfl) ?_
  refine w_iald 5 160 hF hH dX12_against_8 (by decide) rfl rfl hw (fun z5 hw => ?_)
  obtain ⟨K8, hK9, hw⟩ := jn_open hw
  refine w_join (K := K8) 67 (fun (x6 : Unit) => [(2, .int a2), (1, .int a1), (0, .ref h0)]) (fun (x6 : Unit) => []) hl hH (fun x6 σ7 ls H locs hl hw hH => ?_) (fun jn10 => ?_)
  · have hw := hK9 x6 σ7 hw
    have hl : lv_has ls 5 [(2, .int a2), (1, .int a1), (0, .ref h0)] := hl
    refine lv_aload_n hx hb dX12_against_67 rfl (lv_at hl 2 rfl) ?_
    refine w_getA 5 hF hH fk_X12_27 dX12_against_68 (by decide) rfl ?_
    refine lv_iload_n hx hb dX12_against_71 rfl (lv_at hl 1 rfl) ?_
    refine w_iald 5 160 hF hH dX12_against_72 (by decide) rfl rfl hw (fun z11 hw => ?_)
    refine lv_aload_n hx hb dX12_against_73 rfl (lv_at hl 2 rfl) ?_
    refine w_getA 55 hF hH fk_X12_181 dX12_against_74 (by decide) rfl ?_
    refine lv_iload_n hx hb dX12_against_77 rfl (lv_at hl 0 rfl) ?_
    refine w_iald 55 40 hF hH dX12_against_78 (by decide) rfl rfl hw (fun z12 hw => ?_)
    refine lv_isub hx hb dX12_against_79 ?_
    refine w_nmi hw (fun z13 hw => ?_)
    exact w_reti hF hH hr hlk rfl dX12_against_80 hw
  · skip
    refine w_icmp_ge (tgt := 67) hF dX12_against_9 rfl hw (fun hw => ?_) (fun hw => ?_)
    · have hl : lv_has ls 5 [(2, .int a2), (1, .int a1), (0, .ref h0)] := lv_sub hl [1, 2, 3] rfl
      exact jn10 () σ2 ls _ _ hl hw hH
    · refine lv_iload_n hx hb dX12_against_12 rfl (lv_at hl 0 rfl) ?_
      refine lv_aload_n hx hb dX12_against_13 rfl (lv_at hl 3 rfl) ?_
      refine w_getA 55 hF hH fk_X12_181 dX12_against_14 (by decide) rfl ?_
      refine lv_iload_n hx hb dX12_against_17 rfl (lv_at hl 1 rfl) ?_
      refine w_iald 55 40 hF hH dX12_against_18 (by decide) rfl rfl hw (fun z14 hw => ?_)
      refine w_icmp_ge (tgt := 67) hF dX12_against_19 rfl hw (fun hw => ?_) (fun hw => ?_)
      · have hl : lv_has ls 5 [(2, .int a2), (1, .int a1), (0, .ref h0)] := lv_sub hl [1, 2, 3] rfl
        exact jn10 () σ2 ls _ _ hl hw hH
      · refine lv_aload_n hx hb dX12_against_22 rfl (lv_at hl 3 rfl) ?_
        refine w_getA 4 hF hH fk_X12_24 dX12_against_23 (by decide) rfl ?_
        refine lv_bipush (v := 12) hx hb dX12_against_26 (by decide) ?_
        refine lv_iload_n hx hb dX12_against_28 rfl (lv_at hl 2 rfl) ?_
        refine lv_imul hx hb dX12_against_29 ?_
        refine w_nmi hw (fun z15 hw => ?_)
        refine lv_iload_n hx hb dX12_against_30 rfl (lv_at hl 0 rfl) ?_
        refine lv_iadd hx hb dX12_against_31 ?_
        refine w_nmi hw (fun z16 hw => ?_)
        refine w_bald 4 1920 hF hH dX12_against_32 (by decide) rfl rfl hw (fun z17 hw => ?_)
        refine w_cSi (As := [.int z17]) (rest := []) hF hH hA ms_X12_311 (fun sz => c_X12_folded l D t h0 L _ hH.2 z17 _ hw sz) dX12_against_33 rfl rfl (by decide) rfl hl.1 (Nat.le_of_ble_eq_true rfl) (by decide) rfl (fun z19 σ18 H locs hw hH => ?_)
        refine lv_aload_n hx hb dX12_against_36 rfl (lv_at hl 3 rfl) ?_
        refine w_getA 54 hF hH fk_X12_178 dX12_against_37 (by decide) rfl ?_
        refine lv_bipush (v := 12) hx hb dX12_against_40 (by decide) ?_
        refine lv_iload_n hx hb dX12_against_42 rfl (lv_at hl 1 rfl) ?_
        refine lv_imul hx hb dX12_against_43 ?_
        refine w_nmi hw (fun z20 hw => ?_)
        refine lv_iload_n hx hb dX12_against_44 rfl (lv_at hl 0 rfl) ?_
        refine lv_iadd hx hb dX12_against_45 ?_
        refine w_nmi hw (fun z21 hw => ?_)
        refine w_bald 54 480 hF hH dX12_against_46 (by decide) rfl rfl hw (fun z22 hw => ?_)
        refine w_cSi (As := [.int z22]) (rest := [.int z19]) hF hH hA ms_X12_311 (fun sz => c_X12_folded l D t h0 L _ hH.2 z22 _ hw sz) dX12_against_47 rfl rfl (by decide) rfl hl.1 (Nat.le_of_ble_eq_true rfl) (by decide) rfl (fun z24 σ23 H locs hw hH => ?_)
        refine lv_isub hx hb dX12_against_50 ?_
        refine w_nmi hw (fun z25 hw => ?_)
        refine lv_istore (lv' := [(4, .int z25), (3, .int x1), (2, .int a2), (1, .int a1), (0, .ref h0)]) hx hb dX12_against_51 hl (by decide) rfl (fun ls hl => ?_)
        refine lv_iload hx hb dX12_against_53 (lv_at hl 0 rfl) ?_
        refine w_if_eq (tgt := 61) hF dX12_against_55 rfl hw (fun hw => ?_) (fun hw => ?_)
        · obtain ⟨z26, ez26⟩ : ∃ z : Int32, z = x1 + 1 := ⟨_, rfl⟩
          have hw := hw z26 ez26
          refine lv_iinc (lv' := [(3, .int z26), (4, .int z25), (2, .int a2), (1, .int a1), (0, .ref h0)]) (k := 1) (v := z26) hx hb dX12_against_61 hl rfl ez26.symm (by decide) rfl (fun ls hl => ?_)
          refine lv_goto (tgt := 2) hx hb dX12_against_64 rfl ?_
          have hl : lv_has ls 5 [(3, .int z26), (2, .int a2), (1, .int a1), (0, .ref h0)] := lv_sub hl [0, 2, 3, 4] rfl
          exact ih4 z26 σ23 ls _ _ hl hw hH
        · refine lv_iload hx hb dX12_against_58 (lv_at hl 0 rfl) ?_
          exact w_reti hF hH hr hlk rfl dX12_against_60 hw
def F_X12_between (h0 : Nat) (L : Nat → Nat) (a1 : Int32) (a2 : Int32) (post : Int32 → HS → Prop) (σ : HS) : Prop := lw (fun (K3 : Int32 → HS → Prop) (x1 : Int32) (σ2 : HS) => (0 ≤ a1.toInt ∧ a1.toInt < 160) ∧ ∀ z5 : Int32, z5 = sI σ2 (L 5) a1.toInt.toNat → jn (fun (K8 : Unit → HS → Prop) => ((z5.toInt ≤ x1.toInt) → K8 () σ2) ∧ ((x1.toInt < z5.toInt) → (0 ≤ a2.toInt ∧ a2.toInt < 160) ∧ ∀ z14 : Int32, z14 = sI σ2 (L 5) a2.toInt.toNat → ((z14.toInt ≤ x1.toInt) → K8 () σ2) ∧ ((x1.toInt < z14.toInt) → ∀ z15 : Int32, z15 = 12 * a1 → ∀ z16 : Int32, z16 = z15 + x1 → (0 ≤ z16.toInt ∧ z16.toInt < 1920) ∧ ∀ z17 : Int32, z17 = sI σ2 (L 4) z16.toInt.toNat → F_X12_folded h0 L z17 (fun (z19 : Int32) (σ18 : HS) => ∀ z20 : Int32, z20 = 12 * a2 → ∀ z21 : Int32, z21 = z20 + x1 → (0 ≤ z21.toInt ∧ z21.toInt < 1920) ∧ ∀ z22 : Int32, z22 = sI σ18 (L 4) z21.toInt.toNat → F_X12_folded h0 L z22 (fun (z24 : Int32) (σ23 : HS) => ∀ z25 : Int32, z25 = z19 - z24 → ((z25.toInt = 0) → ∀ z26 : Int32, z26 = x1 + 1 → K3 z26 σ23) ∧ ((¬ z25.toInt = 0) → post z25 σ23)) σ18) σ2))) (fun (x6 : Unit) (σ7 : HS) => (0 ≤ a1.toInt ∧ a1.toInt < 160) ∧ ∀ z11 : Int32, z11 = sI σ7 (L 5) a1.toInt.toNat → (0 ≤ a2.toInt ∧ a2.toInt < 160) ∧ ∀ z12 : Int32, z12 = sI σ7 (L 5) a2.toInt.toNat → ∀ z13 : Int32, z13 = z11 - z12 → post z13 σ7)) 0 σ
theorem dX12_between_0 : decode cX12_between 0 = .ok (.iconst 0, 1) := by decide +kernel
theorem dX12_between_1 : decode cX12_between 1 = .ok (.istore_n 3, 1) := by decide +kernel
theorem dX12_between_2 : decode cX12_between 2 = .ok (.iload_n 3, 1) := by decide +kernel
theorem dX12_between_3 : decode cX12_between 3 = .ok (.aload_n 0, 1) := by decide +kernel
theorem dX12_between_4 : decode cX12_between 4 = .ok (.getfield 27, 3) := by decide +kernel
theorem dX12_between_7 : decode cX12_between 7 = .ok (.iload_n 1, 1) := by decide +kernel
theorem dX12_between_8 : decode cX12_between 8 = .ok (.iaload, 1) := by decide +kernel
theorem dX12_between_9 : decode cX12_between 9 = .ok (.if_icmp .ge 58, 3) := by decide +kernel
theorem dX12_between_12 : decode cX12_between 12 = .ok (.iload_n 3, 1) := by decide +kernel
theorem dX12_between_13 : decode cX12_between 13 = .ok (.aload_n 0, 1) := by decide +kernel
theorem dX12_between_14 : decode cX12_between 14 = .ok (.getfield 27, 3) := by decide +kernel
theorem dX12_between_17 : decode cX12_between 17 = .ok (.iload_n 2, 1) := by decide +kernel
theorem dX12_between_18 : decode cX12_between 18 = .ok (.iaload, 1) := by decide +kernel
theorem dX12_between_19 : decode cX12_between 19 = .ok (.if_icmp .ge 48, 3) := by decide +kernel
theorem dX12_between_22 : decode cX12_between 22 = .ok (.aload_n 0, 1) := by decide +kernel
theorem dX12_between_23 : decode cX12_between 23 = .ok (.getfield 24, 3) := by decide +kernel
theorem dX12_between_26 : decode cX12_between 26 = .ok (.bipush 12, 2) := by decide +kernel
theorem dX12_between_28 : decode cX12_between 28 = .ok (.iload_n 1, 1) := by decide +kernel
theorem dX12_between_29 : decode cX12_between 29 = .ok (.imul, 1) := by decide +kernel
theorem dX12_between_30 : decode cX12_between 30 = .ok (.iload_n 3, 1) := by decide +kernel
theorem dX12_between_31 : decode cX12_between 31 = .ok (.iadd, 1) := by decide +kernel
theorem dX12_between_32 : decode cX12_between 32 = .ok (.baload, 1) := by decide +kernel
theorem dX12_between_33 : decode cX12_between 33 = .ok (.invokestatic 311, 3) := by decide +kernel
theorem dX12_between_36 : decode cX12_between 36 = .ok (.aload_n 0, 1) := by decide +kernel
theorem dX12_between_37 : decode cX12_between 37 = .ok (.getfield 24, 3) := by decide +kernel
theorem dX12_between_40 : decode cX12_between 40 = .ok (.bipush 12, 2) := by decide +kernel
theorem dX12_between_42 : decode cX12_between 42 = .ok (.iload_n 2, 1) := by decide +kernel
theorem dX12_between_43 : decode cX12_between 43 = .ok (.imul, 1) := by decide +kernel
theorem dX12_between_44 : decode cX12_between 44 = .ok (.iload_n 3, 1) := by decide +kernel
theorem dX12_between_45 : decode cX12_between 45 = .ok (.iadd, 1) := by decide +kernel
theorem dX12_between_46 : decode cX12_between 46 = .ok (.baload, 1) := by decide +kernel
theorem dX12_between_47 : decode cX12_between 47 = .ok (.invokestatic 311, 3) := by decide +kernel
theorem dX12_between_50 : decode cX12_between 50 = .ok (.isub, 1) := by decide +kernel
theorem dX12_between_51 : decode cX12_between 51 = .ok (.istore 4, 2) := by decide +kernel
theorem dX12_between_53 : decode cX12_between 53 = .ok (.iload 4, 2) := by decide +kernel
theorem dX12_between_55 : decode cX12_between 55 = .ok (.ifCond .eq 6, 3) := by decide +kernel
theorem dX12_between_58 : decode cX12_between 58 = .ok (.iload 4, 2) := by decide +kernel
theorem dX12_between_60 : decode cX12_between 60 = .ok (.ireturn, 1) := by decide +kernel
theorem dX12_between_61 : decode cX12_between 61 = .ok (.iinc 3 1, 3) := by decide +kernel
theorem dX12_between_64 : decode cX12_between 64 = .ok (.goto (-62), 3) := by decide +kernel
theorem dX12_between_67 : decode cX12_between 67 = .ok (.aload_n 0, 1) := by decide +kernel
theorem dX12_between_68 : decode cX12_between 68 = .ok (.getfield 27, 3) := by decide +kernel
theorem dX12_between_71 : decode cX12_between 71 = .ok (.iload_n 1, 1) := by decide +kernel
theorem dX12_between_72 : decode cX12_between 72 = .ok (.iaload, 1) := by decide +kernel
theorem dX12_between_73 : decode cX12_between 73 = .ok (.aload_n 0, 1) := by decide +kernel
theorem dX12_between_74 : decode cX12_between 74 = .ok (.getfield 27, 3) := by decide +kernel
theorem dX12_between_77 : decode cX12_between 77 = .ok (.iload_n 2, 1) := by decide +kernel
theorem dX12_between_78 : decode cX12_between 78 = .ok (.iaload, 1) := by decide +kernel
theorem dX12_between_79 : decode cX12_between 79 = .ok (.isub, 1) := by decide +kernel
theorem dX12_between_80 : decode cX12_between 80 = .ok (.ireturn, 1) := by decide +kernel
set_option maxRecDepth 100000 in
set_option maxHeartbeats 4000000 in
theorem c_X12_between (l : Launch) (D : va_G) (t : Nat → ClassId) (h0 : Nat) (L : Nat → Nat) (σ : HS) (hM : MdI h0 L σ) (a1 : Int32) (a2 : Int32) (post : Int32 → HS → Prop) (hw : F_X12_between h0 L a1 a2 post σ) (sz : Nat) : RMi l D t yX12_between cX12_between 5 (some .int) ({ frames := 1, cells := 0, slots := 0, locals := 20 }) h0 L σ sz [.ref h0, .int a1, .int a2] post := by
  refine h_go (τ := τT) okT (by decide) (Nat.le_of_ble_eq_true rfl) ?_
  intro p e s m below meth c ls A hF hr hlk hAe hH0 hA hl
  unfold hB
  rw [hAe]
  clear hAe
  have hF : FX p m c cX12_between 5 s _ RX12 D t := hF
  have hx := hF.1.1
  have hb := hF.1.2.1
  have hH : RT D t A s.heap h0 L σ s.heap [] := ⟨hH0, hM⟩
  have hl : lv_has ls 5 [(0, .ref h0), (1, .int a1), (2, .int a2)] := hl
  unfold F_X12_between at hw
  refine lv_iconst (v := 0) hx hb dX12_between_0 (by decide) ?_
  refine lv_istore_n (lv' := [(3, .int 0), (0, .ref h0), (1, .int a1), (2, .int a2)]) hx hb dX12_between_1 rfl hl (by decide) rfl (fun ls hl => ?_)
  have hl : lv_has ls 5 [(3, .int 0), (2, .int a2), (1, .int a1), (0, .ref h0)] := lv_sub hl [0, 3, 2, 1] rfl
  refine w_loop (β := Int32) (fun x1 => [(3, .int x1), (2, .int a2), (1, .int a1), (0, .ref h0)]) 0 hl hw hH (fun K3 x1 σ2 ls H locs hl hw hH ih4 => ?_)
  have hl : lv_has ls 5 [(3, .int x1), (2, .int a2), (1, .int a1), (0, .ref h0)] := hl
  refine lv_iload_n hx hb dX12_between_2 rfl (lv_at hl 0 rfl) ?_
  refine lv_aload_n hx hb dX12_between_3 rfl (lv_at hl 3 rfl) ?_
  refine w_getA 5 hF hH fk_X12_27 dX12_between_4 (by decide) rfl ?_
  refine lv_iload_n hx hb dX12_between_7 rfl (lv_at hl 2 rfl) ?_
  refine w_iald 5 160 hF hH dX12_between_8 (by decide) rfl rfl hw (fun z5 hw => ?_)
  obtain ⟨K8, hK9, hw⟩ := jn_open hw
  refine w_join (K := K8) 67 (fun (x6 : Unit) => [(2, .int a2), (1, .int a1), (0, .ref h0)]) (fun (x6 : Unit) => []) hl hH (fun x6 σ7 ls H locs hl hw hH => ?_) (fun jn10 => ?_)
  · have hw := hK9 x6 σ7 hw
    have hl : lv_has ls 5 [(2, .int a2), (1, .int a1), (0, .ref h0)] := hl
    refine lv_aload_n hx hb dX12_between_67 rfl (lv_at hl 2 rfl) ?_
    refine w_getA 5 hF hH fk_X12_27 dX12_between_68 (by decide) rfl ?_
    refine lv_iload_n hx hb dX12_between_71 rfl (lv_at hl 1 rfl) ?_
    refine w_iald 5 160 hF hH dX12_between_72 (by decide) rfl rfl hw (fun z11 hw => ?_)
    refine lv_aload_n hx hb dX12_between_73 rfl (lv_at hl 2 rfl) ?_
    refine w_getA 5 hF hH fk_X12_27 dX12_between_74 (by decide) rfl ?_
    refine lv_iload_n hx hb dX12_between_77 rfl (lv_at hl 0 rfl) ?_
    refine w_iald 5 160 hF hH dX12_between_78 (by decide) rfl rfl hw (fun z12 hw => ?_)
    refine lv_isub hx hb dX12_between_79 ?_
    refine w_nmi hw (fun z13 hw => ?_)
    exact w_reti hF hH hr hlk rfl dX12_between_80 hw
  · skip
    refine w_icmp_ge (tgt := 67) hF dX12_between_9 rfl hw (fun hw => ?_) (fun hw => ?_)
    · have hl : lv_has ls 5 [(2, .int a2), (1, .int a1), (0, .ref h0)] := lv_sub hl [1, 2, 3] rfl
      exact jn10 () σ2 ls _ _ hl hw hH
    · refine lv_iload_n hx hb dX12_between_12 rfl (lv_at hl 0 rfl) ?_
      refine lv_aload_n hx hb dX12_between_13 rfl (lv_at hl 3 rfl) ?_
      refine w_getA 5 hF hH fk_X12_27 dX12_between_14 (by decide) rfl ?_
      refine lv_iload_n hx hb dX12_between_17 rfl (lv_at hl 1 rfl) ?_
      refine w_iald 5 160 hF hH dX12_between_18 (by decide) rfl rfl hw (fun z14 hw => ?_)
      refine w_icmp_ge (tgt := 67) hF dX12_between_19 rfl hw (fun hw => ?_) (fun hw => ?_)
      · have hl : lv_has ls 5 [(2, .int a2), (1, .int a1), (0, .ref h0)] := lv_sub hl [1, 2, 3] rfl
        exact jn10 () σ2 ls _ _ hl hw hH
      · refine lv_aload_n hx hb dX12_between_22 rfl (lv_at hl 3 rfl) ?_
        refine w_getA 4 hF hH fk_X12_24 dX12_between_23 (by decide) rfl ?_
        refine lv_bipush (v := 12) hx hb dX12_between_26 (by decide) ?_
        refine lv_iload_n hx hb dX12_between_28 rfl (lv_at hl 2 rfl) ?_
        refine lv_imul hx hb dX12_between_29 ?_
        refine w_nmi hw (fun z15 hw => ?_)
        refine lv_iload_n hx hb dX12_between_30 rfl (lv_at hl 0 rfl) ?_
        refine lv_iadd hx hb dX12_between_31 ?_
        refine w_nmi hw (fun z16 hw => ?_)
        refine w_bald 4 1920 hF hH dX12_between_32 (by decide) rfl rfl hw (fun z17 hw => ?_)
        refine w_cSi (As := [.int z17]) (rest := []) hF hH hA ms_X12_311 (fun sz => c_X12_folded l D t h0 L _ hH.2 z17 _ hw sz) dX12_between_33 rfl rfl (by decide) rfl hl.1 (Nat.le_of_ble_eq_true rfl) (by decide) rfl (fun z19 σ18 H locs hw hH => ?_)
        refine lv_aload_n hx hb dX12_between_36 rfl (lv_at hl 3 rfl) ?_
        refine w_getA 4 hF hH fk_X12_24 dX12_between_37 (by decide) rfl ?_
        refine lv_bipush (v := 12) hx hb dX12_between_40 (by decide) ?_
        refine lv_iload_n hx hb dX12_between_42 rfl (lv_at hl 1 rfl) ?_
        refine lv_imul hx hb dX12_between_43 ?_
        refine w_nmi hw (fun z20 hw => ?_)
        refine lv_iload_n hx hb dX12_between_44 rfl (lv_at hl 0 rfl) ?_
        refine lv_iadd hx hb dX12_between_45 ?_
        refine w_nmi hw (fun z21 hw => ?_)
        refine w_bald 4 1920 hF hH dX12_between_46 (by decide) rfl rfl hw (fun z22 hw => ?_)
        refine w_cSi (As := [.int z22]) (rest := [.int z19]) hF hH hA ms_X12_311 (fun sz => c_X12_folded l D t h0 L _ hH.2 z22 _ hw sz) dX12_between_47 rfl rfl (by decide) rfl hl.1 (Nat.le_of_ble_eq_true rfl) (by decide) rfl (fun z24 σ23 H locs hw hH => ?_)
        refine lv_isub hx hb dX12_between_50 ?_
        refine w_nmi hw (fun z25 hw => ?_)
        refine lv_istore (lv' := [(4, .int z25), (3, .int x1), (2, .int a2), (1, .int a1), (0, .ref h0)]) hx hb dX12_between_51 hl (by decide) rfl (fun ls hl => ?_)
        refine lv_iload hx hb dX12_between_53 (lv_at hl 0 rfl) ?_
        refine w_if_eq (tgt := 61) hF dX12_between_55 rfl hw (fun hw => ?_) (fun hw => ?_)
        · obtain ⟨z26, ez26⟩ : ∃ z : Int32, z = x1 + 1 := ⟨_, rfl⟩
          have hw := hw z26 ez26
          refine lv_iinc (lv' := [(3, .int z26), (4, .int z25), (2, .int a2), (1, .int a1), (0, .ref h0)]) (k := 1) (v := z26) hx hb dX12_between_61 hl rfl ez26.symm (by decide) rfl (fun ls hl => ?_)
          refine lv_goto (tgt := 2) hx hb dX12_between_64 rfl ?_
          have hl : lv_has ls 5 [(3, .int z26), (2, .int a2), (1, .int a1), (0, .ref h0)] := lv_sub hl [0, 2, 3, 4] rfl
          exact ih4 z26 σ23 ls _ _ hl hw hH
        · refine lv_iload hx hb dX12_between_58 (lv_at hl 0 rfl) ?_
          exact w_reti hF hH hr hlk rfl dX12_between_60 hw

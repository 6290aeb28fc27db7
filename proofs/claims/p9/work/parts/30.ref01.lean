/-! the reference, lifted: 1 -/
def F_X12_begin (h0 : Nat) (L : Nat → Nat)  (post : HS → Prop) (σ : HS) : Prop := lw (fun (K3 : Int32 → HS → Prop) (x1 : Int32) (σ2 : HS) => (((6 : Int32).toInt ≤ x1.toInt) → lw (fun (K7 : Int32 → HS → Prop) (x5 : Int32) (σ6 : HS) => (((8 : Int32).toInt ≤ x5.toInt) → lw (fun (K11 : Int32 → HS → Prop) (x9 : Int32) (σ10 : HS) => (((16 : Int32).toInt ≤ x9.toInt) → lw (fun (K15 : Int32 → HS → Prop) (x13 : Int32) (σ14 : HS) => (((40 : Int32).toInt ≤ x13.toInt) → ∀ σ17 : HS, σ17 = h_uI σ14 h0 63 0 → ∀ σ18 : HS, σ18 = h_uI σ17 h0 69 0 → ∀ σ19 : HS, σ19 = h_uI σ18 h0 16 0 → ∀ σ20 : HS, σ20 = h_uJ σ19 h0 59 0 → ∀ σ21 : HS, σ21 = h_uJ σ20 h0 60 0 → ∀ σ22 : HS, σ22 = h_uJ σ21 h0 61 0 → ∀ σ23 : HS, σ23 = h_uJ σ22 h0 62 0 → lw (fun (K26 : Int32 → HS → Prop) (x24 : Int32) (σ25 : HS) => (((80 : Int32).toInt ≤ x24.toInt) → post σ25) ∧ ((x24.toInt < (80 : Int32).toInt) → ∀ z28 : Int32, z28 = 80 + x24 → F_X12_copyNode h0 L z28 x24 (fun (σ29 : HS) => (0 ≤ x24.toInt ∧ x24.toInt < 80) ∧ ∀ σ31 : HS, σ31 = h_uI σ29 (L 10) x24.toInt.toNat (vp_nar .boolean 0) → ∀ z32 : Int32, z32 = x24 + 1 → K26 z32 σ31) σ25)) 0 σ23) ∧ ((x13.toInt < (40 : Int32).toInt) → (0 ≤ x13.toInt ∧ x13.toInt < 40) ∧ ∀ σ33 : HS, σ33 = h_uJ σ14 (L 41) x13.toInt.toNat 0 → ∀ z34 : Int32, z34 = x13 + 1 → K15 z34 σ33)) 0 σ10) ∧ ((x9.toInt < (16 : Int32).toInt) → (0 ≤ x9.toInt ∧ x9.toInt < 16) ∧ ∀ σ35 : HS, σ35 = h_uJ σ10 (L 38) x9.toInt.toNat 0 → ∀ z36 : Int32, z36 = x9 + 1 → K11 z36 σ35)) 0 σ6) ∧ ((x5.toInt < (8 : Int32).toInt) → (0 ≤ x5.toInt ∧ x5.toInt < 8) ∧ ∀ σ37 : HS, σ37 = h_uJ σ6 (L 34) x5.toInt.toNat 0 → ∀ z38 : Int32, z38 = x5 + 1 → K7 z38 σ37)) 0 σ2) ∧ ((x1.toInt < (6 : Int32).toInt) → (0 ≤ x1.toInt ∧ x1.toInt < 6) ∧ ∀ σ39 : HS, σ39 = h_uI σ2 (L 25) x1.toInt.toNat (vp_nar .boolean 0) → (0 ≤ x1.toInt ∧ x1.toInt < 6) ∧ ∀ σ40 : HS, σ40 = h_uI σ39 (L 28) x1.toInt.toNat 0 → ∀ z41 : Int32, z41 = x1 + 1 → K3 z41 σ40)) 0 σ
theorem dX12_begin_0 : decode cX12_begin 0 = .ok (.iconst 0, 1) := by decide +kernel
theorem dX12_begin_1 : decode cX12_begin 1 = .ok (.istore_n 1, 1) := by decide +kernel
theorem dX12_begin_2 : decode cX12_begin 2 = .ok (.iload_n 1, 1) := by decide +kernel
theorem dX12_begin_3 : decode cX12_begin 3 = .ok (.bipush 6, 2) := by decide +kernel
theorem dX12_begin_5 : decode cX12_begin 5 = .ok (.if_icmp .ge 23, 3) := by decide +kernel
theorem dX12_begin_8 : decode cX12_begin 8 = .ok (.aload_n 0, 1) := by decide +kernel
theorem dX12_begin_9 : decode cX12_begin 9 = .ok (.getfield 89, 3) := by decide +kernel
theorem dX12_begin_12 : decode cX12_begin 12 = .ok (.iload_n 1, 1) := by decide +kernel
theorem dX12_begin_13 : decode cX12_begin 13 = .ok (.iconst 0, 1) := by decide +kernel
theorem dX12_begin_14 : decode cX12_begin 14 = .ok (.bastore, 1) := by decide +kernel
theorem dX12_begin_15 : decode cX12_begin 15 = .ok (.aload_n 0, 1) := by decide +kernel
theorem dX12_begin_16 : decode cX12_begin 16 = .ok (.getfield 99, 3) := by decide +kernel
theorem dX12_begin_19 : decode cX12_begin 19 = .ok (.iload_n 1, 1) := by decide +kernel
theorem dX12_begin_20 : decode cX12_begin 20 = .ok (.iconst 0, 1) := by decide +kernel
theorem dX12_begin_21 : decode cX12_begin 21 = .ok (.iastore, 1) := by decide +kernel
theorem dX12_begin_22 : decode cX12_begin 22 = .ok (.iinc 1 1, 3) := by decide +kernel
theorem dX12_begin_25 : decode cX12_begin 25 = .ok (.goto (-23), 3) := by decide +kernel
theorem dX12_begin_28 : decode cX12_begin 28 = .ok (.iconst 0, 1) := by decide +kernel
theorem dX12_begin_29 : decode cX12_begin 29 = .ok (.istore_n 1, 1) := by decide +kernel
theorem dX12_begin_30 : decode cX12_begin 30 = .ok (.iload_n 1, 1) := by decide +kernel
theorem dX12_begin_31 : decode cX12_begin 31 = .ok (.bipush 8, 2) := by decide +kernel
theorem dX12_begin_33 : decode cX12_begin 33 = .ok (.if_icmp .ge 16, 3) := by decide +kernel
theorem dX12_begin_36 : decode cX12_begin 36 = .ok (.aload_n 0, 1) := by decide +kernel
theorem dX12_begin_37 : decode cX12_begin 37 = .ok (.getfield 118, 3) := by decide +kernel
theorem dX12_begin_40 : decode cX12_begin 40 = .ok (.iload_n 1, 1) := by decide +kernel
theorem dX12_begin_41 : decode cX12_begin 41 = .ok (.lconst 0, 1) := by decide +kernel
theorem dX12_begin_42 : decode cX12_begin 42 = .ok (.lastore, 1) := by decide +kernel
theorem dX12_begin_43 : decode cX12_begin 43 = .ok (.iinc 1 1, 3) := by decide +kernel
theorem dX12_begin_46 : decode cX12_begin 46 = .ok (.goto (-16), 3) := by decide +kernel
theorem dX12_begin_49 : decode cX12_begin 49 = .ok (.iconst 0, 1) := by decide +kernel
theorem dX12_begin_50 : decode cX12_begin 50 = .ok (.istore_n 1, 1) := by decide +kernel
theorem dX12_begin_51 : decode cX12_begin 51 = .ok (.iload_n 1, 1) := by decide +kernel
theorem dX12_begin_52 : decode cX12_begin 52 = .ok (.bipush 16, 2) := by decide +kernel
theorem dX12_begin_54 : decode cX12_begin 54 = .ok (.if_icmp .ge 16, 3) := by decide +kernel
theorem dX12_begin_57 : decode cX12_begin 57 = .ok (.aload_n 0, 1) := by decide +kernel
theorem dX12_begin_58 : decode cX12_begin 58 = .ok (.getfield 130, 3) := by decide +kernel
theorem dX12_begin_61 : decode cX12_begin 61 = .ok (.iload_n 1, 1) := by decide +kernel
theorem dX12_begin_62 : decode cX12_begin 62 = .ok (.lconst 0, 1) := by decide +kernel
theorem dX12_begin_63 : decode cX12_begin 63 = .ok (.lastore, 1) := by decide +kernel
theorem dX12_begin_64 : decode cX12_begin 64 = .ok (.iinc 1 1, 3) := by decide +kernel
theorem dX12_begin_67 : decode cX12_begin 67 = .ok (.goto (-16), 3) := by decide +kernel
theorem dX12_begin_70 : decode cX12_begin 70 = .ok (.iconst 0, 1) := by decide +kernel
theorem dX12_begin_71 : decode cX12_begin 71 = .ok (.istore_n 1, 1) := by decide +kernel
theorem dX12_begin_72 : decode cX12_begin 72 = .ok (.iload_n 1, 1) := by decide +kernel
theorem dX12_begin_73 : decode cX12_begin 73 = .ok (.bipush 40, 2) := by decide +kernel
theorem dX12_begin_75 : decode cX12_begin 75 = .ok (.if_icmp .ge 16, 3) := by decide +kernel
theorem dX12_begin_78 : decode cX12_begin 78 = .ok (.aload_n 0, 1) := by decide +kernel
theorem dX12_begin_79 : decode cX12_begin 79 = .ok (.getfield 139, 3) := by decide +kernel
theorem dX12_begin_82 : decode cX12_begin 82 = .ok (.iload_n 1, 1) := by decide +kernel
theorem dX12_begin_83 : decode cX12_begin 83 = .ok (.lconst 0, 1) := by decide +kernel
theorem dX12_begin_84 : decode cX12_begin 84 = .ok (.lastore, 1) := by decide +kernel
theorem dX12_begin_85 : decode cX12_begin 85 = .ok (.iinc 1 1, 3) := by decide +kernel
theorem dX12_begin_88 : decode cX12_begin 88 = .ok (.goto (-16), 3) := by decide +kernel
theorem dX12_begin_91 : decode cX12_begin 91 = .ok (.aload_n 0, 1) := by decide +kernel
theorem dX12_begin_92 : decode cX12_begin 92 = .ok (.iconst 0, 1) := by decide +kernel
theorem dX12_begin_93 : decode cX12_begin 93 = .ok (.putfield 289, 3) := by decide +kernel
theorem dX12_begin_96 : decode cX12_begin 96 = .ok (.aload_n 0, 1) := by decide +kernel
theorem dX12_begin_97 : decode cX12_begin 97 = .ok (.iconst 0, 1) := by decide +kernel
theorem dX12_begin_98 : decode cX12_begin 98 = .ok (.putfield 292, 3) := by decide +kernel
theorem dX12_begin_101 : decode cX12_begin 101 = .ok (.aload_n 0, 1) := by decide +kernel
theorem dX12_begin_102 : decode cX12_begin 102 = .ok (.iconst 0, 1) := by decide +kernel
theorem dX12_begin_103 : decode cX12_begin 103 = .ok (.putfield 271, 3) := by decide +kernel
theorem dX12_begin_106 : decode cX12_begin 106 = .ok (.aload_n 0, 1) := by decide +kernel
theorem dX12_begin_107 : decode cX12_begin 107 = .ok (.lconst 0, 1) := by decide +kernel
theorem dX12_begin_108 : decode cX12_begin 108 = .ok (.putfield 295, 3) := by decide +kernel
theorem dX12_begin_111 : decode cX12_begin 111 = .ok (.aload_n 0, 1) := by decide +kernel
theorem dX12_begin_112 : decode cX12_begin 112 = .ok (.lconst 0, 1) := by decide +kernel
theorem dX12_begin_113 : decode cX12_begin 113 = .ok (.putfield 299, 3) := by decide +kernel
theorem dX12_begin_116 : decode cX12_begin 116 = .ok (.aload_n 0, 1) := by decide +kernel
theorem dX12_begin_117 : decode cX12_begin 117 = .ok (.lconst 0, 1) := by decide +kernel
theorem dX12_begin_118 : decode cX12_begin 118 = .ok (.putfield 302, 3) := by decide +kernel
theorem dX12_begin_121 : decode cX12_begin 121 = .ok (.aload_n 0, 1) := by decide +kernel
theorem dX12_begin_122 : decode cX12_begin 122 = .ok (.lconst 0, 1) := by decide +kernel
theorem dX12_begin_123 : decode cX12_begin 123 = .ok (.putfield 305, 3) := by decide +kernel
theorem dX12_begin_126 : decode cX12_begin 126 = .ok (.iconst 0, 1) := by decide +kernel
theorem dX12_begin_127 : decode cX12_begin 127 = .ok (.istore_n 1, 1) := by decide +kernel
theorem dX12_begin_128 : decode cX12_begin 128 = .ok (.iload_n 1, 1) := by decide +kernel
theorem dX12_begin_129 : decode cX12_begin 129 = .ok (.bipush 80, 2) := by decide +kernel
theorem dX12_begin_131 : decode cX12_begin 131 = .ok (.if_icmp .ge 25, 3) := by decide +kernel
theorem dX12_begin_134 : decode cX12_begin 134 = .ok (.aload_n 0, 1) := by decide +kernel
theorem dX12_begin_135 : decode cX12_begin 135 = .ok (.bipush 80, 2) := by decide +kernel
theorem dX12_begin_137 : decode cX12_begin 137 = .ok (.iload_n 1, 1) := by decide +kernel
theorem dX12_begin_138 : decode cX12_begin 138 = .ok (.iadd, 1) := by decide +kernel
theorem dX12_begin_139 : decode cX12_begin 139 = .ok (.iload_n 1, 1) := by decide +kernel
theorem dX12_begin_140 : decode cX12_begin 140 = .ok (.invokevirtual 308, 3) := by decide +kernel
theorem dX12_begin_143 : decode cX12_begin 143 = .ok (.aload_n 0, 1) := by decide +kernel
theorem dX12_begin_144 : decode cX12_begin 144 = .ok (.getfield 44, 3) := by decide +kernel
theorem dX12_begin_147 : decode cX12_begin 147 = .ok (.iload_n 1, 1) := by decide +kernel
theorem dX12_begin_148 : decode cX12_begin 148 = .ok (.iconst 0, 1) := by decide +kernel
theorem dX12_begin_149 : decode cX12_begin 149 = .ok (.bastore, 1) := by decide +kernel
theorem dX12_begin_150 : decode cX12_begin 150 = .ok (.iinc 1 1, 3) := by decide +kernel
theorem dX12_begin_153 : decode cX12_begin 153 = .ok (.goto (-25), 3) := by decide +kernel
theorem dX12_begin_156 : decode cX12_begin 156 = .ok (.return_, 1) := by decide +kernel
set_option maxRecDepth 100000 in
set_option maxHeartbeats 4000000 in
theorem c_X12_begin (l : Launch) (D : va_G) (t : Nat → ClassId) (h0 : Nat) (L : Nat → Nat) (σ : HS) (hM : MdI h0 L σ)  (post : HS → Prop) (hw : F_X12_begin h0 L  post σ) (sz : Nat) : RMv l D t yX12_begin cX12_begin 2 ({ frames := 1, cells := 0, slots := 0, locals := 23 }) h0 L σ sz [.ref h0] post := by
  refine h_go (τ := τT) okT (by decide) (Nat.le_of_ble_eq_true rfl) ?_
  intro p e s m below meth c ls A hF hr hlk hAe hH0 hA hl
  unfold hB
  rw [hAe]
  clear hAe
  have hF : FX p m c cX12_begin 2 s _ RX12 D t := hF
  have hx := hF.1.1
  have hb := hF.1.2.1
  have hH : RT D t A s.heap h0 L σ s.heap [] := ⟨hH0, hM⟩
  have hl : lv_has ls 2 [(0, .ref h0)] := hl
  unfold F_X12_begin at hw
  refine lv_iconst (v := 0) hx hb dX12_begin_0 (by decide) ?_
  refine lv_istore_n (lv' := [(1, .int 0), (0, .ref h0)]) hx hb dX12_begin_1 rfl hl (by decide) rfl (fun ls hl => ?_)
  refine w_loop (β := Int32) (fun x1 => [(1, .int x1), (0, .ref h0)]) 0 hl hw hH (fun K3 x1 σ2 ls H locs hl hw hH ih4 => ?_)
  have hl : lv_has ls 2 [(1, .int x1), (0, .ref h0)] := hl
  refine lv_iload_n hx hb dX12_begin_2 rfl (lv_at hl 0 rfl) ?_
  refine lv_bipush (v := 6) hx hb dX12_begin_3 (by decide) ?_
  refine w_icmp_ge (tgt := 28) hF dX12_begin_5 rfl hw (fun hw => ?_) (fun hw => ?_)
  · refine lv_iconst (v := 0) hx hb dX12_begin_28 (by decide) ?_
    refine lv_istore_n (lv' := [(1, .int 0), (0, .ref h0)]) hx hb dX12_begin_29 rfl hl (by decide) rfl (fun ls hl => ?_)
    refine w_loop (β := Int32) (fun x5 => [(1, .int x5), (0, .ref h0)]) 0 hl hw hH (fun K7 x5 σ6 ls H locs hl hw hH ih8 => ?_)
    have hl : lv_has ls 2 [(1, .int x5), (0, .ref h0)] := hl
    refine lv_iload_n hx hb dX12_begin_30 rfl (lv_at hl 0 rfl) ?_
    refine lv_bipush (v := 8) hx hb dX12_begin_31 (by decide) ?_
    refine w_icmp_ge (tgt := 49) hF dX12_begin_33 rfl hw (fun hw => ?_) (fun hw => ?_)
    · refine lv_iconst (v := 0) hx hb dX12_begin_49 (by decide) ?_
      refine lv_istore_n (lv' := [(1, .int 0), (0, .ref h0)]) hx hb dX12_begin_50 rfl hl (by decide) rfl (fun ls hl => ?_)
      refine w_loop (β := Int32) (fun x9 => [(1, .int x9), (0, .ref h0)]) 0 hl hw hH (fun K11 x9 σ10 ls H locs hl hw hH ih12 => ?_)
      have hl : lv_has ls 2 [(1, .int x9), (0, .ref h0)] := hl
      refine lv_iload_n hx hb dX12_begin_51 rfl (lv_at hl 0 rfl) ?_
      refine lv_bipush (v := 16) hx hb dX12_begin_52 (by decide) ?_
      refine w_icmp_ge (tgt := 70) hF dX12_begin_54 rfl hw (fun hw => ?_) (fun hw => ?_)
      · refine lv_iconst (v := 0) hx hb dX12_begin_70 (by decide) ?_
        refine lv_istore_n (lv' := [(1, .int 0), (0, .ref h0)]) hx hb dX12_begin_71 rfl hl (by decide) rfl (fun ls hl => ?_)
        refine w_loop (β := Int32) (fun x13 => [(1, .int x13), (0, .ref h0)]) 0 hl hw hH (fun K15 x13 σ14 ls H locs hl hw hH ih16 => ?_)
        have hl : lv_has ls 2 [(1, .int x13), (0, .ref h0)] := hl
        refine lv_iload_n hx hb dX12_begin_72 rfl (lv_at hl 0 rfl) ?_
        refine lv_bipush (v := 40) hx hb dX12_begin_73 (by decide) ?_
        refine w_icmp_ge (tgt := 91) hF dX12_begin_75 rfl hw (fun hw => ?_) (fun hw => ?_)
        · refine lv_aload_n hx hb dX12_begin_91 rfl (lv_at hl 1 rfl) ?_
          refine lv_iconst (v := 0) hx hb dX12_begin_92 (by decide) ?_
          refine w_putI hF hH fk_X12_289 dX12_begin_93 rfl rfl rfl hw (fun σ17 H locs hw hH => ?_)
          refine lv_aload_n hx hb dX12_begin_96 rfl (lv_at hl 1 rfl) ?_
          refine lv_iconst (v := 0) hx hb dX12_begin_97 (by decide) ?_
          refine w_putI hF hH fk_X12_292 dX12_begin_98 rfl rfl rfl hw (fun σ18 H locs hw hH => ?_)
          refine lv_aload_n hx hb dX12_begin_101 rfl (lv_at hl 1 rfl) ?_
          refine lv_iconst (v := 0) hx hb dX12_begin_102 (by decide) ?_
          refine w_putI hF hH fk_X12_271 dX12_begin_103 rfl rfl rfl hw (fun σ19 H locs hw hH => ?_)
          refine lv_aload_n hx hb dX12_begin_106 rfl (lv_at hl 1 rfl) ?_
          refine lv_lconst (v := 0) hx hb dX12_begin_107 (by decide) ?_
          refine w_putJ hF hH fk_X12_295 dX12_begin_108 rfl rfl rfl hw (fun σ20 H locs hw hH => ?_)
          refine lv_aload_n hx hb dX12_begin_111 rfl (lv_at hl 1 rfl) ?_
          refine lv_lconst (v := 0) hx hb dX12_begin_112 (by decide) ?_
          refine w_putJ hF hH fk_X12_299 dX12_begin_113 rfl rfl rfl hw (fun σ21 H locs hw hH => ?_)
          refine lv_aload_n hx hb dX12_begin_116 rfl (lv_at hl 1 rfl) ?_
          refine lv_lconst (v := 0) hx hb dX12_begin_117 (by decide) ?_
          refine w_putJ hF hH fk_X12_302 dX12_begin_118 rfl rfl rfl hw (fun σ22 H locs hw hH => ?_)
          refine lv_aload_n hx hb dX12_begin_121 rfl (lv_at hl 1 rfl) ?_
          refine lv_lconst (v := 0) hx hb dX12_begin_122 (by decide) ?_
          refine w_putJ hF hH fk_X12_305 dX12_begin_123 rfl rfl rfl hw (fun σ23 H locs hw hH => ?_)
          refine lv_iconst (v := 0) hx hb dX12_begin_126 (by decide) ?_
          refine lv_istore_n (lv' := [(1, .int 0), (0, .ref h0)]) hx hb dX12_begin_127 rfl hl (by decide) rfl (fun ls hl => ?_)
          refine w_loop (β := Int32) (fun x24 => [(1, .int x24), (0, .ref h0)]) 0 hl hw hH (fun K26 x24 σ25 ls H locs hl hw hH ih27 => ?_)
          have hl : lv_has ls 2 [(1, .int x24), (0, .ref h0)] := hl
          refine lv_iload_n hx hb dX12_begin_128 rfl (lv_at hl 0 rfl) ?_
          refine lv_bipush (v := 80) hx hb dX12_begin_129 (by decide) ?_
          refine w_icmp_ge (tgt := 156) hF dX12_begin_131 rfl hw (fun hw => ?_) (fun hw => ?_)
          · exact w_retv hF hH hr hlk dX12_begin_156 hw
          · refine lv_aload_n hx hb dX12_begin_134 rfl (lv_at hl 1 rfl) ?_
            refine lv_bipush (v := 80) hx hb dX12_begin_135 (by decide) ?_
            refine lv_iload_n hx hb dX12_begin_137 rfl (lv_at hl 0 rfl) ?_
            refine lv_iadd hx hb dX12_begin_138 ?_
            refine w_nmi hw (fun z28 hw => ?_)
            refine lv_iload_n hx hb dX12_begin_139 rfl (lv_at hl 0 rfl) ?_
            refine w_cVv (As := [.int z28, .int x24]) (rest := []) hF hH hA mv_X12_308 (fun sz => c_X12_copyNode l D t h0 L _ hH.2 z28 x24 _ hw sz) dX12_begin_140 rfl rfl (by decide) rfl hl.1 (Nat.le_of_ble_eq_true rfl) (by decide) rfl (fun σ29 H locs hw hH => ?_)
            refine lv_aload_n hx hb dX12_begin_143 rfl (lv_at hl 1 rfl) ?_
            refine w_getA 10 hF hH fk_X12_44 dX12_begin_144 (by decide) rfl ?_
            refine lv_iload_n hx hb dX12_begin_147 rfl (lv_at hl 0 rfl) ?_
            refine lv_iconst (v := 0) hx hb dX12_begin_148 (by decide) ?_
            refine w_zast 10 80 hF hH dX12_begin_149 (by decide) rfl rfl hw (fun σ31 H locs hw hH => ?_)
            obtain ⟨z32, ez32⟩ : ∃ z : Int32, z = x24 + 1 := ⟨_, rfl⟩
            have hw := hw z32 ez32
            refine lv_iinc (lv' := [(1, .int z32), (0, .ref h0)]) (k := 0) (v := z32) hx hb dX12_begin_150 hl rfl ez32.symm (by decide) rfl (fun ls hl => ?_)
            refine lv_goto (tgt := 128) hx hb dX12_begin_153 rfl ?_
            exact ih27 z32 σ31 ls _ _ hl hw hH
        · refine lv_aload_n hx hb dX12_begin_78 rfl (lv_at hl 1 rfl) ?_
          refine w_getA 41 hF hH fk_X12_139 dX12_begin_79 (by decide) rfl ?_
          refine lv_iload_n hx hb dX12_begin_82 rfl (lv_at hl 0 rfl) ?_
          refine lv_lconst (v := 0) hx hb dX12_begin_83 (by decide) ?_
          refine w_last 41 40 hF hH dX12_begin_84 (by decide) rfl rfl hw (fun σ33 H locs hw hH => ?_)
          obtain ⟨z34, ez34⟩ : ∃ z : Int32, z = x13 + 1 := ⟨_, rfl⟩
          have hw := hw z34 ez34
          refine lv_iinc (lv' := [(1, .int z34), (0, .ref h0)]) (k := 0) (v := z34) hx hb dX12_begin_85 hl rfl ez34.symm (by decide) rfl (fun ls hl => ?_)
          refine lv_goto (tgt := 72) hx hb dX12_begin_88 rfl ?_
          exact ih16 z34 σ33 ls _ _ hl hw hH
      · refine lv_aload_n hx hb dX12_begin_57 rfl (lv_at hl 1 rfl) ?_
        refine w_getA 38 hF hH fk_X12_130 dX12_begin_58 (by decide) rfl ?_
        refine lv_iload_n hx hb dX12_begin_61 rfl (lv_at hl 0 rfl) ?_
        refine lv_lconst (v := 0) hx hb dX12_begin_62 (by decide) ?_
        refine w_last 38 16 hF hH dX12_begin_63 (by decide) rfl rfl hw (fun σ35 H locs hw hH => ?_)
        obtain ⟨z36, ez36⟩ : ∃ z : Int32, z = x9 + 1 := ⟨_, rfl⟩
        have hw := hw z36 ez36
        refine lv_iinc (lv' := [(1, .int z36), (0, .ref h0)]) (k := 0) (v := z36) hx hb dX12_begin_64 hl rfl ez36.symm (by decide) rfl (fun ls hl => ?_)
        refine lv_goto (tgt := 51) hx hb dX12_begin_67 rfl ?_
        exact ih12 z36 σ35 ls _ _ hl hw hH
    · refine lv_aload_n hx hb dX12_begin_36 rfl (lv_at hl 1 rfl) ?_
      refine w_getA 34 hF hH fk_X12_118 dX12_begin_37 (by decide) rfl ?_
      refine lv_iload_n hx hb dX12_begin_40 rfl (lv_at hl 0 rfl) ?_
      refine lv_lconst (v := 0) hx hb dX12_begin_41 (by decide) ?_
      refine w_last 34 8 hF hH dX12_begin_42 (by decide) rfl rfl hw (fun σ37 H locs hw hH => ?_)
      obtain ⟨z38, ez38⟩ : ∃ z : Int32, z = x5 + 1 := ⟨_, rfl⟩
      have hw := hw z38 ez38
      refine lv_iinc (lv' := [(1, .int z38), (0, .ref h0)]) (k := 0) (v := z38) hx hb dX12_begin_43 hl rfl ez38.symm (by decide) rfl (fun ls hl => ?_)
      refine lv_goto (tgt := 30) hx hb dX12_begin_46 rfl ?_
      exact ih8 z38 σ37 ls _ _ hl hw hH
  · refine lv_aload_n hx hb dX12_begin_8 rfl (lv_at hl 1 rfl) ?_
    refine w_getA 25 hF hH fk_X12_89 dX12_begin_9 (by decide) rfl ?_
    refine lv_iload_n hx hb dX12_begin_12 rfl (lv_at hl 0 rfl) ?_
    refine lv_iconst (v := 0) hx hb dX12_begin_13 (by decide) ?_
    refine w_zast 25 6 hF hH dX12_begin_14 (by decide) rfl rfl hw (fun σ39 H locs hw hH => ?_)
    refine lv_aload_n hx hb dX12_begin_15 rfl (lv_at hl 1 rfl) ?_
    refine w_getA 28 hF hH fk_X12_99 dX12_begin_16 (by decide) rfl ?_
    refine lv_iload_n hx hb dX12_begin_19 rfl (lv_at hl 0 rfl) ?_
    refine lv_iconst (v := 0) hx hb dX12_begin_20 (by decide) ?_
    refine w_iast 28 6 hF hH dX12_begin_21 (by decide) rfl rfl hw (fun σ40 H locs hw hH => ?_)
    obtain ⟨z41, ez41⟩ : ∃ z : Int32, z = x1 + 1 := ⟨_, rfl⟩
    have hw := hw z41 ez41
    refine lv_iinc (lv' := [(1, .int z41), (0, .ref h0)]) (k := 0) (v := z41) hx hb dX12_begin_22 hl rfl ez41.symm (by decide) rfl (fun ls hl => ?_)
    refine lv_goto (tgt := 2) hx hb dX12_begin_25 rfl ?_
    exact ih4 z41 σ40 ls _ _ hl hw hH
def F_X12_share (h0 : Nat) (L : Nat → Nat) (a1 : Int32) (post : Int32 → HS → Prop) (σ : HS) : Prop := ∀ z1 : Int32, z1 = sI σ h0 1 → ∀ σ2 : HS, σ2 = h_uI σ h0 1 0 → jn (fun (K5 : Unit → HS → Prop) => ((a1.toInt < 0) → K5 () σ2) ∧ ((0 ≤ a1.toInt) → (((3 : Int32).toInt < a1.toInt) → K5 () σ2) ∧ ((a1.toInt ≤ (3 : Int32).toInt) → (0 ≤ a1.toInt ∧ a1.toInt < 4) ∧ ∀ z8 : Int32, z8 = sI σ2 (L 11) a1.toInt.toNat → ((0 ≤ z8.toInt) → K5 () σ2) ∧ ((z8.toInt < 0) → ((z1.toInt < (1 : Int32).toInt) → K5 () σ2) ∧ (((1 : Int32).toInt ≤ z1.toInt) → ((z1.toInt ≤ (12 : Int32).toInt) → lw (fun (K11 : (Int32 × Int32) → HS → Prop) (x9 : Int32 × Int32) (σ10 : HS) => ((z1.toInt ≤ x9.1.toInt) → lw (fun (K15 : (Int32 × Int32) → HS → Prop) (x13 : Int32 × Int32) (σ14 : HS) => jn (fun (K19 : Unit → HS → Prop) => (((4 : Int32).toInt ≤ x13.1.toInt) → K19 () σ14) ∧ ((x13.1.toInt < (4 : Int32).toInt) → ((x13.2.toInt = 0) → K19 () σ14) ∧ ((¬ x13.2.toInt = 0) → (0 ≤ x13.1.toInt ∧ x13.1.toInt < 4) ∧ ∀ z72 : Int32, z72 = sI σ14 (L 11) x13.1.toInt.toNat → jn (fun (K75 : Int32 → HS → Prop) => jn (fun (K109 : Unit → HS → Prop) => ((z72.toInt < 0) → K109 () σ14) ∧ ((0 ≤ z72.toInt) → (0 ≤ x13.1.toInt ∧ x13.1.toInt < 4) ∧ ∀ z112 : Int32, z112 = sI σ14 (L 13) x13.1.toInt.toNat → ((¬ z112.toInt = z1.toInt) → K109 () σ14) ∧ ((z112.toInt = z1.toInt) → K75 1 σ14))) (fun (x107 : Unit) (σ108 : HS) => K75 0 σ108)) (fun (x73 : Int32) (σ74 : HS) => lw (fun (K80 : (Int32 × Int32) → HS → Prop) (x78 : Int32 × Int32) (σ79 : HS) => jn (fun (K84 : Unit → HS → Prop) => ((z1.toInt ≤ x78.1.toInt) → K84 () σ79) ∧ ((x78.1.toInt < z1.toInt) → ((x78.2.toInt = 0) → K84 () σ79) ∧ ((¬ x78.2.toInt = 0) → ∀ z93 : Int32, z93 = 12 * x13.1 → ∀ z94 : Int32, z94 = z93 + x78.1 → (0 ≤ z94.toInt ∧ z94.toInt < 48) ∧ ∀ z95 : Int32, z95 = sI σ79 (L 12) z94.toInt.toNat → F_X12_folded h0 L z95 (fun (z97 : Int32) (σ96 : HS) => (0 ≤ x78.1.toInt ∧ x78.1.toInt < 8000) ∧ ∀ z98 : Int32, z98 = sI σ96 (L 0) x78.1.toInt.toNat → F_X12_folded h0 L z98 (fun (z100 : Int32) (σ99 : HS) => jn (fun (K103 : Int32 → HS → Prop) => ((¬ z97.toInt = z100.toInt) → K103 0 σ99) ∧ ((z97.toInt = z100.toInt) → K103 1 σ99)) (fun (x101 : Int32) (σ102 : HS) => ∀ z106 : Int32, z106 = x78.1 + 1 → K80 (z106, x101) σ102)) σ96) σ79))) (fun (x82 : Unit) (σ83 : HS) => jn (fun (K89 : Int32 → HS → Prop) => ((¬ x78.2.toInt = 0) → K89 0 σ83) ∧ ((x78.2.toInt = 0) → K89 1 σ83)) (fun (x87 : Int32) (σ88 : HS) => ∀ z92 : Int32, z92 = x13.1 + 1 → K15 (z92, x87) σ88))) (0, x73) σ74)))) (fun (x17 : Unit) (σ18 : HS) => jn (fun (K24 : Unit → HS → Prop) => ((x13.2.toInt = 0) → K24 () σ18) ∧ ((¬ x13.2.toInt = 0) → F_X12_nodes h0 L 0 (fun (z28 : Int32) (σ27 : HS) => ((¬ z28.toInt = (80 : Int32).toInt) → F_X12_allCome h0 L  (fun (σ29 : HS) => F_X12_freeNode h0 L  (fun (z32 : Int32) (σ31 : HS) => lw (fun (K35 : Int32 → HS → Prop) (x33 : Int32) (σ34 : HS) => (((80 : Int32).toInt < x33.toInt) → (0 ≤ z32.toInt ∧ z32.toInt < 80) ∧ ∀ σ37 : HS, σ37 = h_uI σ34 (L 10) z32.toInt.toNat (vp_nar .boolean 0) → (0 ≤ a1.toInt ∧ a1.toInt < 4) ∧ ∀ σ38 : HS, σ38 = h_uI σ37 (L 11) a1.toInt.toNat z32 → (0 ≤ a1.toInt ∧ a1.toInt < 4) ∧ ∀ σ39 : HS, σ39 = h_uI σ38 (L 13) a1.toInt.toNat z1 → lw (fun (K42 : Int32 → HS → Prop) (x40 : Int32) (σ41 : HS) => ((z1.toInt ≤ x40.toInt) → (0 ≤ (1 : Int32).toInt ∧ (1 : Int32).toInt ≤ 1) ∧ post 1 σ41) ∧ ((x40.toInt < z1.toInt) → ∀ z44 : Int32, z44 = 12 * a1 → ∀ z45 : Int32, z45 = z44 + x40 → (0 ≤ x40.toInt ∧ x40.toInt < 8000) ∧ ∀ z46 : Int32, z46 = sI σ41 (L 0) x40.toInt.toNat → (0 ≤ z45.toInt ∧ z45.toInt < 48) ∧ ∀ σ47 : HS, σ47 = h_uI σ41 (L 12) z45.toInt.toNat (vp_nar .byte z46) → ∀ z48 : Int32, z48 = x40 + 1 → K42 z48 σ47)) 0 σ39) ∧ ((x33.toInt ≤ (80 : Int32).toInt) → ∀ z49 : Int32, z49 = x33 + z32 → (0 ≤ z49.toInt ∧ z49.toInt < 160) ∧ ∀ σ50 : HS, σ50 = h_uI σ34 (L 1) z49.toInt.toNat (vp_nar .boolean 1) → ∀ z51 : Int32, z51 = x33 + z32 → (0 ≤ z51.toInt ∧ z51.toInt < 160) ∧ ∀ σ52 : HS, σ52 = h_uI σ50 (L 2) z51.toInt.toNat (-1) → ∀ z53 : Int32, z53 = x33 + z32 → (0 ≤ z53.toInt ∧ z53.toInt < 160) ∧ ∀ σ54 : HS, σ54 = h_uI σ52 (L 3) z53.toInt.toNat (vp_nar .boolean 1) → ∀ z55 : Int32, z55 = x33 + z32 → (0 ≤ z55.toInt ∧ z55.toInt < 160) ∧ ∀ σ56 : HS, σ56 = h_uI σ54 (L 5) z55.toInt.toNat 0 → ∀ z57 : Int32, z57 = x33 + z32 → (0 ≤ z57.toInt ∧ z57.toInt < 160) ∧ ∀ σ58 : HS, σ58 = h_uI σ56 (L 6) z57.toInt.toNat 0 → ∀ z59 : Int32, z59 = x33 + z32 → (0 ≤ z59.toInt ∧ z59.toInt < 160) ∧ ∀ σ60 : HS, σ60 = h_uI σ58 (L 8) z59.toInt.toNat 0 → lw (fun (K63 : Int32 → HS → Prop) (x61 : Int32) (σ62 : HS) => (((4 : Int32).toInt ≤ x61.toInt) → ∀ z65 : Int32, z65 = x33 + 80 → K35 z65 σ62) ∧ ((x61.toInt < (4 : Int32).toInt) → ∀ z66 : Int32, z66 = x33 + z32 → ∀ z67 : Int32, z67 = 4 * z66 → ∀ z68 : Int32, z68 = z67 + x61 → ∀ z69 : Int64, z69 = sJ σ62 h0 2 → (0 ≤ z68.toInt ∧ z68.toInt < 640) ∧ ∀ σ70 : HS, σ70 = h_uJ σ62 (L 7) z68.toInt.toNat z69 → ∀ z71 : Int32, z71 = x61 + 1 → K63 z71 σ70)) 0 σ60)) 0 σ31) σ29) σ27) ∧ ((z28.toInt = (80 : Int32).toInt) → K24 () σ27)) σ18)) (fun (x22 : Unit) (σ23 : HS) => (0 ≤ (0 : Int32).toInt ∧ (0 : Int32).toInt ≤ 1) ∧ post 0 σ23))) (0, x9.2) σ10) ∧ ((x9.1.toInt < z1.toInt) → jn (fun (K115 : Int32 → HS → Prop) => jn (fun (K121 : Unit → HS → Prop) => ((x9.2.toInt = 0) → K121 () σ10) ∧ ((¬ x9.2.toInt = 0) → (0 ≤ x9.1.toInt ∧ x9.1.toInt < 8000) ∧ ∀ z124 : Int32, z124 = sI σ10 (L 0) x9.1.toInt.toNat → ((z124.toInt < (33 : Int32).toInt) → K121 () σ10) ∧ (((33 : Int32).toInt ≤ z124.toInt) → (0 ≤ x9.1.toInt ∧ x9.1.toInt < 8000) ∧ ∀ z125 : Int32, z125 = sI σ10 (L 0) x9.1.toInt.toNat → (((126 : Int32).toInt < z125.toInt) → K121 () σ10) ∧ ((z125.toInt ≤ (126 : Int32).toInt) → (0 ≤ x9.1.toInt ∧ x9.1.toInt < 8000) ∧ ∀ z126 : Int32, z126 = sI σ10 (L 0) x9.1.toInt.toNat → ((z126.toInt = (92 : Int32).toInt) → K121 () σ10) ∧ ((¬ z126.toInt = (92 : Int32).toInt) → K115 1 σ10))))) (fun (x119 : Unit) (σ120 : HS) => K115 0 σ120)) (fun (x113 : Int32) (σ114 : HS) => ∀ z118 : Int32, z118 = x9.1 + 1 → K11 (z118, x113) σ114))) (0, 1) σ2) ∧ (((12 : Int32).toInt < z1.toInt) → K5 () σ2)))))) (fun (x3 : Unit) (σ4 : HS) => (0 ≤ (0 : Int32).toInt ∧ (0 : Int32).toInt ≤ 1) ∧ post 0 σ4)
theorem dX12_share_0 : decode cX12_share 0 = .ok (.aload_n 0, 1) := by decide +kernel
theorem dX12_share_1 : decode cX12_share 1 = .ok (.getfield 261, 3) := by decide +kernel
theorem dX12_share_4 : decode cX12_share 4 = .ok (.istore_n 2, 1) := by decide +kernel
theorem dX12_share_5 : decode cX12_share 5 = .ok (.aload_n 0, 1) := by decide +kernel
theorem dX12_share_6 : decode cX12_share 6 = .ok (.iconst 0, 1) := by decide +kernel
theorem dX12_share_7 : decode cX12_share 7 = .ok (.putfield 261, 3) := by decide +kernel
theorem dX12_share_10 : decode cX12_share 10 = .ok (.iload_n 1, 1) := by decide +kernel
theorem dX12_share_11 : decode cX12_share 11 = .ok (.ifCond .lt 28, 3) := by decide +kernel
theorem dX12_share_14 : decode cX12_share 14 = .ok (.iload_n 1, 1) := by decide +kernel
theorem dX12_share_15 : decode cX12_share 15 = .ok (.iconst 3, 1) := by decide +kernel
theorem dX12_share_16 : decode cX12_share 16 = .ok (.if_icmp .gt 23, 3) := by decide +kernel
theorem dX12_share_19 : decode cX12_share 19 = .ok (.aload_n 0, 1) := by decide +kernel
theorem dX12_share_20 : decode cX12_share 20 = .ok (.getfield 47, 3) := by decide +kernel
theorem dX12_share_23 : decode cX12_share 23 = .ok (.iload_n 1, 1) := by decide +kernel
theorem dX12_share_24 : decode cX12_share 24 = .ok (.iaload, 1) := by decide +kernel
theorem dX12_share_25 : decode cX12_share 25 = .ok (.ifCond .ge 14, 3) := by decide +kernel
theorem dX12_share_28 : decode cX12_share 28 = .ok (.iload_n 2, 1) := by decide +kernel
theorem dX12_share_29 : decode cX12_share 29 = .ok (.iconst 1, 1) := by decide +kernel
theorem dX12_share_30 : decode cX12_share 30 = .ok (.if_icmp .lt 9, 3) := by decide +kernel
theorem dX12_share_33 : decode cX12_share 33 = .ok (.iload_n 2, 1) := by decide +kernel
theorem dX12_share_34 : decode cX12_share 34 = .ok (.bipush 12, 2) := by decide +kernel
theorem dX12_share_36 : decode cX12_share 36 = .ok (.if_icmp .le 5, 3) := by decide +kernel
theorem dX12_share_39 : decode cX12_share 39 = .ok (.iconst 0, 1) := by decide +kernel
theorem dX12_share_40 : decode cX12_share 40 = .ok (.ireturn, 1) := by decide +kernel
theorem dX12_share_41 : decode cX12_share 41 = .ok (.iconst 1, 1) := by decide +kernel
theorem dX12_share_42 : decode cX12_share 42 = .ok (.istore_n 3, 1) := by decide +kernel
theorem dX12_share_43 : decode cX12_share 43 = .ok (.iconst 0, 1) := by decide +kernel
theorem dX12_share_44 : decode cX12_share 44 = .ok (.istore 4, 2) := by decide +kernel
theorem dX12_share_46 : decode cX12_share 46 = .ok (.iload 4, 2) := by decide +kernel
theorem dX12_share_48 : decode cX12_share 48 = .ok (.iload_n 2, 1) := by decide +kernel
theorem dX12_share_49 : decode cX12_share 49 = .ok (.if_icmp .ge 55, 3) := by decide +kernel
theorem dX12_share_52 : decode cX12_share 52 = .ok (.iload_n 3, 1) := by decide +kernel
theorem dX12_share_53 : decode cX12_share 53 = .ok (.ifCond .eq 43, 3) := by decide +kernel
theorem dX12_share_56 : decode cX12_share 56 = .ok (.aload_n 0, 1) := by decide +kernel
theorem dX12_share_57 : decode cX12_share 57 = .ok (.getfield 7, 3) := by decide +kernel
theorem dX12_share_60 : decode cX12_share 60 = .ok (.iload 4, 2) := by decide +kernel
theorem dX12_share_62 : decode cX12_share 62 = .ok (.baload, 1) := by decide +kernel
theorem dX12_share_63 : decode cX12_share 63 = .ok (.bipush 33, 2) := by decide +kernel
theorem dX12_share_65 : decode cX12_share 65 = .ok (.if_icmp .lt 31, 3) := by decide +kernel
theorem dX12_share_68 : decode cX12_share 68 = .ok (.aload_n 0, 1) := by decide +kernel
theorem dX12_share_69 : decode cX12_share 69 = .ok (.getfield 7, 3) := by decide +kernel
theorem dX12_share_72 : decode cX12_share 72 = .ok (.iload 4, 2) := by decide +kernel
theorem dX12_share_74 : decode cX12_share 74 = .ok (.baload, 1) := by decide +kernel
theorem dX12_share_75 : decode cX12_share 75 = .ok (.bipush 126, 2) := by decide +kernel
theorem dX12_share_77 : decode cX12_share 77 = .ok (.if_icmp .gt 19, 3) := by decide +kernel
theorem dX12_share_80 : decode cX12_share 80 = .ok (.aload_n 0, 1) := by decide +kernel
theorem dX12_share_81 : decode cX12_share 81 = .ok (.getfield 7, 3) := by decide +kernel
theorem dX12_share_84 : decode cX12_share 84 = .ok (.iload 4, 2) := by decide +kernel
theorem dX12_share_86 : decode cX12_share 86 = .ok (.baload, 1) := by decide +kernel
theorem dX12_share_87 : decode cX12_share 87 = .ok (.bipush 92, 2) := by decide +kernel
theorem dX12_share_89 : decode cX12_share 89 = .ok (.if_icmp .eq 7, 3) := by decide +kernel
theorem dX12_share_92 : decode cX12_share 92 = .ok (.iconst 1, 1) := by decide +kernel
theorem dX12_share_93 : decode cX12_share 93 = .ok (.goto 4, 3) := by decide +kernel
theorem dX12_share_96 : decode cX12_share 96 = .ok (.iconst 0, 1) := by decide +kernel
theorem dX12_share_97 : decode cX12_share 97 = .ok (.istore_n 3, 1) := by decide +kernel
theorem dX12_share_98 : decode cX12_share 98 = .ok (.iinc 4 1, 3) := by decide +kernel
theorem dX12_share_101 : decode cX12_share 101 = .ok (.goto (-55), 3) := by decide +kernel
theorem dX12_share_104 : decode cX12_share 104 = .ok (.iconst 0, 1) := by decide +kernel
theorem dX12_share_105 : decode cX12_share 105 = .ok (.istore 4, 2) := by decide +kernel
theorem dX12_share_107 : decode cX12_share 107 = .ok (.iload 4, 2) := by decide +kernel
theorem dX12_share_109 : decode cX12_share 109 = .ok (.iconst 4, 1) := by decide +kernel
theorem dX12_share_110 : decode cX12_share 110 = .ok (.if_icmp .ge 108, 3) := by decide +kernel
theorem dX12_share_113 : decode cX12_share 113 = .ok (.iload_n 3, 1) := by decide +kernel
theorem dX12_share_114 : decode cX12_share 114 = .ok (.ifCond .eq 104, 3) := by decide +kernel
theorem dX12_share_117 : decode cX12_share 117 = .ok (.aload_n 0, 1) := by decide +kernel
theorem dX12_share_118 : decode cX12_share 118 = .ok (.getfield 47, 3) := by decide +kernel
theorem dX12_share_121 : decode cX12_share 121 = .ok (.iload 4, 2) := by decide +kernel
theorem dX12_share_123 : decode cX12_share 123 = .ok (.iaload, 1) := by decide +kernel
theorem dX12_share_124 : decode cX12_share 124 = .ok (.ifCond .lt 18, 3) := by decide +kernel
theorem dX12_share_127 : decode cX12_share 127 = .ok (.aload_n 0, 1) := by decide +kernel
theorem dX12_share_128 : decode cX12_share 128 = .ok (.getfield 53, 3) := by decide +kernel
theorem dX12_share_131 : decode cX12_share 131 = .ok (.iload 4, 2) := by decide +kernel
theorem dX12_share_133 : decode cX12_share 133 = .ok (.iaload, 1) := by decide +kernel
theorem dX12_share_134 : decode cX12_share 134 = .ok (.iload_n 2, 1) := by decide +kernel
theorem dX12_share_135 : decode cX12_share 135 = .ok (.if_icmp .ne 7, 3) := by decide +kernel
theorem dX12_share_138 : decode cX12_share 138 = .ok (.iconst 1, 1) := by decide +kernel
theorem dX12_share_139 : decode cX12_share 139 = .ok (.goto 4, 3) := by decide +kernel
theorem dX12_share_142 : decode cX12_share 142 = .ok (.iconst 0, 1) := by decide +kernel
theorem dX12_share_143 : decode cX12_share 143 = .ok (.istore 5, 2) := by decide +kernel
theorem dX12_share_145 : decode cX12_share 145 = .ok (.iconst 0, 1) := by decide +kernel
theorem dX12_share_146 : decode cX12_share 146 = .ok (.istore 6, 2) := by decide +kernel
theorem dX12_share_148 : decode cX12_share 148 = .ok (.iload 6, 2) := by decide +kernel
theorem dX12_share_150 : decode cX12_share 150 = .ok (.iload_n 2, 1) := by decide +kernel
theorem dX12_share_151 : decode cX12_share 151 = .ok (.if_icmp .ge 50, 3) := by decide +kernel
theorem dX12_share_154 : decode cX12_share 154 = .ok (.iload 5, 2) := by decide +kernel
theorem dX12_share_156 : decode cX12_share 156 = .ok (.ifCond .eq 45, 3) := by decide +kernel
theorem dX12_share_159 : decode cX12_share 159 = .ok (.aload_n 0, 1) := by decide +kernel
theorem dX12_share_160 : decode cX12_share 160 = .ok (.getfield 50, 3) := by decide +kernel
theorem dX12_share_163 : decode cX12_share 163 = .ok (.bipush 12, 2) := by decide +kernel
theorem dX12_share_165 : decode cX12_share 165 = .ok (.iload 4, 2) := by decide +kernel
theorem dX12_share_167 : decode cX12_share 167 = .ok (.imul, 1) := by decide +kernel
theorem dX12_share_168 : decode cX12_share 168 = .ok (.iload 6, 2) := by decide +kernel
theorem dX12_share_170 : decode cX12_share 170 = .ok (.iadd, 1) := by decide +kernel
theorem dX12_share_171 : decode cX12_share 171 = .ok (.baload, 1) := by decide +kernel
theorem dX12_share_172 : decode cX12_share 172 = .ok (.invokestatic 311, 3) := by decide +kernel
theorem dX12_share_175 : decode cX12_share 175 = .ok (.aload_n 0, 1) := by decide +kernel
theorem dX12_share_176 : decode cX12_share 176 = .ok (.getfield 7, 3) := by decide +kernel
theorem dX12_share_179 : decode cX12_share 179 = .ok (.iload 6, 2) := by decide +kernel
theorem dX12_share_181 : decode cX12_share 181 = .ok (.baload, 1) := by decide +kernel
theorem dX12_share_182 : decode cX12_share 182 = .ok (.invokestatic 311, 3) := by decide +kernel
theorem dX12_share_185 : decode cX12_share 185 = .ok (.if_icmp .ne 7, 3) := by decide +kernel
theorem dX12_share_188 : decode cX12_share 188 = .ok (.iconst 1, 1) := by decide +kernel
theorem dX12_share_189 : decode cX12_share 189 = .ok (.goto 4, 3) := by decide +kernel
theorem dX12_share_192 : decode cX12_share 192 = .ok (.iconst 0, 1) := by decide +kernel
theorem dX12_share_193 : decode cX12_share 193 = .ok (.istore 5, 2) := by decide +kernel
theorem dX12_share_195 : decode cX12_share 195 = .ok (.iinc 6 1, 3) := by decide +kernel
theorem dX12_share_198 : decode cX12_share 198 = .ok (.goto (-50), 3) := by decide +kernel
theorem dX12_share_201 : decode cX12_share 201 = .ok (.iload 5, 2) := by decide +kernel
theorem dX12_share_203 : decode cX12_share 203 = .ok (.ifCond .ne 7, 3) := by decide +kernel
theorem dX12_share_206 : decode cX12_share 206 = .ok (.iconst 1, 1) := by decide +kernel
theorem dX12_share_207 : decode cX12_share 207 = .ok (.goto 4, 3) := by decide +kernel
theorem dX12_share_210 : decode cX12_share 210 = .ok (.iconst 0, 1) := by decide +kernel
theorem dX12_share_211 : decode cX12_share 211 = .ok (.istore_n 3, 1) := by decide +kernel
theorem dX12_share_212 : decode cX12_share 212 = .ok (.iinc 4 1, 3) := by decide +kernel
theorem dX12_share_215 : decode cX12_share 215 = .ok (.goto (-108), 3) := by decide +kernel
theorem dX12_share_218 : decode cX12_share 218 = .ok (.iload_n 3, 1) := by decide +kernel
theorem dX12_share_219 : decode cX12_share 219 = .ok (.ifCond .eq 13, 3) := by decide +kernel
theorem dX12_share_222 : decode cX12_share 222 = .ok (.aload_n 0, 1) := by decide +kernel
theorem dX12_share_223 : decode cX12_share 223 = .ok (.iconst 0, 1) := by decide +kernel
theorem dX12_share_224 : decode cX12_share 224 = .ok (.invokevirtual 315, 3) := by decide +kernel
theorem dX12_share_227 : decode cX12_share 227 = .ok (.bipush 80, 2) := by decide +kernel
theorem dX12_share_229 : decode cX12_share 229 = .ok (.if_icmp .ne 5, 3) := by decide +kernel
theorem dX12_share_232 : decode cX12_share 232 = .ok (.iconst 0, 1) := by decide +kernel
theorem dX12_share_233 : decode cX12_share 233 = .ok (.ireturn, 1) := by decide +kernel
theorem dX12_share_234 : decode cX12_share 234 = .ok (.aload_n 0, 1) := by decide +kernel
theorem dX12_share_235 : decode cX12_share 235 = .ok (.invokevirtual 278, 3) := by decide +kernel
theorem dX12_share_238 : decode cX12_share 238 = .ok (.aload_n 0, 1) := by decide +kernel
theorem dX12_share_239 : decode cX12_share 239 = .ok (.invokevirtual 318, 3) := by decide +kernel
theorem dX12_share_242 : decode cX12_share 242 = .ok (.istore 4, 2) := by decide +kernel
theorem dX12_share_244 : decode cX12_share 244 = .ok (.iconst 0, 1) := by decide +kernel
theorem dX12_share_245 : decode cX12_share 245 = .ok (.istore 5, 2) := by decide +kernel
theorem dX12_share_247 : decode cX12_share 247 = .ok (.iload 5, 2) := by decide +kernel
theorem dX12_share_249 : decode cX12_share 249 = .ok (.bipush 80, 2) := by decide +kernel
theorem dX12_share_251 : decode cX12_share 251 = .ok (.if_icmp .gt 109, 3) := by decide +kernel
theorem dX12_share_254 : decode cX12_share 254 = .ok (.aload_n 0, 1) := by decide +kernel
theorem dX12_share_255 : decode cX12_share 255 = .ok (.getfield 13, 3) := by decide +kernel
theorem dX12_share_258 : decode cX12_share 258 = .ok (.iload 5, 2) := by decide +kernel
theorem dX12_share_260 : decode cX12_share 260 = .ok (.iload 4, 2) := by decide +kernel
theorem dX12_share_262 : decode cX12_share 262 = .ok (.iadd, 1) := by decide +kernel
theorem dX12_share_263 : decode cX12_share 263 = .ok (.iconst 1, 1) := by decide +kernel
theorem dX12_share_264 : decode cX12_share 264 = .ok (.bastore, 1) := by decide +kernel
theorem dX12_share_265 : decode cX12_share 265 = .ok (.aload_n 0, 1) := by decide +kernel
theorem dX12_share_266 : decode cX12_share 266 = .ok (.getfield 17, 3) := by decide +kernel
theorem dX12_share_269 : decode cX12_share 269 = .ok (.iload 5, 2) := by decide +kernel
theorem dX12_share_271 : decode cX12_share 271 = .ok (.iload 4, 2) := by decide +kernel
theorem dX12_share_273 : decode cX12_share 273 = .ok (.iadd, 1) := by decide +kernel
theorem dX12_share_274 : decode cX12_share 274 = .ok (.iconst (-1), 1) := by decide +kernel
theorem dX12_share_275 : decode cX12_share 275 = .ok (.iastore, 1) := by decide +kernel
theorem dX12_share_276 : decode cX12_share 276 = .ok (.aload_n 0, 1) := by decide +kernel
theorem dX12_share_277 : decode cX12_share 277 = .ok (.getfield 21, 3) := by decide +kernel
theorem dX12_share_280 : decode cX12_share 280 = .ok (.iload 5, 2) := by decide +kernel
theorem dX12_share_282 : decode cX12_share 282 = .ok (.iload 4, 2) := by decide +kernel
theorem dX12_share_284 : decode cX12_share 284 = .ok (.iadd, 1) := by decide +kernel
theorem dX12_share_285 : decode cX12_share 285 = .ok (.iconst 1, 1) := by decide +kernel
theorem dX12_share_286 : decode cX12_share 286 = .ok (.bastore, 1) := by decide +kernel
theorem dX12_share_287 : decode cX12_share 287 = .ok (.aload_n 0, 1) := by decide +kernel
theorem dX12_share_288 : decode cX12_share 288 = .ok (.getfield 27, 3) := by decide +kernel
theorem dX12_share_291 : decode cX12_share 291 = .ok (.iload 5, 2) := by decide +kernel
theorem dX12_share_293 : decode cX12_share 293 = .ok (.iload 4, 2) := by decide +kernel
theorem dX12_share_295 : decode cX12_share 295 = .ok (.iadd, 1) := by decide +kernel
theorem dX12_share_296 : decode cX12_share 296 = .ok (.iconst 0, 1) := by decide +kernel
theorem dX12_share_297 : decode cX12_share 297 = .ok (.iastore, 1) := by decide +kernel
theorem dX12_share_298 : decode cX12_share 298 = .ok (.aload_n 0, 1) := by decide +kernel
theorem dX12_share_299 : decode cX12_share 299 = .ok (.getfield 30, 3) := by decide +kernel
theorem dX12_share_302 : decode cX12_share 302 = .ok (.iload 5, 2) := by decide +kernel
theorem dX12_share_304 : decode cX12_share 304 = .ok (.iload 4, 2) := by decide +kernel
theorem dX12_share_306 : decode cX12_share 306 = .ok (.iadd, 1) := by decide +kernel
theorem dX12_share_307 : decode cX12_share 307 = .ok (.iconst 0, 1) := by decide +kernel
theorem dX12_share_308 : decode cX12_share 308 = .ok (.iastore, 1) := by decide +kernel
theorem dX12_share_309 : decode cX12_share 309 = .ok (.aload_n 0, 1) := by decide +kernel
theorem dX12_share_310 : decode cX12_share 310 = .ok (.getfield 37, 3) := by decide +kernel
theorem dX12_share_313 : decode cX12_share 313 = .ok (.iload 5, 2) := by decide +kernel
theorem dX12_share_315 : decode cX12_share 315 = .ok (.iload 4, 2) := by decide +kernel
theorem dX12_share_317 : decode cX12_share 317 = .ok (.iadd, 1) := by decide +kernel
theorem dX12_share_318 : decode cX12_share 318 = .ok (.iconst 0, 1) := by decide +kernel
theorem dX12_share_319 : decode cX12_share 319 = .ok (.iastore, 1) := by decide +kernel
theorem dX12_share_320 : decode cX12_share 320 = .ok (.iconst 0, 1) := by decide +kernel
theorem dX12_share_321 : decode cX12_share 321 = .ok (.istore 6, 2) := by decide +kernel
theorem dX12_share_323 : decode cX12_share 323 = .ok (.iload 6, 2) := by decide +kernel
theorem dX12_share_325 : decode cX12_share 325 = .ok (.iconst 4, 1) := by decide +kernel
theorem dX12_share_326 : decode cX12_share 326 = .ok (.if_icmp .ge 28, 3) := by decide +kernel
theorem dX12_share_329 : decode cX12_share 329 = .ok (.aload_n 0, 1) := by decide +kernel
theorem dX12_share_330 : decode cX12_share 330 = .ok (.getfield 33, 3) := by decide +kernel
theorem dX12_share_333 : decode cX12_share 333 = .ok (.iconst 4, 1) := by decide +kernel
theorem dX12_share_334 : decode cX12_share 334 = .ok (.iload 5, 2) := by decide +kernel
theorem dX12_share_336 : decode cX12_share 336 = .ok (.iload 4, 2) := by decide +kernel
theorem dX12_share_338 : decode cX12_share 338 = .ok (.iadd, 1) := by decide +kernel
theorem dX12_share_339 : decode cX12_share 339 = .ok (.imul, 1) := by decide +kernel
theorem dX12_share_340 : decode cX12_share 340 = .ok (.iload 6, 2) := by decide +kernel
theorem dX12_share_342 : decode cX12_share 342 = .ok (.iadd, 1) := by decide +kernel
theorem dX12_share_343 : decode cX12_share 343 = .ok (.aload_n 0, 1) := by decide +kernel
theorem dX12_share_344 : decode cX12_share 344 = .ok (.getfield 322, 3) := by decide +kernel
theorem dX12_share_347 : decode cX12_share 347 = .ok (.lastore, 1) := by decide +kernel
theorem dX12_share_348 : decode cX12_share 348 = .ok (.iinc 6 1, 3) := by decide +kernel
theorem dX12_share_351 : decode cX12_share 351 = .ok (.goto (-28), 3) := by decide +kernel
theorem dX12_share_354 : decode cX12_share 354 = .ok (.iinc 5 80, 3) := by decide +kernel
theorem dX12_share_357 : decode cX12_share 357 = .ok (.goto (-110), 3) := by decide +kernel
theorem dX12_share_360 : decode cX12_share 360 = .ok (.aload_n 0, 1) := by decide +kernel
theorem dX12_share_361 : decode cX12_share 361 = .ok (.getfield 44, 3) := by decide +kernel
theorem dX12_share_364 : decode cX12_share 364 = .ok (.iload 4, 2) := by decide +kernel
theorem dX12_share_366 : decode cX12_share 366 = .ok (.iconst 0, 1) := by decide +kernel
theorem dX12_share_367 : decode cX12_share 367 = .ok (.bastore, 1) := by decide +kernel
theorem dX12_share_368 : decode cX12_share 368 = .ok (.aload_n 0, 1) := by decide +kernel
theorem dX12_share_369 : decode cX12_share 369 = .ok (.getfield 47, 3) := by decide +kernel
theorem dX12_share_372 : decode cX12_share 372 = .ok (.iload_n 1, 1) := by decide +kernel
theorem dX12_share_373 : decode cX12_share 373 = .ok (.iload 4, 2) := by decide +kernel
theorem dX12_share_375 : decode cX12_share 375 = .ok (.iastore, 1) := by decide +kernel
theorem dX12_share_376 : decode cX12_share 376 = .ok (.aload_n 0, 1) := by decide +kernel
theorem dX12_share_377 : decode cX12_share 377 = .ok (.getfield 53, 3) := by decide +kernel
theorem dX12_share_380 : decode cX12_share 380 = .ok (.iload_n 1, 1) := by decide +kernel
theorem dX12_share_381 : decode cX12_share 381 = .ok (.iload_n 2, 1) := by decide +kernel
theorem dX12_share_382 : decode cX12_share 382 = .ok (.iastore, 1) := by decide +kernel
theorem dX12_share_383 : decode cX12_share 383 = .ok (.iconst 0, 1) := by decide +kernel
theorem dX12_share_384 : decode cX12_share 384 = .ok (.istore 5, 2) := by decide +kernel
theorem dX12_share_386 : decode cX12_share 386 = .ok (.iload 5, 2) := by decide +kernel
theorem dX12_share_388 : decode cX12_share 388 = .ok (.iload_n 2, 1) := by decide +kernel
theorem dX12_share_389 : decode cX12_share 389 = .ok (.if_icmp .ge 28, 3) := by decide +kernel
theorem dX12_share_392 : decode cX12_share 392 = .ok (.aload_n 0, 1) := by decide +kernel
theorem dX12_share_393 : decode cX12_share 393 = .ok (.getfield 50, 3) := by decide +kernel
theorem dX12_share_396 : decode cX12_share 396 = .ok (.bipush 12, 2) := by decide +kernel
theorem dX12_share_398 : decode cX12_share 398 = .ok (.iload_n 1, 1) := by decide +kernel
theorem dX12_share_399 : decode cX12_share 399 = .ok (.imul, 1) := by decide +kernel
theorem dX12_share_400 : decode cX12_share 400 = .ok (.iload 5, 2) := by decide +kernel
theorem dX12_share_402 : decode cX12_share 402 = .ok (.iadd, 1) := by decide +kernel
theorem dX12_share_403 : decode cX12_share 403 = .ok (.aload_n 0, 1) := by decide +kernel
theorem dX12_share_404 : decode cX12_share 404 = .ok (.getfield 7, 3) := by decide +kernel
theorem dX12_share_407 : decode cX12_share 407 = .ok (.iload 5, 2) := by decide +kernel
theorem dX12_share_409 : decode cX12_share 409 = .ok (.baload, 1) := by decide +kernel
theorem dX12_share_410 : decode cX12_share 410 = .ok (.bastore, 1) := by decide +kernel
theorem dX12_share_411 : decode cX12_share 411 = .ok (.iinc 5 1, 3) := by decide +kernel
theorem dX12_share_414 : decode cX12_share 414 = .ok (.goto (-28), 3) := by decide +kernel
theorem dX12_share_417 : decode cX12_share 417 = .ok (.iconst 1, 1) := by decide +kernel
theorem dX12_share_418 : decode cX12_share 418 = .ok (.ireturn, 1) := by decide +kernel
set_option maxRecDepth 100000 in
set_option maxHeartbeats 4000000 in
theorem c_X12_share (l : Launch) (D : va_G) (t : Nat → ClassId) (h0 : Nat) (L : Nat → Nat) (σ : HS) (hM : MdI h0 L σ) (a1 : Int32) (post : Int32 → HS → Prop) (hw : F_X12_share h0 L a1 post σ) (sz : Nat) : RMi l D t yX12_share cX12_share 7 (some .boolean) ({ frames := 4, cells := 0, slots := 0, locals := 91 }) h0 L σ sz [.ref h0, .int a1] post := by
  refine h_go (τ := τT) okT (by decide) (Nat.le_of_ble_eq_true rfl) ?_
  intro p e s m below meth c ls A hF hr hlk hAe hH0 hA hl
  unfold hB
  rw [hAe]
  clear hAe
  have hF : FX p m c cX12_share 7 s _ RX12 D t := hF
  have hx := hF.1.1
  have hb := hF.1.2.1
  have hH : RT D t A s.heap h0 L σ s.heap [] := ⟨hH0, hM⟩
  have hl : lv_has ls 7 [(0, .ref h0), (1, .int a1)] := hl
  unfold F_X12_share at hw
  refine lv_aload_n hx hb dX12_share_0 rfl (lv_at hl 0 rfl) ?_
  refine w_getI hF hH fk_X12_261 dX12_share_1 hw (fun z1 hw => ?_)
  refine lv_istore_n (lv' := [(2, .int z1), (0, .ref h0), (1, .int a1)]) hx hb dX12_share_4 rfl hl (by decide) rfl (fun ls hl => ?_)
  refine lv_aload_n hx hb dX12_share_5 rfl (lv_at hl 1 rfl) ?_
  refine lv_iconst (v := 0) hx hb dX12_share_6 (by decide) ?_
  refine w_putI hF hH fk_X12_261 dX12_share_7 rfl rfl rfl hw (fun σ2 H locs hw hH => ?_)
  refine lv_iload_n hx hb dX12_share_10 rfl (lv_at hl 2 rfl) ?_
  obtain ⟨K5, hK6, hw⟩ := jn_open hw
  refine w_join (K := K5) 39 (fun (x3 : Unit) => []) (fun (x3 : Unit) => []) hl hH (fun x3 σ4 ls H locs hl hw hH => ?_) (fun jn7 => ?_)
  · have hw := hK6 x3 σ4 hw
    have hl : lv_has ls 7 [] := hl
    refine lv_iconst (v := 0) hx hb dX12_share_39 (by decide) ?_
    exact w_retz hF hH hr hlk dX12_share_40 hw
  · skip
    refine w_if_lt (tgt := 39) hF dX12_share_11 rfl hw (fun hw => ?_) (fun hw => ?_)
    · have hl : lv_has ls 7 [] := lv_sub hl [] rfl
      exact jn7 () σ2 ls _ _ hl hw hH
    · refine lv_iload_n hx hb dX12_share_14 rfl (lv_at hl 2 rfl) ?_
      refine lv_iconst (v := 3) hx hb dX12_share_15 (by decide) ?_
      refine w_icmp_gt (tgt := 39) hF dX12_share_16 rfl hw (fun hw => ?_) (fun hw => ?_)
      · have hl : lv_has ls 7 [] := lv_sub hl [] rfl
        exact jn7 () σ2 ls _ _ hl hw hH
      · refine lv_aload_n hx hb dX12_share_19 rfl (lv_at hl 1 rfl) ?_
        refine w_getA 11 hF hH fk_X12_47 dX12_share_20 (by decide) rfl ?_
        refine lv_iload_n hx hb dX12_share_23 rfl (lv_at hl 2 rfl) ?_
        refine w_iald 11 4 hF hH dX12_share_24 (by decide) rfl rfl hw (fun z8 hw => ?_)
        refine w_if_ge (tgt := 39) hF dX12_share_25 rfl hw (fun hw => ?_) (fun hw => ?_)
        · have hl : lv_has ls 7 [] := lv_sub hl [] rfl
          exact jn7 () σ2 ls _ _ hl hw hH
        · refine lv_iload_n hx hb dX12_share_28 rfl (lv_at hl 0 rfl) ?_
          refine lv_iconst (v := 1) hx hb dX12_share_29 (by decide) ?_
          refine w_icmp_lt (tgt := 39) hF dX12_share_30 rfl hw (fun hw => ?_) (fun hw => ?_)
          · have hl : lv_has ls 7 [] := lv_sub hl [] rfl
            exact jn7 () σ2 ls _ _ hl hw hH
          · refine lv_iload_n hx hb dX12_share_33 rfl (lv_at hl 0 rfl) ?_
            refine lv_bipush (v := 12) hx hb dX12_share_34 (by decide) ?_
            refine w_icmp_le (tgt := 41) hF dX12_share_36 rfl hw (fun hw => ?_) (fun hw => ?_)
            · refine lv_iconst (v := 1) hx hb dX12_share_41 (by decide) ?_
              refine lv_istore_n (lv' := [(3, .int 1), (2, .int z1), (0, .ref h0), (1, .int a1)]) hx hb dX12_share_42 rfl hl (by decide) rfl (fun ls hl => ?_)
              refine lv_iconst (v := 0) hx hb dX12_share_43 (by decide) ?_
              refine lv_istore (lv' := [(4, .int 0), (3, .int 1), (2, .int z1), (0, .ref h0), (1, .int a1)]) hx hb dX12_share_44 hl (by decide) rfl (fun ls hl => ?_)
              have hl : lv_has ls 7 [(4, .int 0), (3, .int 1), (2, .int z1), (1, .int a1), (0, .ref h0)] := lv_sub hl [0, 1, 2, 4, 3] rfl
              refine w_loop (β := Int32 × Int32) (fun x9 => [(4, .int x9.1), (3, .int x9.2), (2, .int z1), (1, .int a1), (0, .ref h0)]) (0, 1) hl hw hH (fun K11 x9 σ10 ls H locs hl hw hH ih12 => ?_)
              have hl : lv_has ls 7 [(4, .int x9.1), (3, .int x9.2), (2, .int z1), (1, .int a1), (0, .ref h0)] := hl
              refine lv_iload hx hb dX12_share_46 (lv_at hl 0 rfl) ?_
              refine lv_iload_n hx hb dX12_share_48 rfl (lv_at hl 2 rfl) ?_
              refine w_icmp_ge (tgt := 104) hF dX12_share_49 rfl hw (fun hw => ?_) (fun hw => ?_)
              · refine lv_iconst (v := 0) hx hb dX12_share_104 (by decide) ?_
                refine lv_istore (lv' := [(4, .int 0), (3, .int x9.2), (2, .int z1), (1, .int a1), (0, .ref h0)]) hx hb dX12_share_105 hl (by decide) rfl (fun ls hl => ?_)
                refine w_loop (β := Int32 × Int32) (fun x13 => [(4, .int x13.1), (3, .int x13.2), (2, .int z1), (1, .int a1), (0, .ref h0)]) (0, x9.2) hl hw hH (fun K15 x13 σ14 ls H locs hl hw hH ih16 => ?_)
                have hl : lv_has ls 7 [(4, .int x13.1), (3, .int x13.2), (2, .int z1), (1, .int a1), (0, .ref h0)] := hl
                refine lv_iload hx hb dX12_share_107 (lv_at hl 0 rfl) ?_
                refine lv_iconst (v := 4) hx hb dX12_share_109 (by decide) ?_
                obtain ⟨K19, hK20, hw⟩ := jn_open hw
                refine w_join (K := K19) 218 (fun (x17 : Unit) => [(3, .int x13.2), (2, .int z1), (1, .int a1), (0, .ref h0)]) (fun (x17 : Unit) => []) hl hH (fun x17 σ18 ls H locs hl hw hH => ?_) (fun jn21 => ?_)
                · have hw := hK20 x17 σ18 hw
                  have hl : lv_has ls 7 [(3, .int x13.2), (2, .int z1), (1, .int a1), (0, .ref h0)] := hl
                  refine lv_iload_n hx hb dX12_share_218 rfl (lv_at hl 0 rfl) ?_
                  obtain ⟨K24, hK25, hw⟩ := jn_open hw
                  refine w_join (K := K24) 232 (fun (x22 : Unit) => []) (fun (x22 : Unit) => []) hl hH (fun x22 σ23 ls H locs hl hw hH => ?_) (fun jn26 => ?_)
                  · have hw := hK25 x22 σ23 hw
                    have hl : lv_has ls 7 [] := hl
                    refine lv_iconst (v := 0) hx hb dX12_share_232 (by decide) ?_
                    exact w_retz hF hH hr hlk dX12_share_233 hw
                  · skip
                    refine w_if_eq (tgt := 232) hF dX12_share_219 rfl hw (fun hw => ?_) (fun hw => ?_)
                    · have hl : lv_has ls 7 [] := lv_sub hl [] rfl
                      exact jn26 () σ18 ls _ _ hl hw hH
                    · refine lv_aload_n hx hb dX12_share_222 rfl (lv_at hl 3 rfl) ?_
                      refine lv_iconst (v := 0) hx hb dX12_share_223 (by decide) ?_
                      refine w_cVi (As := [.int 0]) (rest := []) hF hH hA mv_X12_315 (fun sz => c_X12_nodes l D t h0 L _ hH.2 0 _ hw sz) dX12_share_224 rfl rfl (by decide) rfl hl.1 (Nat.le_of_ble_eq_true rfl) (by decide) rfl (fun z28 σ27 H locs hw hH => ?_)
                      refine lv_bipush (v := 80) hx hb dX12_share_227 (by decide) ?_
                      refine w_icmp_ne (tgt := 234) hF dX12_share_229 rfl hw (fun hw => ?_) (fun hw => ?_)
                      · refine lv_aload_n hx hb dX12_share_234 rfl (lv_at hl 3 rfl) ?_
                        refine w_cVv (As := []) (rest := []) hF hH hA mv_X12_278 (fun sz => c_X12_allCome l D t h0 L _ hH.2  _ hw sz) dX12_share_235 rfl rfl (by decide) rfl hl.1 (Nat.le_of_ble_eq_true rfl) (by decide) rfl (fun σ29 H locs hw hH => ?_)
                        refine lv_aload_n hx hb dX12_share_238 rfl (lv_at hl 3 rfl) ?_
                        refine w_cVi (As := []) (rest := []) hF hH hA mv_X12_318 (fun sz => c_X12_freeNode l D t h0 L _ hH.2  _ hw sz) dX12_share_239 rfl rfl (by decide) rfl hl.1 (Nat.le_of_ble_eq_true rfl) (by decide) rfl (fun z32 σ31 H locs hw hH => ?_)
                        refine lv_istore (lv' := [(4, .int z32), (3, .int x13.2), (2, .int z1), (1, .int a1), (0, .ref h0)]) hx hb dX12_share_242 hl (by decide) rfl (fun ls hl => ?_)
                        refine lv_iconst (v := 0) hx hb dX12_share_244 (by decide) ?_
                        refine lv_istore (lv' := [(5, .int 0), (4, .int z32), (3, .int x13.2), (2, .int z1), (1, .int a1), (0, .ref h0)]) hx hb dX12_share_245 hl (by decide) rfl (fun ls hl => ?_)
                        have hl : lv_has ls 7 [(5, .int 0), (4, .int z32), (2, .int z1), (1, .int a1), (0, .ref h0)] := lv_sub hl [0, 1, 3, 4, 5] rfl
                        refine w_loop (β := Int32) (fun x33 => [(5, .int x33), (4, .int z32), (2, .int z1), (1, .int a1), (0, .ref h0)]) 0 hl hw hH (fun K35 x33 σ34 ls H locs hl hw hH ih36 => ?_)
                        have hl : lv_has ls 7 [(5, .int x33), (4, .int z32), (2, .int z1), (1, .int a1), (0, .ref h0)] := hl
                        refine lv_iload hx hb dX12_share_247 (lv_at hl 0 rfl) ?_
                        refine lv_bipush (v := 80) hx hb dX12_share_249 (by decide) ?_
                        refine w_icmp_gt (tgt := 360) hF dX12_share_251 rfl hw (fun hw => ?_) (fun hw => ?_)
                        · refine lv_aload_n hx hb dX12_share_360 rfl (lv_at hl 4 rfl) ?_
                          refine w_getA 10 hF hH fk_X12_44 dX12_share_361 (by decide) rfl ?_
                          refine lv_iload hx hb dX12_share_364 (lv_at hl 1 rfl) ?_
                          refine lv_iconst (v := 0) hx hb dX12_share_366 (by decide) ?_
                          refine w_zast 10 80 hF hH dX12_share_367 (by decide) rfl rfl hw (fun σ37 H locs hw hH => ?_)
                          refine lv_aload_n hx hb dX12_share_368 rfl (lv_at hl 4 rfl) ?_
                          refine w_getA 11 hF hH fk_X12_47 dX12_share_369 (by decide) rfl ?_
                          refine lv_iload_n hx hb dX12_share_372 rfl (lv_at hl 3 rfl) ?_
                          refine lv_iload hx hb dX12_share_373 (lv_at hl 1 rfl) ?_
                          refine w_iast 11 4 hF hH dX12_share_375 (by decide) rfl rfl hw (fun σ38 H locs hw hH => ?_)
                          refine lv_aload_n hx hb dX12_share_376 rfl (lv_at hl 4 rfl) ?_
                          refine w_getA 13 hF hH fk_X12_53 dX12_share_377 (by decide) rfl ?_
                          refine lv_iload_n hx hb dX12_share_380 rfl (lv_at hl 3 rfl) ?_
                          refine lv_iload_n hx hb dX12_share_381 rfl (lv_at hl 2 rfl) ?_
                          refine w_iast 13 4 hF hH dX12_share_382 (by decide) rfl rfl hw (fun σ39 H locs hw hH => ?_)
                          refine lv_iconst (v := 0) hx hb dX12_share_383 (by decide) ?_
                          refine lv_istore (lv' := [(5, .int 0), (4, .int z32), (2, .int z1), (1, .int a1), (0, .ref h0)]) hx hb dX12_share_384 hl (by decide) rfl (fun ls hl => ?_)
                          have hl : lv_has ls 7 [(5, .int 0), (2, .int z1), (1, .int a1), (0, .ref h0)] := lv_sub hl [0, 2, 3, 4] rfl
                          refine w_loop (β := Int32) (fun x40 => [(5, .int x40), (2, .int z1), (1, .int a1), (0, .ref h0)]) 0 hl hw hH (fun K42 x40 σ41 ls H locs hl hw hH ih43 => ?_)
                          have hl : lv_has ls 7 [(5, .int x40), (2, .int z1), (1, .int a1), (0, .ref h0)] := hl
                          refine lv_iload hx hb dX12_share_386 (lv_at hl 0 rfl) ?_
                          refine lv_iload_n hx hb dX12_share_388 rfl (lv_at hl 1 rfl) ?_
                          refine w_icmp_ge (tgt := 417) hF dX12_share_389 rfl hw (fun hw => ?_) (fun hw => ?_)
                          · refine lv_iconst (v := 1) hx hb dX12_share_417 (by decide) ?_
                            exact w_retz hF hH hr hlk dX12_share_418 hw
                          · refine lv_aload_n hx hb dX12_share_392 rfl (lv_at hl 3 rfl) ?_
                            refine w_getA 12 hF hH fk_X12_50 dX12_share_393 (by decide) rfl ?_
                            refine lv_bipush (v := 12) hx hb dX12_share_396 (by decide) ?_
                            refine lv_iload_n hx hb dX12_share_398 rfl (lv_at hl 2 rfl) ?_
                            refine lv_imul hx hb dX12_share_399 ?_
                            refine w_nmi hw (fun z44 hw => ?_)
                            refine lv_iload hx hb dX12_share_400 (lv_at hl 0 rfl) ?_
                            refine lv_iadd hx hb dX12_share_402 ?_
                            refine w_nmi hw (fun z45 hw => ?_)
                            refine lv_aload_n hx hb dX12_share_403 rfl (lv_at hl 3 rfl) ?_
                            refine w_getA 0 hF hH fk_X12_7 dX12_share_404 (by decide) rfl ?_
                            refine lv_iload hx hb dX12_share_407 (lv_at hl 0 rfl) ?_
                            refine w_bald 0 8000 hF hH dX12_share_409 (by decide) rfl rfl hw (fun z46 hw => ?_)
                            refine w_bast 12 48 hF hH dX12_share_410 (by decide) rfl rfl hw (fun σ47 H locs hw hH => ?_)
                            obtain ⟨z48, ez48⟩ : ∃ z : Int32, z = x40 + 1 := ⟨_, rfl⟩
                            have hw := hw z48 ez48
                            refine lv_iinc (lv' := [(5, .int z48), (2, .int z1), (1, .int a1), (0, .ref h0)]) (k := 0) (v := z48) hx hb dX12_share_411 hl rfl ez48.symm (by decide) rfl (fun ls hl => ?_)
                            refine lv_goto (tgt := 386) hx hb dX12_share_414 rfl ?_
                            exact ih43 z48 σ47 ls _ _ hl hw hH
                        · refine lv_aload_n hx hb dX12_share_254 rfl (lv_at hl 4 rfl) ?_
                          refine w_getA 1 hF hH fk_X12_13 dX12_share_255 (by decide) rfl ?_
                          refine lv_iload hx hb dX12_share_258 (lv_at hl 0 rfl) ?_
                          refine lv_iload hx hb dX12_share_260 (lv_at hl 1 rfl) ?_
                          refine lv_iadd hx hb dX12_share_262 ?_
                          refine w_nmi hw (fun z49 hw => ?_)
                          refine lv_iconst (v := 1) hx hb dX12_share_263 (by decide) ?_
                          refine w_zast 1 160 hF hH dX12_share_264 (by decide) rfl rfl hw (fun σ50 H locs hw hH => ?_)
                          refine lv_aload_n hx hb dX12_share_265 rfl (lv_at hl 4 rfl) ?_
                          refine w_getA 2 hF hH fk_X12_17 dX12_share_266 (by decide) rfl ?_
                          refine lv_iload hx hb dX12_share_269 (lv_at hl 0 rfl) ?_
                          refine lv_iload hx hb dX12_share_271 (lv_at hl 1 rfl) ?_
                          refine lv_iadd hx hb dX12_share_273 ?_
                          refine w_nmi hw (fun z51 hw => ?_)
                          refine lv_iconst (v := (-1)) hx hb dX12_share_274 (by decide) ?_
                          refine w_iast 2 160 hF hH dX12_share_275 (by decide) rfl rfl hw (fun σ52 H locs hw hH => ?_)
                          refine lv_aload_n hx hb dX12_share_276 rfl (lv_at hl 4 rfl) ?_
                          refine w_getA 3 hF hH fk_X12_21 dX12_share_277 (by decide) rfl ?_
                          refine lv_iload hx hb dX12_share_280 (lv_at hl 0 rfl) ?_
                          refine lv_iload hx hb dX12_share_282 (lv_at hl 1 rfl) ?_
                          refine lv_iadd hx hb dX12_share_284 ?_
                          refine w_nmi hw (fun z53 hw => ?_)
                          refine lv_iconst (v := 1) hx hb dX12_share_285 (by decide) ?_
                          refine w_zast 3 160 hF hH dX12_share_286 (by decide) rfl rfl hw (fun σ54 H locs hw hH => ?_)
                          refine lv_aload_n hx hb dX12_share_287 rfl (lv_at hl 4 rfl) ?_
                          refine w_getA 5 hF hH fk_X12_27 dX12_share_288 (by decide) rfl ?_
                          refine lv_iload hx hb dX12_share_291 (lv_at hl 0 rfl) ?_
                          refine lv_iload hx hb dX12_share_293 (lv_at hl 1 rfl) ?_
                          refine lv_iadd hx hb dX12_share_295 ?_
                          refine w_nmi hw (fun z55 hw => ?_)
                          refine lv_iconst (v := 0) hx hb dX12_share_296 (by decide) ?_
                          refine w_iast 5 160 hF hH dX12_share_297 (by decide) rfl rfl hw (fun σ56 H locs hw hH => ?_)
                          refine lv_aload_n hx hb dX12_share_298 rfl (lv_at hl 4 rfl) ?_
                          refine w_getA 6 hF hH fk_X12_30 dX12_share_299 (by decide) rfl ?_
                          refine lv_iload hx hb dX12_share_302 (lv_at hl 0 rfl) ?_
                          refine lv_iload hx hb dX12_share_304 (lv_at hl 1 rfl) ?_
                          refine lv_iadd hx hb dX12_share_306 ?_
                          refine w_nmi hw (fun z57 hw => ?_)
                          refine lv_iconst (v := 0) hx hb dX12_share_307 (by decide) ?_
                          refine w_iast 6 160 hF hH dX12_share_308 (by decide) rfl rfl hw (fun σ58 H locs hw hH => ?_)
                          refine lv_aload_n hx hb dX12_share_309 rfl (lv_at hl 4 rfl) ?_
                          refine w_getA 8 hF hH fk_X12_37 dX12_share_310 (by decide) rfl ?_
                          refine lv_iload hx hb dX12_share_313 (lv_at hl 0 rfl) ?_
                          refine lv_iload hx hb dX12_share_315 (lv_at hl 1 rfl) ?_
                          refine lv_iadd hx hb dX12_share_317 ?_
                          refine w_nmi hw (fun z59 hw => ?_)
                          refine lv_iconst (v := 0) hx hb dX12_share_318 (by decide) ?_
                          refine w_iast 8 160 hF hH dX12_share_319 (by decide) rfl rfl hw (fun σ60 H locs hw hH => ?_)
                          refine lv_iconst (v := 0) hx hb dX12_share_320 (by decide) ?_
                          refine lv_istore (lv' := [(6, .int 0), (5, .int x33), (4, .int z32), (2, .int z1), (1, .int a1), (0, .ref h0)]) hx hb dX12_share_321 hl (by decide) rfl (fun ls hl => ?_)
                          refine w_loop (β := Int32) (fun x61 => [(6, .int x61), (5, .int x33), (4, .int z32), (2, .int z1), (1, .int a1), (0, .ref h0)]) 0 hl hw hH (fun K63 x61 σ62 ls H locs hl hw hH ih64 => ?_)
                          have hl : lv_has ls 7 [(6, .int x61), (5, .int x33), (4, .int z32), (2, .int z1), (1, .int a1), (0, .ref h0)] := hl
                          refine lv_iload hx hb dX12_share_323 (lv_at hl 0 rfl) ?_
                          refine lv_iconst (v := 4) hx hb dX12_share_325 (by decide) ?_
                          refine w_icmp_ge (tgt := 354) hF dX12_share_326 rfl hw (fun hw => ?_) (fun hw => ?_)
                          · obtain ⟨z65, ez65⟩ : ∃ z : Int32, z = x33 + 80 := ⟨_, rfl⟩
                            have hw := hw z65 ez65
                            refine lv_iinc (lv' := [(5, .int z65), (6, .int x61), (4, .int z32), (2, .int z1), (1, .int a1), (0, .ref h0)]) (k := 1) (v := z65) hx hb dX12_share_354 hl rfl ez65.symm (by decide) rfl (fun ls hl => ?_)
                            refine lv_goto (tgt := 247) hx hb dX12_share_357 rfl ?_
                            have hl : lv_has ls 7 [(5, .int z65), (4, .int z32), (2, .int z1), (1, .int a1), (0, .ref h0)] := lv_sub hl [0, 2, 3, 4, 5] rfl
                            exact ih36 z65 σ62 ls _ _ hl hw hH
                          · refine lv_aload_n hx hb dX12_share_329 rfl (lv_at hl 5 rfl) ?_
                            refine w_getA 7 hF hH fk_X12_33 dX12_share_330 (by decide) rfl ?_
                            refine lv_iconst (v := 4) hx hb dX12_share_333 (by decide) ?_
                            refine lv_iload hx hb dX12_share_334 (lv_at hl 1 rfl) ?_
                            refine lv_iload hx hb dX12_share_336 (lv_at hl 2 rfl) ?_
                            refine lv_iadd hx hb dX12_share_338 ?_
                            refine w_nmi hw (fun z66 hw => ?_)
                            refine lv_imul hx hb dX12_share_339 ?_
                            refine w_nmi hw (fun z67 hw => ?_)
                            refine lv_iload hx hb dX12_share_340 (lv_at hl 0 rfl) ?_
                            refine lv_iadd hx hb dX12_share_342 ?_
                            refine w_nmi hw (fun z68 hw => ?_)
                            refine lv_aload_n hx hb dX12_share_343 rfl (lv_at hl 5 rfl) ?_
                            refine w_getJ hF hH fk_X12_322 dX12_share_344 hw (fun z69 hw => ?_)
                            refine w_last 7 640 hF hH dX12_share_347 (by decide) rfl rfl hw (fun σ70 H locs hw hH => ?_)
                            obtain ⟨z71, ez71⟩ : ∃ z : Int32, z = x61 + 1 := ⟨_, rfl⟩
                            have hw := hw z71 ez71
                            refine lv_iinc (lv' := [(6, .int z71), (5, .int x33), (4, .int z32), (2, .int z1), (1, .int a1), (0, .ref h0)]) (k := 0) (v := z71) hx hb dX12_share_348 hl rfl ez71.symm (by decide) rfl (fun ls hl => ?_)
                            refine lv_goto (tgt := 323) hx hb dX12_share_351 rfl ?_
                            exact ih64 z71 σ70 ls _ _ hl hw hH
                      · have hl : lv_has ls 7 [] := lv_sub hl [] rfl
                        exact jn26 () σ27 ls _ _ hl hw hH
                · skip
                  refine w_icmp_ge (tgt := 218) hF dX12_share_110 rfl hw (fun hw => ?_) (fun hw => ?_)
                  · have hl : lv_has ls 7 [(3, .int x13.2), (2, .int z1), (1, .int a1), (0, .ref h0)] := lv_sub hl [1, 2, 3, 4] rfl
                    exact jn21 () σ14 ls _ _ hl hw hH
                  · refine lv_iload_n hx hb dX12_share_113 rfl (lv_at hl 1 rfl) ?_
                    refine w_if_eq (tgt := 218) hF dX12_share_114 rfl hw (fun hw => ?_) (fun hw => ?_)
                    · have hl : lv_has ls 7 [(3, .int x13.2), (2, .int z1), (1, .int a1), (0, .ref h0)] := lv_sub hl [1, 2, 3, 4] rfl
                      exact jn21 () σ14 ls _ _ hl hw hH
                    · refine lv_aload_n hx hb dX12_share_117 rfl (lv_at hl 4 rfl) ?_
                      refine w_getA 11 hF hH fk_X12_47 dX12_share_118 (by decide) rfl ?_
                      refine lv_iload hx hb dX12_share_121 (lv_at hl 0 rfl) ?_
                      refine w_iald 11 4 hF hH dX12_share_123 (by decide) rfl rfl hw (fun z72 hw => ?_)
                      obtain ⟨K75, hK76, hw⟩ := jn_open hw
                      refine w_join (K := K75) 143 (fun (x73 : Int32) => [(4, .int x13.1), (2, .int z1), (1, .int a1), (0, .ref h0)]) (fun (x73 : Int32) => [.int x73]) hl hH (fun x73 σ74 ls H locs hl hw hH => ?_) (fun jn77 => ?_)
                      · have hw := hK76 x73 σ74 hw
                        have hl : lv_has ls 7 [(4, .int x13.1), (2, .int z1), (1, .int a1), (0, .ref h0)] := hl
                        refine lv_istore (lv' := [(5, .int x73), (4, .int x13.1), (2, .int z1), (1, .int a1), (0, .ref h0)]) hx hb dX12_share_143 hl (by decide) rfl (fun ls hl => ?_)
                        refine lv_iconst (v := 0) hx hb dX12_share_145 (by decide) ?_
                        refine lv_istore (lv' := [(6, .int 0), (5, .int x73), (4, .int x13.1), (2, .int z1), (1, .int a1), (0, .ref h0)]) hx hb dX12_share_146 hl (by decide) rfl (fun ls hl => ?_)
                        refine w_loop (β := Int32 × Int32) (fun x78 => [(6, .int x78.1), (5, .int x78.2), (4, .int x13.1), (2, .int z1), (1, .int a1), (0, .ref h0)]) (0, x73) hl hw hH (fun K80 x78 σ79 ls H locs hl hw hH ih81 => ?_)
                        have hl : lv_has ls 7 [(6, .int x78.1), (5, .int x78.2), (4, .int x13.1), (2, .int z1), (1, .int a1), (0, .ref h0)] := hl
                        refine lv_iload hx hb dX12_share_148 (lv_at hl 0 rfl) ?_
                        refine lv_iload_n hx hb dX12_share_150 rfl (lv_at hl 3 rfl) ?_
                        obtain ⟨K84, hK85, hw⟩ := jn_open hw
                        refine w_join (K := K84) 201 (fun (x82 : Unit) => [(5, .int x78.2), (4, .int x13.1), (2, .int z1), (1, .int a1), (0, .ref h0)]) (fun (x82 : Unit) => []) hl hH (fun x82 σ83 ls H locs hl hw hH => ?_) (fun jn86 => ?_)
                        · have hw := hK85 x82 σ83 hw
                          have hl : lv_has ls 7 [(5, .int x78.2), (4, .int x13.1), (2, .int z1), (1, .int a1), (0, .ref h0)] := hl
                          refine lv_iload hx hb dX12_share_201 (lv_at hl 0 rfl) ?_
                          obtain ⟨K89, hK90, hw⟩ := jn_open hw
                          refine w_join (K := K89) 211 (fun (x87 : Int32) => [(4, .int x13.1), (2, .int z1), (1, .int a1), (0, .ref h0)]) (fun (x87 : Int32) => [.int x87]) hl hH (fun x87 σ88 ls H locs hl hw hH => ?_) (fun jn91 => ?_)
                          · have hw := hK90 x87 σ88 hw
                            have hl : lv_has ls 7 [(4, .int x13.1), (2, .int z1), (1, .int a1), (0, .ref h0)] := hl
                            refine lv_istore_n (lv' := [(3, .int x87), (4, .int x13.1), (2, .int z1), (1, .int a1), (0, .ref h0)]) hx hb dX12_share_211 rfl hl (by decide) rfl (fun ls hl => ?_)
                            obtain ⟨z92, ez92⟩ : ∃ z : Int32, z = x13.1 + 1 := ⟨_, rfl⟩
                            have hw := hw z92 ez92
                            refine lv_iinc (lv' := [(4, .int z92), (3, .int x87), (2, .int z1), (1, .int a1), (0, .ref h0)]) (k := 1) (v := z92) hx hb dX12_share_212 hl rfl ez92.symm (by decide) rfl (fun ls hl => ?_)
                            refine lv_goto (tgt := 107) hx hb dX12_share_215 rfl ?_
                            exact ih16 (z92, x87) σ88 ls _ _ hl hw hH
                          · skip
                            refine w_if_ne (tgt := 210) hF dX12_share_203 rfl hw (fun hw => ?_) (fun hw => ?_)
                            · refine lv_iconst (v := 0) hx hb dX12_share_210 (by decide) ?_
                              have hl : lv_has ls 7 [(4, .int x13.1), (2, .int z1), (1, .int a1), (0, .ref h0)] := lv_sub hl [1, 2, 3, 4] rfl
                              exact jn91 0 σ83 ls _ _ hl hw hH
                            · refine lv_iconst (v := 1) hx hb dX12_share_206 (by decide) ?_
                              refine lv_goto (tgt := 211) hx hb dX12_share_207 rfl ?_
                              have hl : lv_has ls 7 [(4, .int x13.1), (2, .int z1), (1, .int a1), (0, .ref h0)] := lv_sub hl [1, 2, 3, 4] rfl
                              exact jn91 1 σ83 ls _ _ hl hw hH
                        · skip
                          refine w_icmp_ge (tgt := 201) hF dX12_share_151 rfl hw (fun hw => ?_) (fun hw => ?_)
                          · have hl : lv_has ls 7 [(5, .int x78.2), (4, .int x13.1), (2, .int z1), (1, .int a1), (0, .ref h0)] := lv_sub hl [1, 2, 3, 4, 5] rfl
                            exact jn86 () σ79 ls _ _ hl hw hH
                          · refine lv_iload hx hb dX12_share_154 (lv_at hl 1 rfl) ?_
                            refine w_if_eq (tgt := 201) hF dX12_share_156 rfl hw (fun hw => ?_) (fun hw => ?_)
                            · have hl : lv_has ls 7 [(5, .int x78.2), (4, .int x13.1), (2, .int z1), (1, .int a1), (0, .ref h0)] := lv_sub hl [1, 2, 3, 4, 5] rfl
                              exact jn86 () σ79 ls _ _ hl hw hH
                            · refine lv_aload_n hx hb dX12_share_159 rfl (lv_at hl 5 rfl) ?_
                              refine w_getA 12 hF hH fk_X12_50 dX12_share_160 (by decide) rfl ?_
                              refine lv_bipush (v := 12) hx hb dX12_share_163 (by decide) ?_
                              refine lv_iload hx hb dX12_share_165 (lv_at hl 2 rfl) ?_
                              refine lv_imul hx hb dX12_share_167 ?_
                              refine w_nmi hw (fun z93 hw => ?_)
                              refine lv_iload hx hb dX12_share_168 (lv_at hl 0 rfl) ?_
                              refine lv_iadd hx hb dX12_share_170 ?_
                              refine w_nmi hw (fun z94 hw => ?_)
                              refine w_bald 12 48 hF hH dX12_share_171 (by decide) rfl rfl hw (fun z95 hw => ?_)
                              refine w_cSi (As := [.int z95]) (rest := []) hF hH hA ms_X12_311 (fun sz => c_X12_folded l D t h0 L _ hH.2 z95 _ hw sz) dX12_share_172 rfl rfl (by decide) rfl hl.1 (Nat.le_of_ble_eq_true rfl) (by decide) rfl (fun z97 σ96 H locs hw hH => ?_)
                              refine lv_aload_n hx hb dX12_share_175 rfl (lv_at hl 5 rfl) ?_
                              refine w_getA 0 hF hH fk_X12_7 dX12_share_176 (by decide) rfl ?_
                              refine lv_iload hx hb dX12_share_179 (lv_at hl 0 rfl) ?_
                              refine w_bald 0 8000 hF hH dX12_share_181 (by decide) rfl rfl hw (fun z98 hw => ?_)
                              refine w_cSi (As := [.int z98]) (rest := [.int z97]) hF hH hA ms_X12_311 (fun sz => c_X12_folded l D t h0 L _ hH.2 z98 _ hw sz) dX12_share_182 rfl rfl (by decide) rfl hl.1 (Nat.le_of_ble_eq_true rfl) (by decide) rfl (fun z100 σ99 H locs hw hH => ?_)
                              obtain ⟨K103, hK104, hw⟩ := jn_open hw
                              refine w_join (K := K103) 193 (fun (x101 : Int32) => [(6, .int x78.1), (4, .int x13.1), (2, .int z1), (1, .int a1), (0, .ref h0)]) (fun (x101 : Int32) => [.int x101]) hl hH (fun x101 σ102 ls H locs hl hw hH => ?_) (fun jn105 => ?_)
                              · have hw := hK104 x101 σ102 hw
                                have hl : lv_has ls 7 [(6, .int x78.1), (4, .int x13.1), (2, .int z1), (1, .int a1), (0, .ref h0)] := hl
                                refine lv_istore (lv' := [(5, .int x101), (6, .int x78.1), (4, .int x13.1), (2, .int z1), (1, .int a1), (0, .ref h0)]) hx hb dX12_share_193 hl (by decide) rfl (fun ls hl => ?_)
                                obtain ⟨z106, ez106⟩ : ∃ z : Int32, z = x78.1 + 1 := ⟨_, rfl⟩
                                have hw := hw z106 ez106
                                refine lv_iinc (lv' := [(6, .int z106), (5, .int x101), (4, .int x13.1), (2, .int z1), (1, .int a1), (0, .ref h0)]) (k := 1) (v := z106) hx hb dX12_share_195 hl rfl ez106.symm (by decide) rfl (fun ls hl => ?_)
                                refine lv_goto (tgt := 148) hx hb dX12_share_198 rfl ?_
                                exact ih81 (z106, x101) σ102 ls _ _ hl hw hH
                              · skip
                                refine w_icmp_ne (tgt := 192) hF dX12_share_185 rfl hw (fun hw => ?_) (fun hw => ?_)
                                · refine lv_iconst (v := 0) hx hb dX12_share_192 (by decide) ?_
                                  have hl : lv_has ls 7 [(6, .int x78.1), (4, .int x13.1), (2, .int z1), (1, .int a1), (0, .ref h0)] := lv_sub hl [0, 2, 3, 4, 5] rfl
                                  exact jn105 0 σ99 ls _ _ hl hw hH
                                · refine lv_iconst (v := 1) hx hb dX12_share_188 (by decide) ?_
                                  refine lv_goto (tgt := 193) hx hb dX12_share_189 rfl ?_
                                  have hl : lv_has ls 7 [(6, .int x78.1), (4, .int x13.1), (2, .int z1), (1, .int a1), (0, .ref h0)] := lv_sub hl [0, 2, 3, 4, 5] rfl
                                  exact jn105 1 σ99 ls _ _ hl hw hH
                      · skip
                        obtain ⟨K109, hK110, hw⟩ := jn_open hw
                        refine w_join (K := K109) 142 (fun (x107 : Unit) => [(4, .int x13.1), (2, .int z1), (1, .int a1), (0, .ref h0)]) (fun (x107 : Unit) => []) hl hH (fun x107 σ108 ls H locs hl hw hH => ?_) (fun jn111 => ?_)
                        · have hw := hK110 x107 σ108 hw
                          have hl : lv_has ls 7 [(4, .int x13.1), (2, .int z1), (1, .int a1), (0, .ref h0)] := hl
                          refine lv_iconst (v := 0) hx hb dX12_share_142 (by decide) ?_
                          exact jn77 0 σ108 ls _ _ hl hw hH
                        · skip
                          refine w_if_lt (tgt := 142) hF dX12_share_124 rfl hw (fun hw => ?_) (fun hw => ?_)
                          · have hl : lv_has ls 7 [(4, .int x13.1), (2, .int z1), (1, .int a1), (0, .ref h0)] := lv_sub hl [0, 2, 3, 4] rfl
                            exact jn111 () σ14 ls _ _ hl hw hH
                          · refine lv_aload_n hx hb dX12_share_127 rfl (lv_at hl 4 rfl) ?_
                            refine w_getA 13 hF hH fk_X12_53 dX12_share_128 (by decide) rfl ?_
                            refine lv_iload hx hb dX12_share_131 (lv_at hl 0 rfl) ?_
                            refine w_iald 13 4 hF hH dX12_share_133 (by decide) rfl rfl hw (fun z112 hw => ?_)
                            refine lv_iload_n hx hb dX12_share_134 rfl (lv_at hl 2 rfl) ?_
                            refine w_icmp_ne (tgt := 142) hF dX12_share_135 rfl hw (fun hw => ?_) (fun hw => ?_)
                            · have hl : lv_has ls 7 [(4, .int x13.1), (2, .int z1), (1, .int a1), (0, .ref h0)] := lv_sub hl [0, 2, 3, 4] rfl
                              exact jn111 () σ14 ls _ _ hl hw hH
                            · refine lv_iconst (v := 1) hx hb dX12_share_138 (by decide) ?_
                              refine lv_goto (tgt := 143) hx hb dX12_share_139 rfl ?_
                              have hl : lv_has ls 7 [(4, .int x13.1), (2, .int z1), (1, .int a1), (0, .ref h0)] := lv_sub hl [0, 2, 3, 4] rfl
                              exact jn77 1 σ14 ls _ _ hl hw hH
              · refine lv_iload_n hx hb dX12_share_52 rfl (lv_at hl 1 rfl) ?_
                obtain ⟨K115, hK116, hw⟩ := jn_open hw
                refine w_join (K := K115) 97 (fun (x113 : Int32) => [(4, .int x9.1), (2, .int z1), (1, .int a1), (0, .ref h0)]) (fun (x113 : Int32) => [.int x113]) hl hH (fun x113 σ114 ls H locs hl hw hH => ?_) (fun jn117 => ?_)
                · have hw := hK116 x113 σ114 hw
                  have hl : lv_has ls 7 [(4, .int x9.1), (2, .int z1), (1, .int a1), (0, .ref h0)] := hl
                  refine lv_istore_n (lv' := [(3, .int x113), (4, .int x9.1), (2, .int z1), (1, .int a1), (0, .ref h0)]) hx hb dX12_share_97 rfl hl (by decide) rfl (fun ls hl => ?_)
                  obtain ⟨z118, ez118⟩ : ∃ z : Int32, z = x9.1 + 1 := ⟨_, rfl⟩
                  have hw := hw z118 ez118
                  refine lv_iinc (lv' := [(4, .int z118), (3, .int x113), (2, .int z1), (1, .int a1), (0, .ref h0)]) (k := 1) (v := z118) hx hb dX12_share_98 hl rfl ez118.symm (by decide) rfl (fun ls hl => ?_)
                  refine lv_goto (tgt := 46) hx hb dX12_share_101 rfl ?_
                  exact ih12 (z118, x113) σ114 ls _ _ hl hw hH
                · skip
                  obtain ⟨K121, hK122, hw⟩ := jn_open hw
                  refine w_join (K := K121) 96 (fun (x119 : Unit) => [(4, .int x9.1), (2, .int z1), (1, .int a1), (0, .ref h0)]) (fun (x119 : Unit) => []) hl hH (fun x119 σ120 ls H locs hl hw hH => ?_) (fun jn123 => ?_)
                  · have hw := hK122 x119 σ120 hw
                    have hl : lv_has ls 7 [(4, .int x9.1), (2, .int z1), (1, .int a1), (0, .ref h0)] := hl
                    refine lv_iconst (v := 0) hx hb dX12_share_96 (by decide) ?_
                    exact jn117 0 σ120 ls _ _ hl hw hH
                  · skip
                    refine w_if_eq (tgt := 96) hF dX12_share_53 rfl hw (fun hw => ?_) (fun hw => ?_)
                    · have hl : lv_has ls 7 [(4, .int x9.1), (2, .int z1), (1, .int a1), (0, .ref h0)] := lv_sub hl [0, 2, 3, 4] rfl
                      exact jn123 () σ10 ls _ _ hl hw hH
                    · refine lv_aload_n hx hb dX12_share_56 rfl (lv_at hl 4 rfl) ?_
                      refine w_getA 0 hF hH fk_X12_7 dX12_share_57 (by decide) rfl ?_
                      refine lv_iload hx hb dX12_share_60 (lv_at hl 0 rfl) ?_
                      refine w_bald 0 8000 hF hH dX12_share_62 (by decide) rfl rfl hw (fun z124 hw => ?_)
                      refine lv_bipush (v := 33) hx hb dX12_share_63 (by decide) ?_
                      refine w_icmp_lt (tgt := 96) hF dX12_share_65 rfl hw (fun hw => ?_) (fun hw => ?_)
                      · have hl : lv_has ls 7 [(4, .int x9.1), (2, .int z1), (1, .int a1), (0, .ref h0)] := lv_sub hl [0, 2, 3, 4] rfl
                        exact jn123 () σ10 ls _ _ hl hw hH
                      · refine lv_aload_n hx hb dX12_share_68 rfl (lv_at hl 4 rfl) ?_
                        refine w_getA 0 hF hH fk_X12_7 dX12_share_69 (by decide) rfl ?_
                        refine lv_iload hx hb dX12_share_72 (lv_at hl 0 rfl) ?_
                        refine w_bald 0 8000 hF hH dX12_share_74 (by decide) rfl rfl hw (fun z125 hw => ?_)
                        refine lv_bipush (v := 126) hx hb dX12_share_75 (by decide) ?_
                        refine w_icmp_gt (tgt := 96) hF dX12_share_77 rfl hw (fun hw => ?_) (fun hw => ?_)
                        · have hl : lv_has ls 7 [(4, .int x9.1), (2, .int z1), (1, .int a1), (0, .ref h0)] := lv_sub hl [0, 2, 3, 4] rfl
                          exact jn123 () σ10 ls _ _ hl hw hH
                        · refine lv_aload_n hx hb dX12_share_80 rfl (lv_at hl 4 rfl) ?_
                          refine w_getA 0 hF hH fk_X12_7 dX12_share_81 (by decide) rfl ?_
                          refine lv_iload hx hb dX12_share_84 (lv_at hl 0 rfl) ?_
                          refine w_bald 0 8000 hF hH dX12_share_86 (by decide) rfl rfl hw (fun z126 hw => ?_)
                          refine lv_bipush (v := 92) hx hb dX12_share_87 (by decide) ?_
                          refine w_icmp_eq (tgt := 96) hF dX12_share_89 rfl hw (fun hw => ?_) (fun hw => ?_)
                          · have hl : lv_has ls 7 [(4, .int x9.1), (2, .int z1), (1, .int a1), (0, .ref h0)] := lv_sub hl [0, 2, 3, 4] rfl
                            exact jn123 () σ10 ls _ _ hl hw hH
                          · refine lv_iconst (v := 1) hx hb dX12_share_92 (by decide) ?_
                            refine lv_goto (tgt := 97) hx hb dX12_share_93 rfl ?_
                            have hl : lv_has ls 7 [(4, .int x9.1), (2, .int z1), (1, .int a1), (0, .ref h0)] := lv_sub hl [0, 2, 3, 4] rfl
                            exact jn117 1 σ10 ls _ _ hl hw hH
            · have hl : lv_has ls 7 [] := lv_sub hl [] rfl
              exact jn7 () σ2 ls _ _ hl hw hH
def F_X12_isLine (h0 : Nat) (L : Nat → Nat) (a0 : Int32) (post : Int32 → HS → Prop) (σ : HS) : Prop := jn (fun (K3 : Int32 → HS → Prop) => jn (fun (K8 : Unit → HS → Prop) => ((a0.toInt < 0) → K8 () σ) ∧ ((0 ≤ a0.toInt) → (((6 : Int32).toInt ≤ a0.toInt) → K8 () σ) ∧ ((a0.toInt < (6 : Int32).toInt) → K3 1 σ))) (fun (x6 : Unit) (σ7 : HS) => K3 0 σ7)) (fun (x1 : Int32) (σ2 : HS) => (0 ≤ x1.toInt ∧ x1.toInt ≤ 1) ∧ post x1 σ2)
theorem dX12_isLine_0 : decode cX12_isLine 0 = .ok (.iload_n 0, 1) := by decide +kernel
theorem dX12_isLine_1 : decode cX12_isLine 1 = .ok (.ifCond .lt 13, 3) := by decide +kernel
theorem dX12_isLine_4 : decode cX12_isLine 4 = .ok (.iload_n 0, 1) := by decide +kernel
theorem dX12_isLine_5 : decode cX12_isLine 5 = .ok (.bipush 6, 2) := by decide +kernel
theorem dX12_isLine_7 : decode cX12_isLine 7 = .ok (.if_icmp .ge 7, 3) := by decide +kernel
theorem dX12_isLine_10 : decode cX12_isLine 10 = .ok (.iconst 1, 1) := by decide +kernel
theorem dX12_isLine_11 : decode cX12_isLine 11 = .ok (.goto 4, 3) := by decide +kernel
theorem dX12_isLine_14 : decode cX12_isLine 14 = .ok (.iconst 0, 1) := by decide +kernel
theorem dX12_isLine_15 : decode cX12_isLine 15 = .ok (.ireturn, 1) := by decide +kernel
set_option maxRecDepth 100000 in
set_option maxHeartbeats 4000000 in
theorem c_X12_isLine (l : Launch) (D : va_G) (t : Nat → ClassId) (h0 : Nat) (L : Nat → Nat) (σ : HS) (hM : MdI h0 L σ) (a0 : Int32) (post : Int32 → HS → Prop) (hw : F_X12_isLine h0 L a0 post σ) (sz : Nat) : RMi l D t yX12_isLine cX12_isLine 1 (some .boolean) ({ frames := 0, cells := 0, slots := 0, locals := 0 }) h0 L σ sz [.int a0] post := by
  refine h_go (τ := τT) okT (by decide) (Nat.le_of_ble_eq_true rfl) ?_
  intro p e s m below meth c ls A hF hr hlk hAe hH0 hA hl
  unfold hB
  rw [hAe]
  clear hAe
  have hF : FX p m c cX12_isLine 1 s _ RX12 D t := hF
  have hx := hF.1.1
  have hb := hF.1.2.1
  have hH : RT D t A s.heap h0 L σ s.heap [] := ⟨hH0, hM⟩
  have hl : lv_has ls 1 [(0, .int a0)] := hl
  unfold F_X12_isLine at hw
  refine lv_iload_n hx hb dX12_isLine_0 rfl (lv_at hl 0 rfl) ?_
  obtain ⟨K3, hK4, hw⟩ := jn_open hw
  refine w_join (K := K3) 15 (fun (x1 : Int32) => []) (fun (x1 : Int32) => [.int x1]) hl hH (fun x1 σ2 ls H locs hl hw hH => ?_) (fun jn5 => ?_)
  · have hw := hK4 x1 σ2 hw
    have hl : lv_has ls 1 [] := hl
    exact w_retz hF hH hr hlk dX12_isLine_15 hw
  · skip
    obtain ⟨K8, hK9, hw⟩ := jn_open hw
    refine w_join (K := K8) 14 (fun (x6 : Unit) => []) (fun (x6 : Unit) => []) hl hH (fun x6 σ7 ls H locs hl hw hH => ?_) (fun jn10 => ?_)
    · have hw := hK9 x6 σ7 hw
      have hl : lv_has ls 1 [] := hl
      refine lv_iconst (v := 0) hx hb dX12_isLine_14 (by decide) ?_
      exact jn5 0 σ7 ls _ _ hl hw hH
    · skip
      refine w_if_lt (tgt := 14) hF dX12_isLine_1 rfl hw (fun hw => ?_) (fun hw => ?_)
      · have hl : lv_has ls 1 [] := lv_sub hl [] rfl
        exact jn10 () σ ls _ _ hl hw hH
      · refine lv_iload_n hx hb dX12_isLine_4 rfl (lv_at hl 0 rfl) ?_
        refine lv_bipush (v := 6) hx hb dX12_isLine_5 (by decide) ?_
        refine w_icmp_ge (tgt := 14) hF dX12_isLine_7 rfl hw (fun hw => ?_) (fun hw => ?_)
        · have hl : lv_has ls 1 [] := lv_sub hl [] rfl
          exact jn10 () σ ls _ _ hl hw hH
        · refine lv_iconst (v := 1) hx hb dX12_isLine_10 (by decide) ?_
          refine lv_goto (tgt := 15) hx hb dX12_isLine_11 rfl ?_
          have hl : lv_has ls 1 [] := lv_sub hl [] rfl
          exact jn5 1 σ ls _ _ hl hw hH
def F_X12_connect (h0 : Nat) (L : Nat → Nat) (a1 : Int32) (post : Int32 → HS → Prop) (σ : HS) : Prop := F_X12_isLine h0 L a1 (fun (z2 : Int32) (σ1 : HS) => jn (fun (K5 : Unit → HS → Prop) => ((z2.toInt = 0) → K5 () σ1) ∧ ((¬ z2.toInt = 0) → (0 ≤ a1.toInt ∧ a1.toInt < 6) ∧ ∀ z8 : Int32, z8 = sI σ1 (L 25) a1.toInt.toNat → ((z8.toInt = 0) → (0 ≤ a1.toInt ∧ a1.toInt < 6) ∧ ∀ σ9 : HS, σ9 = h_uI σ1 (L 25) a1.toInt.toNat (vp_nar .boolean 1) → (0 ≤ a1.toInt ∧ a1.toInt < 6) ∧ ∀ σ10 : HS, σ10 = h_uI σ9 (L 26) a1.toInt.toNat (vp_nar .boolean 0) → (0 ≤ a1.toInt ∧ a1.toInt < 6) ∧ ∀ σ11 : HS, σ11 = h_uI σ10 (L 28) a1.toInt.toNat 0 → (0 ≤ a1.toInt ∧ a1.toInt < 6) ∧ ∀ σ12 : HS, σ12 = h_uI σ11 (L 30) a1.toInt.toNat 0 → (0 ≤ a1.toInt ∧ a1.toInt < 6) ∧ ∀ σ13 : HS, σ13 = h_uI σ12 (L 32) a1.toInt.toNat 1 → ∀ z14 : Int32, z14 = 16 * a1 → (0 ≤ z14.toInt ∧ z14.toInt < 96) ∧ ∀ σ15 : HS, σ15 = h_uJ σ13 (L 31) z14.toInt.toNat 0 → (0 ≤ a1.toInt ∧ a1.toInt < 6) ∧ ∀ σ16 : HS, σ16 = h_uJ σ15 (L 33) a1.toInt.toNat 0 → (0 ≤ (1 : Int32).toInt ∧ (1 : Int32).toInt ≤ 1) ∧ post 1 σ16) ∧ ((¬ z8.toInt = 0) → K5 () σ1))) (fun (x3 : Unit) (σ4 : HS) => (0 ≤ (0 : Int32).toInt ∧ (0 : Int32).toInt ≤ 1) ∧ post 0 σ4)) σ
theorem dX12_connect_0 : decode cX12_connect 0 = .ok (.iload_n 1, 1) := by decide +kernel
theorem dX12_connect_1 : decode cX12_connect 1 = .ok (.invokestatic 325, 3) := by decide +kernel
theorem dX12_connect_4 : decode cX12_connect 4 = .ok (.ifCond .eq 12, 3) := by decide +kernel
theorem dX12_connect_7 : decode cX12_connect 7 = .ok (.aload_n 0, 1) := by decide +kernel
theorem dX12_connect_8 : decode cX12_connect 8 = .ok (.getfield 89, 3) := by decide +kernel
theorem dX12_connect_11 : decode cX12_connect 11 = .ok (.iload_n 1, 1) := by decide +kernel
theorem dX12_connect_12 : decode cX12_connect 12 = .ok (.baload, 1) := by decide +kernel
theorem dX12_connect_13 : decode cX12_connect 13 = .ok (.ifCond .eq 5, 3) := by decide +kernel
theorem dX12_connect_16 : decode cX12_connect 16 = .ok (.iconst 0, 1) := by decide +kernel
theorem dX12_connect_17 : decode cX12_connect 17 = .ok (.ireturn, 1) := by decide +kernel
theorem dX12_connect_18 : decode cX12_connect 18 = .ok (.aload_n 0, 1) := by decide +kernel
theorem dX12_connect_19 : decode cX12_connect 19 = .ok (.getfield 89, 3) := by decide +kernel
theorem dX12_connect_22 : decode cX12_connect 22 = .ok (.iload_n 1, 1) := by decide +kernel
theorem dX12_connect_23 : decode cX12_connect 23 = .ok (.iconst 1, 1) := by decide +kernel
theorem dX12_connect_24 : decode cX12_connect 24 = .ok (.bastore, 1) := by decide +kernel
theorem dX12_connect_25 : decode cX12_connect 25 = .ok (.aload_n 0, 1) := by decide +kernel
theorem dX12_connect_26 : decode cX12_connect 26 = .ok (.getfield 92, 3) := by decide +kernel
theorem dX12_connect_29 : decode cX12_connect 29 = .ok (.iload_n 1, 1) := by decide +kernel
theorem dX12_connect_30 : decode cX12_connect 30 = .ok (.iconst 0, 1) := by decide +kernel
theorem dX12_connect_31 : decode cX12_connect 31 = .ok (.bastore, 1) := by decide +kernel
theorem dX12_connect_32 : decode cX12_connect 32 = .ok (.aload_n 0, 1) := by decide +kernel
theorem dX12_connect_33 : decode cX12_connect 33 = .ok (.getfield 99, 3) := by decide +kernel
theorem dX12_connect_36 : decode cX12_connect 36 = .ok (.iload_n 1, 1) := by decide +kernel
theorem dX12_connect_37 : decode cX12_connect 37 = .ok (.iconst 0, 1) := by decide +kernel
theorem dX12_connect_38 : decode cX12_connect 38 = .ok (.iastore, 1) := by decide +kernel
theorem dX12_connect_39 : decode cX12_connect 39 = .ok (.aload_n 0, 1) := by decide +kernel
theorem dX12_connect_40 : decode cX12_connect 40 = .ok (.getfield 106, 3) := by decide +kernel
theorem dX12_connect_43 : decode cX12_connect 43 = .ok (.iload_n 1, 1) := by decide +kernel
theorem dX12_connect_44 : decode cX12_connect 44 = .ok (.iconst 0, 1) := by decide +kernel
theorem dX12_connect_45 : decode cX12_connect 45 = .ok (.iastore, 1) := by decide +kernel
theorem dX12_connect_46 : decode cX12_connect 46 = .ok (.aload_n 0, 1) := by decide +kernel
theorem dX12_connect_47 : decode cX12_connect 47 = .ok (.getfield 112, 3) := by decide +kernel
theorem dX12_connect_50 : decode cX12_connect 50 = .ok (.iload_n 1, 1) := by decide +kernel
theorem dX12_connect_51 : decode cX12_connect 51 = .ok (.iconst 1, 1) := by decide +kernel
theorem dX12_connect_52 : decode cX12_connect 52 = .ok (.iastore, 1) := by decide +kernel
theorem dX12_connect_53 : decode cX12_connect 53 = .ok (.aload_n 0, 1) := by decide +kernel
theorem dX12_connect_54 : decode cX12_connect 54 = .ok (.getfield 109, 3) := by decide +kernel
theorem dX12_connect_57 : decode cX12_connect 57 = .ok (.bipush 16, 2) := by decide +kernel
theorem dX12_connect_59 : decode cX12_connect 59 = .ok (.iload_n 1, 1) := by decide +kernel
theorem dX12_connect_60 : decode cX12_connect 60 = .ok (.imul, 1) := by decide +kernel
theorem dX12_connect_61 : decode cX12_connect 61 = .ok (.lconst 0, 1) := by decide +kernel
theorem dX12_connect_62 : decode cX12_connect 62 = .ok (.lastore, 1) := by decide +kernel
theorem dX12_connect_63 : decode cX12_connect 63 = .ok (.aload_n 0, 1) := by decide +kernel
theorem dX12_connect_64 : decode cX12_connect 64 = .ok (.getfield 115, 3) := by decide +kernel
theorem dX12_connect_67 : decode cX12_connect 67 = .ok (.iload_n 1, 1) := by decide +kernel
theorem dX12_connect_68 : decode cX12_connect 68 = .ok (.lconst 0, 1) := by decide +kernel
theorem dX12_connect_69 : decode cX12_connect 69 = .ok (.lastore, 1) := by decide +kernel
theorem dX12_connect_70 : decode cX12_connect 70 = .ok (.iconst 1, 1) := by decide +kernel
theorem dX12_connect_71 : decode cX12_connect 71 = .ok (.ireturn, 1) := by decide +kernel
set_option maxRecDepth 100000 in
set_option maxHeartbeats 4000000 in
theorem c_X12_connect (l : Launch) (D : va_G) (t : Nat → ClassId) (h0 : Nat) (L : Nat → Nat) (σ : HS) (hM : MdI h0 L σ) (a1 : Int32) (post : Int32 → HS → Prop) (hw : F_X12_connect h0 L a1 post σ) (sz : Nat) : RMi l D t yX12_connect cX12_connect 2 (some .boolean) ({ frames := 1, cells := 0, slots := 0, locals := 20 }) h0 L σ sz [.ref h0, .int a1] post := by
  refine h_go (τ := τT) okT (by decide) (Nat.le_of_ble_eq_true rfl) ?_
  intro p e s m below meth c ls A hF hr hlk hAe hH0 hA hl
  unfold hB
  rw [hAe]
  clear hAe
  have hF : FX p m c cX12_connect 2 s _ RX12 D t := hF
  have hx := hF.1.1
  have hb := hF.1.2.1
  have hH : RT D t A s.heap h0 L σ s.heap [] := ⟨hH0, hM⟩
  have hl : lv_has ls 2 [(0, .ref h0), (1, .int a1)] := hl
  unfold F_X12_connect at hw
  refine lv_iload_n hx hb dX12_connect_0 rfl (lv_at hl 1 rfl) ?_
  refine w_cSi (As := [.int a1]) (rest := []) hF hH hA ms_X12_325 (fun sz => c_X12_isLine l D t h0 L _ hH.2 a1 _ hw sz) dX12_connect_1 rfl rfl (by decide) rfl hl.1 (Nat.le_of_ble_eq_true rfl) (by decide) rfl (fun z2 σ1 H locs hw hH => ?_)
  obtain ⟨K5, hK6, hw⟩ := jn_open hw
  refine w_join (K := K5) 16 (fun (x3 : Unit) => []) (fun (x3 : Unit) => []) hl hH (fun x3 σ4 ls H locs hl hw hH => ?_) (fun jn7 => ?_)
  · have hw := hK6 x3 σ4 hw
    have hl : lv_has ls 2 [] := hl
    refine lv_iconst (v := 0) hx hb dX12_connect_16 (by decide) ?_
    exact w_retz hF hH hr hlk dX12_connect_17 hw
  · skip
    refine w_if_eq (tgt := 16) hF dX12_connect_4 rfl hw (fun hw => ?_) (fun hw => ?_)
    · have hl : lv_has ls 2 [] := lv_sub hl [] rfl
      exact jn7 () σ1 ls _ _ hl hw hH
    · refine lv_aload_n hx hb dX12_connect_7 rfl (lv_at hl 0 rfl) ?_
      refine w_getA 25 hF hH fk_X12_89 dX12_connect_8 (by decide) rfl ?_
      refine lv_iload_n hx hb dX12_connect_11 rfl (lv_at hl 1 rfl) ?_
      refine w_zald 25 6 hF hH dX12_connect_12 (by decide) rfl rfl hw (fun z8 hw => ?_)
      refine w_if_eq (tgt := 18) hF dX12_connect_13 rfl hw (fun hw => ?_) (fun hw => ?_)
      · refine lv_aload_n hx hb dX12_connect_18 rfl (lv_at hl 0 rfl) ?_
        refine w_getA 25 hF hH fk_X12_89 dX12_connect_19 (by decide) rfl ?_
        refine lv_iload_n hx hb dX12_connect_22 rfl (lv_at hl 1 rfl) ?_
        refine lv_iconst (v := 1) hx hb dX12_connect_23 (by decide) ?_
        refine w_zast 25 6 hF hH dX12_connect_24 (by decide) rfl rfl hw (fun σ9 H locs hw hH => ?_)
        refine lv_aload_n hx hb dX12_connect_25 rfl (lv_at hl 0 rfl) ?_
        refine w_getA 26 hF hH fk_X12_92 dX12_connect_26 (by decide) rfl ?_
        refine lv_iload_n hx hb dX12_connect_29 rfl (lv_at hl 1 rfl) ?_
        refine lv_iconst (v := 0) hx hb dX12_connect_30 (by decide) ?_
        refine w_zast 26 6 hF hH dX12_connect_31 (by decide) rfl rfl hw (fun σ10 H locs hw hH => ?_)
        refine lv_aload_n hx hb dX12_connect_32 rfl (lv_at hl 0 rfl) ?_
        refine w_getA 28 hF hH fk_X12_99 dX12_connect_33 (by decide) rfl ?_
        refine lv_iload_n hx hb dX12_connect_36 rfl (lv_at hl 1 rfl) ?_
        refine lv_iconst (v := 0) hx hb dX12_connect_37 (by decide) ?_
        refine w_iast 28 6 hF hH dX12_connect_38 (by decide) rfl rfl hw (fun σ11 H locs hw hH => ?_)
        refine lv_aload_n hx hb dX12_connect_39 rfl (lv_at hl 0 rfl) ?_
        refine w_getA 30 hF hH fk_X12_106 dX12_connect_40 (by decide) rfl ?_
        refine lv_iload_n hx hb dX12_connect_43 rfl (lv_at hl 1 rfl) ?_
        refine lv_iconst (v := 0) hx hb dX12_connect_44 (by decide) ?_
        refine w_iast 30 6 hF hH dX12_connect_45 (by decide) rfl rfl hw (fun σ12 H locs hw hH => ?_)
        refine lv_aload_n hx hb dX12_connect_46 rfl (lv_at hl 0 rfl) ?_
        refine w_getA 32 hF hH fk_X12_112 dX12_connect_47 (by decide) rfl ?_
        refine lv_iload_n hx hb dX12_connect_50 rfl (lv_at hl 1 rfl) ?_
        refine lv_iconst (v := 1) hx hb dX12_connect_51 (by decide) ?_
        refine w_iast 32 6 hF hH dX12_connect_52 (by decide) rfl rfl hw (fun σ13 H locs hw hH => ?_)
        refine lv_aload_n hx hb dX12_connect_53 rfl (lv_at hl 0 rfl) ?_
        refine w_getA 31 hF hH fk_X12_109 dX12_connect_54 (by decide) rfl ?_
        refine lv_bipush (v := 16) hx hb dX12_connect_57 (by decide) ?_
        refine lv_iload_n hx hb dX12_connect_59 rfl (lv_at hl 1 rfl) ?_
        refine lv_imul hx hb dX12_connect_60 ?_
        refine w_nmi hw (fun z14 hw => ?_)
        refine lv_lconst (v := 0) hx hb dX12_connect_61 (by decide) ?_
        refine w_last 31 96 hF hH dX12_connect_62 (by decide) rfl rfl hw (fun σ15 H locs hw hH => ?_)
        refine lv_aload_n hx hb dX12_connect_63 rfl (lv_at hl 0 rfl) ?_
        refine w_getA 33 hF hH fk_X12_115 dX12_connect_64 (by decide) rfl ?_
        refine lv_iload_n hx hb dX12_connect_67 rfl (lv_at hl 1 rfl) ?_
        refine lv_lconst (v := 0) hx hb dX12_connect_68 (by decide) ?_
        refine w_last 33 6 hF hH dX12_connect_69 (by decide) rfl rfl hw (fun σ16 H locs hw hH => ?_)
        refine lv_iconst (v := 1) hx hb dX12_connect_70 (by decide) ?_
        exact w_retz hF hH hr hlk dX12_connect_71 hw
      · have hl : lv_has ls 2 [] := lv_sub hl [] rfl
        exact jn7 () σ1 ls _ _ hl hw hH
def F_X12_forget (h0 : Nat) (L : Nat → Nat) (a1 : Int32) (post : HS → Prop) (σ : HS) : Prop := ∀ z1 : Int32, z1 = sI σ h0 69 → ∀ z2 : Int32, z2 = z1 - 1 → ∀ σ3 : HS, σ3 = h_uI σ h0 69 z2 → lw (fun (K6 : Int32 → HS → Prop) (x4 : Int32) (σ5 : HS) => ∀ z8 : Int32, z8 = sI σ5 h0 69 → ((z8.toInt ≤ x4.toInt) → post σ5) ∧ ((x4.toInt < z8.toInt) → ∀ z9 : Int32, z9 = x4 + 1 → (0 ≤ z9.toInt ∧ z9.toInt < 16) ∧ ∀ z10 : Int32, z10 = sI σ5 (L 61) z9.toInt.toNat → (0 ≤ x4.toInt ∧ x4.toInt < 16) ∧ ∀ σ11 : HS, σ11 = h_uI σ5 (L 61) x4.toInt.toNat z10 → ∀ z12 : Int32, z12 = x4 + 1 → (0 ≤ z12.toInt ∧ z12.toInt < 16) ∧ ∀ z13 : Int32, z13 = sI σ11 (L 62) z12.toInt.toNat → (0 ≤ x4.toInt ∧ x4.toInt < 16) ∧ ∀ σ14 : HS, σ14 = h_uI σ11 (L 62) x4.toInt.toNat z13 → ∀ z15 : Int32, z15 = x4 + 1 → (0 ≤ z15.toInt ∧ z15.toInt < 16) ∧ ∀ z16 : Int32, z16 = sI σ14 (L 63) z15.toInt.toNat → (0 ≤ x4.toInt ∧ x4.toInt < 16) ∧ ∀ σ17 : HS, σ17 = h_uI σ14 (L 63) x4.toInt.toNat z16 → ∀ z18 : Int32, z18 = x4 + 1 → (0 ≤ z18.toInt ∧ z18.toInt < 16) ∧ ∀ z19 : Int32, z19 = sI σ17 (L 64) z18.toInt.toNat → (0 ≤ x4.toInt ∧ x4.toInt < 16) ∧ ∀ σ20 : HS, σ20 = h_uI σ17 (L 64) x4.toInt.toNat (vp_nar .boolean z19) → ∀ z21 : Int32, z21 = x4 + 1 → (0 ≤ z21.toInt ∧ z21.toInt < 16) ∧ ∀ z22 : Int64, z22 = sJ σ20 (L 65) z21.toInt.toNat → (0 ≤ x4.toInt ∧ x4.toInt < 16) ∧ ∀ σ23 : HS, σ23 = h_uJ σ20 (L 65) x4.toInt.toNat z22 → ∀ z24 : Int32, z24 = x4 + 1 → (0 ≤ z24.toInt ∧ z24.toInt < 16) ∧ ∀ z25 : Int64, z25 = sJ σ23 (L 66) z24.toInt.toNat → (0 ≤ x4.toInt ∧ x4.toInt < 16) ∧ ∀ σ26 : HS, σ26 = h_uJ σ23 (L 66) x4.toInt.toNat z25 → ∀ z27 : Int32, z27 = x4 + 1 → (0 ≤ z27.toInt ∧ z27.toInt < 16) ∧ ∀ z28 : Int32, z28 = sI σ26 (L 67) z27.toInt.toNat → (0 ≤ x4.toInt ∧ x4.toInt < 16) ∧ ∀ σ29 : HS, σ29 = h_uI σ26 (L 67) x4.toInt.toNat z28 → ∀ z30 : Int32, z30 = x4 + 1 → (0 ≤ z30.toInt ∧ z30.toInt < 16) ∧ ∀ z31 : Int32, z31 = sI σ29 (L 68) z30.toInt.toNat → (0 ≤ x4.toInt ∧ x4.toInt < 16) ∧ ∀ σ32 : HS, σ32 = h_uI σ29 (L 68) x4.toInt.toNat z31 → ∀ z33 : Int32, z33 = x4 + 1 → (0 ≤ z33.toInt ∧ z33.toInt < 16) ∧ ∀ z34 : Int64, z34 = sJ σ32 (L 69) z33.toInt.toNat → (0 ≤ x4.toInt ∧ x4.toInt < 16) ∧ ∀ σ35 : HS, σ35 = h_uJ σ32 (L 69) x4.toInt.toNat z34 → ∀ z36 : Int32, z36 = x4 + 1 → (0 ≤ z36.toInt ∧ z36.toInt < 16) ∧ ∀ z37 : Int32, z37 = sI σ35 (L 70) z36.toInt.toNat → (0 ≤ x4.toInt ∧ x4.toInt < 16) ∧ ∀ σ38 : HS, σ38 = h_uI σ35 (L 70) x4.toInt.toNat z37 → ∀ z39 : Int32, z39 = x4 + 1 → (0 ≤ z39.toInt ∧ z39.toInt < 16) ∧ ∀ z40 : Int64, z40 = sJ σ38 (L 71) z39.toInt.toNat → (0 ≤ x4.toInt ∧ x4.toInt < 16) ∧ ∀ σ41 : HS, σ41 = h_uJ σ38 (L 71) x4.toInt.toNat z40 → ∀ z42 : Int32, z42 = x4 + 1 → (0 ≤ z42.toInt ∧ z42.toInt < 16) ∧ ∀ z43 : Int64, z43 = sJ σ41 (L 72) z42.toInt.toNat → (0 ≤ x4.toInt ∧ x4.toInt < 16) ∧ ∀ σ44 : HS, σ44 = h_uJ σ41 (L 72) x4.toInt.toNat z43 → ∀ z45 : Int32, z45 = x4 + 1 → (0 ≤ z45.toInt ∧ z45.toInt < 16) ∧ ∀ z46 : Int32, z46 = sI σ44 (L 73) z45.toInt.toNat → (0 ≤ x4.toInt ∧ x4.toInt < 16) ∧ ∀ σ47 : HS, σ47 = h_uI σ44 (L 73) x4.toInt.toNat (vp_nar .boolean z46) → ∀ z48 : Int32, z48 = x4 + 1 → (0 ≤ z48.toInt ∧ z48.toInt < 16) ∧ ∀ z49 : Int32, z49 = sI σ47 (L 74) z48.toInt.toNat → (0 ≤ x4.toInt ∧ x4.toInt < 16) ∧ ∀ σ50 : HS, σ50 = h_uI σ47 (L 74) x4.toInt.toNat z49 → lw (fun (K53 : Int32 → HS → Prop) (x51 : Int32) (σ52 : HS) => (0 ≤ x4.toInt ∧ x4.toInt < 16) ∧ ∀ z55 : Int32, z55 = sI σ52 (L 74) x4.toInt.toNat → ((z55.toInt ≤ x51.toInt) → ∀ z56 : Int32, z56 = x4 + 1 → K6 z56 σ52) ∧ ((x51.toInt < z55.toInt) → ∀ z57 : Int32, z57 = 4000 * x4 → ∀ z58 : Int32, z58 = z57 + x51 → ∀ z59 : Int32, z59 = x4 + 1 → ∀ z60 : Int32, z60 = 4000 * z59 → ∀ z61 : Int32, z61 = z60 + x51 → (0 ≤ z61.toInt ∧ z61.toInt < 64000) ∧ ∀ z62 : Int32, z62 = sI σ52 (L 75) z61.toInt.toNat → (0 ≤ z58.toInt ∧ z58.toInt < 64000) ∧ ∀ σ63 : HS, σ63 = h_uI σ52 (L 75) z58.toInt.toNat (vp_nar .byte z62) → ∀ z64 : Int32, z64 = x51 + 1 → K53 z64 σ63)) 0 σ50)) a1 σ3
theorem dX12_forget_0 : decode cX12_forget 0 = .ok (.aload_n 0, 1) := by decide +kernel
theorem dX12_forget_1 : decode cX12_forget 1 = .ok (.dup, 1) := by decide +kernel
theorem dX12_forget_2 : decode cX12_forget 2 = .ok (.getfield 292, 3) := by decide +kernel
theorem dX12_forget_5 : decode cX12_forget 5 = .ok (.iconst 1, 1) := by decide +kernel
theorem dX12_forget_6 : decode cX12_forget 6 = .ok (.isub, 1) := by decide +kernel
theorem dX12_forget_7 : decode cX12_forget 7 = .ok (.putfield 292, 3) := by decide +kernel
theorem dX12_forget_10 : decode cX12_forget 10 = .ok (.iload_n 1, 1) := by decide +kernel
theorem dX12_forget_11 : decode cX12_forget 11 = .ok (.istore_n 2, 1) := by decide +kernel
theorem dX12_forget_12 : decode cX12_forget 12 = .ok (.iload_n 2, 1) := by decide +kernel
theorem dX12_forget_13 : decode cX12_forget 13 = .ok (.aload_n 0, 1) := by decide +kernel
theorem dX12_forget_14 : decode cX12_forget 14 = .ok (.getfield 292, 3) := by decide +kernel
theorem dX12_forget_17 : decode cX12_forget 17 = .ok (.if_icmp .ge 249, 3) := by decide +kernel
theorem dX12_forget_20 : decode cX12_forget 20 = .ok (.aload_n 0, 1) := by decide +kernel
theorem dX12_forget_21 : decode cX12_forget 21 = .ok (.getfield 199, 3) := by decide +kernel
theorem dX12_forget_24 : decode cX12_forget 24 = .ok (.iload_n 2, 1) := by decide +kernel
theorem dX12_forget_25 : decode cX12_forget 25 = .ok (.aload_n 0, 1) := by decide +kernel
theorem dX12_forget_26 : decode cX12_forget 26 = .ok (.getfield 199, 3) := by decide +kernel
theorem dX12_forget_29 : decode cX12_forget 29 = .ok (.iload_n 2, 1) := by decide +kernel
theorem dX12_forget_30 : decode cX12_forget 30 = .ok (.iconst 1, 1) := by decide +kernel
theorem dX12_forget_31 : decode cX12_forget 31 = .ok (.iadd, 1) := by decide +kernel
theorem dX12_forget_32 : decode cX12_forget 32 = .ok (.iaload, 1) := by decide +kernel
theorem dX12_forget_33 : decode cX12_forget 33 = .ok (.iastore, 1) := by decide +kernel
theorem dX12_forget_34 : decode cX12_forget 34 = .ok (.aload_n 0, 1) := by decide +kernel
theorem dX12_forget_35 : decode cX12_forget 35 = .ok (.getfield 202, 3) := by decide +kernel
theorem dX12_forget_38 : decode cX12_forget 38 = .ok (.iload_n 2, 1) := by decide +kernel
theorem dX12_forget_39 : decode cX12_forget 39 = .ok (.aload_n 0, 1) := by decide +kernel
theorem dX12_forget_40 : decode cX12_forget 40 = .ok (.getfield 202, 3) := by decide +kernel
theorem dX12_forget_43 : decode cX12_forget 43 = .ok (.iload_n 2, 1) := by decide +kernel
theorem dX12_forget_44 : decode cX12_forget 44 = .ok (.iconst 1, 1) := by decide +kernel
theorem dX12_forget_45 : decode cX12_forget 45 = .ok (.iadd, 1) := by decide +kernel
theorem dX12_forget_46 : decode cX12_forget 46 = .ok (.iaload, 1) := by decide +kernel
theorem dX12_forget_47 : decode cX12_forget 47 = .ok (.iastore, 1) := by decide +kernel
theorem dX12_forget_48 : decode cX12_forget 48 = .ok (.aload_n 0, 1) := by decide +kernel
theorem dX12_forget_49 : decode cX12_forget 49 = .ok (.getfield 205, 3) := by decide +kernel
theorem dX12_forget_52 : decode cX12_forget 52 = .ok (.iload_n 2, 1) := by decide +kernel
theorem dX12_forget_53 : decode cX12_forget 53 = .ok (.aload_n 0, 1) := by decide +kernel
theorem dX12_forget_54 : decode cX12_forget 54 = .ok (.getfield 205, 3) := by decide +kernel
theorem dX12_forget_57 : decode cX12_forget 57 = .ok (.iload_n 2, 1) := by decide +kernel
theorem dX12_forget_58 : decode cX12_forget 58 = .ok (.iconst 1, 1) := by decide +kernel
theorem dX12_forget_59 : decode cX12_forget 59 = .ok (.iadd, 1) := by decide +kernel
theorem dX12_forget_60 : decode cX12_forget 60 = .ok (.iaload, 1) := by decide +kernel
theorem dX12_forget_61 : decode cX12_forget 61 = .ok (.iastore, 1) := by decide +kernel
theorem dX12_forget_62 : decode cX12_forget 62 = .ok (.aload_n 0, 1) := by decide +kernel
theorem dX12_forget_63 : decode cX12_forget 63 = .ok (.getfield 208, 3) := by decide +kernel
theorem dX12_forget_66 : decode cX12_forget 66 = .ok (.iload_n 2, 1) := by decide +kernel
theorem dX12_forget_67 : decode cX12_forget 67 = .ok (.aload_n 0, 1) := by decide +kernel
theorem dX12_forget_68 : decode cX12_forget 68 = .ok (.getfield 208, 3) := by decide +kernel
theorem dX12_forget_71 : decode cX12_forget 71 = .ok (.iload_n 2, 1) := by decide +kernel
theorem dX12_forget_72 : decode cX12_forget 72 = .ok (.iconst 1, 1) := by decide +kernel
theorem dX12_forget_73 : decode cX12_forget 73 = .ok (.iadd, 1) := by decide +kernel
theorem dX12_forget_74 : decode cX12_forget 74 = .ok (.baload, 1) := by decide +kernel
theorem dX12_forget_75 : decode cX12_forget 75 = .ok (.bastore, 1) := by decide +kernel
theorem dX12_forget_76 : decode cX12_forget 76 = .ok (.aload_n 0, 1) := by decide +kernel
theorem dX12_forget_77 : decode cX12_forget 77 = .ok (.getfield 211, 3) := by decide +kernel
theorem dX12_forget_80 : decode cX12_forget 80 = .ok (.iload_n 2, 1) := by decide +kernel
theorem dX12_forget_81 : decode cX12_forget 81 = .ok (.aload_n 0, 1) := by decide +kernel
theorem dX12_forget_82 : decode cX12_forget 82 = .ok (.getfield 211, 3) := by decide +kernel
theorem dX12_forget_85 : decode cX12_forget 85 = .ok (.iload_n 2, 1) := by decide +kernel
theorem dX12_forget_86 : decode cX12_forget 86 = .ok (.iconst 1, 1) := by decide +kernel
theorem dX12_forget_87 : decode cX12_forget 87 = .ok (.iadd, 1) := by decide +kernel
theorem dX12_forget_88 : decode cX12_forget 88 = .ok (.laload, 1) := by decide +kernel
theorem dX12_forget_89 : decode cX12_forget 89 = .ok (.lastore, 1) := by decide +kernel
theorem dX12_forget_90 : decode cX12_forget 90 = .ok (.aload_n 0, 1) := by decide +kernel
theorem dX12_forget_91 : decode cX12_forget 91 = .ok (.getfield 214, 3) := by decide +kernel
theorem dX12_forget_94 : decode cX12_forget 94 = .ok (.iload_n 2, 1) := by decide +kernel
theorem dX12_forget_95 : decode cX12_forget 95 = .ok (.aload_n 0, 1) := by decide +kernel
theorem dX12_forget_96 : decode cX12_forget 96 = .ok (.getfield 214, 3) := by decide +kernel
theorem dX12_forget_99 : decode cX12_forget 99 = .ok (.iload_n 2, 1) := by decide +kernel
theorem dX12_forget_100 : decode cX12_forget 100 = .ok (.iconst 1, 1) := by decide +kernel
theorem dX12_forget_101 : decode cX12_forget 101 = .ok (.iadd, 1) := by decide +kernel
theorem dX12_forget_102 : decode cX12_forget 102 = .ok (.laload, 1) := by decide +kernel
theorem dX12_forget_103 : decode cX12_forget 103 = .ok (.lastore, 1) := by decide +kernel
theorem dX12_forget_104 : decode cX12_forget 104 = .ok (.aload_n 0, 1) := by decide +kernel
theorem dX12_forget_105 : decode cX12_forget 105 = .ok (.getfield 217, 3) := by decide +kernel
theorem dX12_forget_108 : decode cX12_forget 108 = .ok (.iload_n 2, 1) := by decide +kernel
theorem dX12_forget_109 : decode cX12_forget 109 = .ok (.aload_n 0, 1) := by decide +kernel
theorem dX12_forget_110 : decode cX12_forget 110 = .ok (.getfield 217, 3) := by decide +kernel
theorem dX12_forget_113 : decode cX12_forget 113 = .ok (.iload_n 2, 1) := by decide +kernel
theorem dX12_forget_114 : decode cX12_forget 114 = .ok (.iconst 1, 1) := by decide +kernel
theorem dX12_forget_115 : decode cX12_forget 115 = .ok (.iadd, 1) := by decide +kernel
theorem dX12_forget_116 : decode cX12_forget 116 = .ok (.iaload, 1) := by decide +kernel
theorem dX12_forget_117 : decode cX12_forget 117 = .ok (.iastore, 1) := by decide +kernel
theorem dX12_forget_118 : decode cX12_forget 118 = .ok (.aload_n 0, 1) := by decide +kernel
theorem dX12_forget_119 : decode cX12_forget 119 = .ok (.getfield 220, 3) := by decide +kernel
theorem dX12_forget_122 : decode cX12_forget 122 = .ok (.iload_n 2, 1) := by decide +kernel
theorem dX12_forget_123 : decode cX12_forget 123 = .ok (.aload_n 0, 1) := by decide +kernel
theorem dX12_forget_124 : decode cX12_forget 124 = .ok (.getfield 220, 3) := by decide +kernel
theorem dX12_forget_127 : decode cX12_forget 127 = .ok (.iload_n 2, 1) := by decide +kernel
theorem dX12_forget_128 : decode cX12_forget 128 = .ok (.iconst 1, 1) := by decide +kernel
theorem dX12_forget_129 : decode cX12_forget 129 = .ok (.iadd, 1) := by decide +kernel
theorem dX12_forget_130 : decode cX12_forget 130 = .ok (.iaload, 1) := by decide +kernel
theorem dX12_forget_131 : decode cX12_forget 131 = .ok (.iastore, 1) := by decide +kernel
theorem dX12_forget_132 : decode cX12_forget 132 = .ok (.aload_n 0, 1) := by decide +kernel
theorem dX12_forget_133 : decode cX12_forget 133 = .ok (.getfield 223, 3) := by decide +kernel
theorem dX12_forget_136 : decode cX12_forget 136 = .ok (.iload_n 2, 1) := by decide +kernel
theorem dX12_forget_137 : decode cX12_forget 137 = .ok (.aload_n 0, 1) := by decide +kernel
theorem dX12_forget_138 : decode cX12_forget 138 = .ok (.getfield 223, 3) := by decide +kernel
theorem dX12_forget_141 : decode cX12_forget 141 = .ok (.iload_n 2, 1) := by decide +kernel
theorem dX12_forget_142 : decode cX12_forget 142 = .ok (.iconst 1, 1) := by decide +kernel
theorem dX12_forget_143 : decode cX12_forget 143 = .ok (.iadd, 1) := by decide +kernel
theorem dX12_forget_144 : decode cX12_forget 144 = .ok (.laload, 1) := by decide +kernel
theorem dX12_forget_145 : decode cX12_forget 145 = .ok (.lastore, 1) := by decide +kernel
theorem dX12_forget_146 : decode cX12_forget 146 = .ok (.aload_n 0, 1) := by decide +kernel
theorem dX12_forget_147 : decode cX12_forget 147 = .ok (.getfield 226, 3) := by decide +kernel
theorem dX12_forget_150 : decode cX12_forget 150 = .ok (.iload_n 2, 1) := by decide +kernel
theorem dX12_forget_151 : decode cX12_forget 151 = .ok (.aload_n 0, 1) := by decide +kernel
theorem dX12_forget_152 : decode cX12_forget 152 = .ok (.getfield 226, 3) := by decide +kernel
theorem dX12_forget_155 : decode cX12_forget 155 = .ok (.iload_n 2, 1) := by decide +kernel
theorem dX12_forget_156 : decode cX12_forget 156 = .ok (.iconst 1, 1) := by decide +kernel
theorem dX12_forget_157 : decode cX12_forget 157 = .ok (.iadd, 1) := by decide +kernel
theorem dX12_forget_158 : decode cX12_forget 158 = .ok (.iaload, 1) := by decide +kernel
theorem dX12_forget_159 : decode cX12_forget 159 = .ok (.iastore, 1) := by decide +kernel
theorem dX12_forget_160 : decode cX12_forget 160 = .ok (.aload_n 0, 1) := by decide +kernel
theorem dX12_forget_161 : decode cX12_forget 161 = .ok (.getfield 229, 3) := by decide +kernel
theorem dX12_forget_164 : decode cX12_forget 164 = .ok (.iload_n 2, 1) := by decide +kernel
theorem dX12_forget_165 : decode cX12_forget 165 = .ok (.aload_n 0, 1) := by decide +kernel
theorem dX12_forget_166 : decode cX12_forget 166 = .ok (.getfield 229, 3) := by decide +kernel
theorem dX12_forget_169 : decode cX12_forget 169 = .ok (.iload_n 2, 1) := by decide +kernel
theorem dX12_forget_170 : decode cX12_forget 170 = .ok (.iconst 1, 1) := by decide +kernel
theorem dX12_forget_171 : decode cX12_forget 171 = .ok (.iadd, 1) := by decide +kernel
theorem dX12_forget_172 : decode cX12_forget 172 = .ok (.laload, 1) := by decide +kernel
theorem dX12_forget_173 : decode cX12_forget 173 = .ok (.lastore, 1) := by decide +kernel
theorem dX12_forget_174 : decode cX12_forget 174 = .ok (.aload_n 0, 1) := by decide +kernel
theorem dX12_forget_175 : decode cX12_forget 175 = .ok (.getfield 232, 3) := by decide +kernel
theorem dX12_forget_178 : decode cX12_forget 178 = .ok (.iload_n 2, 1) := by decide +kernel
theorem dX12_forget_179 : decode cX12_forget 179 = .ok (.aload_n 0, 1) := by decide +kernel
theorem dX12_forget_180 : decode cX12_forget 180 = .ok (.getfield 232, 3) := by decide +kernel
theorem dX12_forget_183 : decode cX12_forget 183 = .ok (.iload_n 2, 1) := by decide +kernel
theorem dX12_forget_184 : decode cX12_forget 184 = .ok (.iconst 1, 1) := by decide +kernel
theorem dX12_forget_185 : decode cX12_forget 185 = .ok (.iadd, 1) := by decide +kernel
theorem dX12_forget_186 : decode cX12_forget 186 = .ok (.laload, 1) := by decide +kernel
theorem dX12_forget_187 : decode cX12_forget 187 = .ok (.lastore, 1) := by decide +kernel
theorem dX12_forget_188 : decode cX12_forget 188 = .ok (.aload_n 0, 1) := by decide +kernel
theorem dX12_forget_189 : decode cX12_forget 189 = .ok (.getfield 235, 3) := by decide +kernel
theorem dX12_forget_192 : decode cX12_forget 192 = .ok (.iload_n 2, 1) := by decide +kernel
theorem dX12_forget_193 : decode cX12_forget 193 = .ok (.aload_n 0, 1) := by decide +kernel
theorem dX12_forget_194 : decode cX12_forget 194 = .ok (.getfield 235, 3) := by decide +kernel
theorem dX12_forget_197 : decode cX12_forget 197 = .ok (.iload_n 2, 1) := by decide +kernel
theorem dX12_forget_198 : decode cX12_forget 198 = .ok (.iconst 1, 1) := by decide +kernel
theorem dX12_forget_199 : decode cX12_forget 199 = .ok (.iadd, 1) := by decide +kernel
theorem dX12_forget_200 : decode cX12_forget 200 = .ok (.baload, 1) := by decide +kernel
theorem dX12_forget_201 : decode cX12_forget 201 = .ok (.bastore, 1) := by decide +kernel
theorem dX12_forget_202 : decode cX12_forget 202 = .ok (.aload_n 0, 1) := by decide +kernel
theorem dX12_forget_203 : decode cX12_forget 203 = .ok (.getfield 238, 3) := by decide +kernel
theorem dX12_forget_206 : decode cX12_forget 206 = .ok (.iload_n 2, 1) := by decide +kernel
theorem dX12_forget_207 : decode cX12_forget 207 = .ok (.aload_n 0, 1) := by decide +kernel
theorem dX12_forget_208 : decode cX12_forget 208 = .ok (.getfield 238, 3) := by decide +kernel
theorem dX12_forget_211 : decode cX12_forget 211 = .ok (.iload_n 2, 1) := by decide +kernel
theorem dX12_forget_212 : decode cX12_forget 212 = .ok (.iconst 1, 1) := by decide +kernel
theorem dX12_forget_213 : decode cX12_forget 213 = .ok (.iadd, 1) := by decide +kernel
theorem dX12_forget_214 : decode cX12_forget 214 = .ok (.iaload, 1) := by decide +kernel
theorem dX12_forget_215 : decode cX12_forget 215 = .ok (.iastore, 1) := by decide +kernel
theorem dX12_forget_216 : decode cX12_forget 216 = .ok (.iconst 0, 1) := by decide +kernel
theorem dX12_forget_217 : decode cX12_forget 217 = .ok (.istore_n 3, 1) := by decide +kernel
theorem dX12_forget_218 : decode cX12_forget 218 = .ok (.iload_n 3, 1) := by decide +kernel
theorem dX12_forget_219 : decode cX12_forget 219 = .ok (.aload_n 0, 1) := by decide +kernel
theorem dX12_forget_220 : decode cX12_forget 220 = .ok (.getfield 238, 3) := by decide +kernel
theorem dX12_forget_223 : decode cX12_forget 223 = .ok (.iload_n 2, 1) := by decide +kernel
theorem dX12_forget_224 : decode cX12_forget 224 = .ok (.iaload, 1) := by decide +kernel
theorem dX12_forget_225 : decode cX12_forget 225 = .ok (.if_icmp .ge 35, 3) := by decide +kernel
theorem dX12_forget_228 : decode cX12_forget 228 = .ok (.aload_n 0, 1) := by decide +kernel
theorem dX12_forget_229 : decode cX12_forget 229 = .ok (.getfield 242, 3) := by decide +kernel
theorem dX12_forget_232 : decode cX12_forget 232 = .ok (.sipush 4000, 3) := by decide +kernel
theorem dX12_forget_235 : decode cX12_forget 235 = .ok (.iload_n 2, 1) := by decide +kernel
theorem dX12_forget_236 : decode cX12_forget 236 = .ok (.imul, 1) := by decide +kernel
theorem dX12_forget_237 : decode cX12_forget 237 = .ok (.iload_n 3, 1) := by decide +kernel
theorem dX12_forget_238 : decode cX12_forget 238 = .ok (.iadd, 1) := by decide +kernel
theorem dX12_forget_239 : decode cX12_forget 239 = .ok (.aload_n 0, 1) := by decide +kernel
theorem dX12_forget_240 : decode cX12_forget 240 = .ok (.getfield 242, 3) := by decide +kernel
theorem dX12_forget_243 : decode cX12_forget 243 = .ok (.sipush 4000, 3) := by decide +kernel
theorem dX12_forget_246 : decode cX12_forget 246 = .ok (.iload_n 2, 1) := by decide +kernel
theorem dX12_forget_247 : decode cX12_forget 247 = .ok (.iconst 1, 1) := by decide +kernel
theorem dX12_forget_248 : decode cX12_forget 248 = .ok (.iadd, 1) := by decide +kernel
theorem dX12_forget_249 : decode cX12_forget 249 = .ok (.imul, 1) := by decide +kernel
theorem dX12_forget_250 : decode cX12_forget 250 = .ok (.iload_n 3, 1) := by decide +kernel
theorem dX12_forget_251 : decode cX12_forget 251 = .ok (.iadd, 1) := by decide +kernel
theorem dX12_forget_252 : decode cX12_forget 252 = .ok (.baload, 1) := by decide +kernel
theorem dX12_forget_253 : decode cX12_forget 253 = .ok (.bastore, 1) := by decide +kernel
theorem dX12_forget_254 : decode cX12_forget 254 = .ok (.iinc 3 1, 3) := by decide +kernel
theorem dX12_forget_257 : decode cX12_forget 257 = .ok (.goto (-39), 3) := by decide +kernel
theorem dX12_forget_260 : decode cX12_forget 260 = .ok (.iinc 2 1, 3) := by decide +kernel
theorem dX12_forget_263 : decode cX12_forget 263 = .ok (.goto (-251), 3) := by decide +kernel
theorem dX12_forget_266 : decode cX12_forget 266 = .ok (.return_, 1) := by decide +kernel
set_option maxRecDepth 100000 in
set_option maxHeartbeats 4000000 in
theorem c_X12_forget (l : Launch) (D : va_G) (t : Nat → ClassId) (h0 : Nat) (L : Nat → Nat) (σ : HS) (hM : MdI h0 L σ) (a1 : Int32) (post : HS → Prop) (hw : F_X12_forget h0 L a1 post σ) (sz : Nat) : RMv l D t yX12_forget cX12_forget 4 ({ frames := 0, cells := 0, slots := 0, locals := 0 }) h0 L σ sz [.ref h0, .int a1] post := by
  refine h_go (τ := τT) okT (by decide) (Nat.le_of_ble_eq_true rfl) ?_
  intro p e s m below meth c ls A hF hr hlk hAe hH0 hA hl
  unfold hB
  rw [hAe]
  clear hAe
  have hF : FX p m c cX12_forget 4 s _ RX12 D t := hF
  have hx := hF.1.1
  have hb := hF.1.2.1
  have hH : RT D t A s.heap h0 L σ s.heap [] := ⟨hH0, hM⟩
  have hl : lv_has ls 4 [(0, .ref h0), (1, .int a1)] := hl
  unfold F_X12_forget at hw
  refine lv_aload_n hx hb dX12_forget_0 rfl (lv_at hl 0 rfl) ?_
  refine lv_dup hx hb dX12_forget_1 rfl ?_
  refine w_getI hF hH fk_X12_292 dX12_forget_2 hw (fun z1 hw => ?_)
  refine lv_iconst (v := 1) hx hb dX12_forget_5 (by decide) ?_
  refine lv_isub hx hb dX12_forget_6 ?_
  refine w_nmi hw (fun z2 hw => ?_)
  refine w_putI hF hH fk_X12_292 dX12_forget_7 rfl rfl rfl hw (fun σ3 H locs hw hH => ?_)
  refine lv_iload_n hx hb dX12_forget_10 rfl (lv_at hl 1 rfl) ?_
  refine lv_istore_n (lv' := [(2, .int a1), (0, .ref h0), (1, .int a1)]) hx hb dX12_forget_11 rfl hl (by decide) rfl (fun ls hl => ?_)
  have hl : lv_has ls 4 [(2, .int a1), (0, .ref h0)] := lv_sub hl [0, 1] rfl
  refine w_loop (β := Int32) (fun x4 => [(2, .int x4), (0, .ref h0)]) a1 hl hw hH (fun K6 x4 σ5 ls H locs hl hw hH ih7 => ?_)
  have hl : lv_has ls 4 [(2, .int x4), (0, .ref h0)] := hl
  refine lv_iload_n hx hb dX12_forget_12 rfl (lv_at hl 0 rfl) ?_
  refine lv_aload_n hx hb dX12_forget_13 rfl (lv_at hl 1 rfl) ?_
  refine w_getI hF hH fk_X12_292 dX12_forget_14 hw (fun z8 hw => ?_)
  refine w_icmp_ge (tgt := 266) hF dX12_forget_17 rfl hw (fun hw => ?_) (fun hw => ?_)
  · exact w_retv hF hH hr hlk dX12_forget_266 hw
  · refine lv_aload_n hx hb dX12_forget_20 rfl (lv_at hl 1 rfl) ?_
    refine w_getA 61 hF hH fk_X12_199 dX12_forget_21 (by decide) rfl ?_
    refine lv_iload_n hx hb dX12_forget_24 rfl (lv_at hl 0 rfl) ?_
    refine lv_aload_n hx hb dX12_forget_25 rfl (lv_at hl 1 rfl) ?_
    refine w_getA 61 hF hH fk_X12_199 dX12_forget_26 (by decide) rfl ?_
    refine lv_iload_n hx hb dX12_forget_29 rfl (lv_at hl 0 rfl) ?_
    refine lv_iconst (v := 1) hx hb dX12_forget_30 (by decide) ?_
    refine lv_iadd hx hb dX12_forget_31 ?_
    refine w_nmi hw (fun z9 hw => ?_)
    refine w_iald 61 16 hF hH dX12_forget_32 (by decide) rfl rfl hw (fun z10 hw => ?_)
    refine w_iast 61 16 hF hH dX12_forget_33 (by decide) rfl rfl hw (fun σ11 H locs hw hH => ?_)
    refine lv_aload_n hx hb dX12_forget_34 rfl (lv_at hl 1 rfl) ?_
    refine w_getA 62 hF hH fk_X12_202 dX12_forget_35 (by decide) rfl ?_
    refine lv_iload_n hx hb dX12_forget_38 rfl (lv_at hl 0 rfl) ?_
    refine lv_aload_n hx hb dX12_forget_39 rfl (lv_at hl 1 rfl) ?_
    refine w_getA 62 hF hH fk_X12_202 dX12_forget_40 (by decide) rfl ?_
    refine lv_iload_n hx hb dX12_forget_43 rfl (lv_at hl 0 rfl) ?_
    refine lv_iconst (v := 1) hx hb dX12_forget_44 (by decide) ?_
    refine lv_iadd hx hb dX12_forget_45 ?_
    refine w_nmi hw (fun z12 hw => ?_)
    refine w_iald 62 16 hF hH dX12_forget_46 (by decide) rfl rfl hw (fun z13 hw => ?_)
    refine w_iast 62 16 hF hH dX12_forget_47 (by decide) rfl rfl hw (fun σ14 H locs hw hH => ?_)
    refine lv_aload_n hx hb dX12_forget_48 rfl (lv_at hl 1 rfl) ?_
    refine w_getA 63 hF hH fk_X12_205 dX12_forget_49 (by decide) rfl ?_
    refine lv_iload_n hx hb dX12_forget_52 rfl (lv_at hl 0 rfl) ?_
    refine lv_aload_n hx hb dX12_forget_53 rfl (lv_at hl 1 rfl) ?_
    refine w_getA 63 hF hH fk_X12_205 dX12_forget_54 (by decide) rfl ?_
    refine lv_iload_n hx hb dX12_forget_57 rfl (lv_at hl 0 rfl) ?_
    refine lv_iconst (v := 1) hx hb dX12_forget_58 (by decide) ?_
    refine lv_iadd hx hb dX12_forget_59 ?_
    refine w_nmi hw (fun z15 hw => ?_)
    refine w_iald 63 16 hF hH dX12_forget_60 (by decide) rfl rfl hw (fun z16 hw => ?_)
    refine w_iast 63 16 hF hH dX12_forget_61 (by decide) rfl rfl hw (fun σ17 H locs hw hH => ?_)
    refine lv_aload_n hx hb dX12_forget_62 rfl (lv_at hl 1 rfl) ?_
    refine w_getA 64 hF hH fk_X12_208 dX12_forget_63 (by decide) rfl ?_
    refine lv_iload_n hx hb dX12_forget_66 rfl (lv_at hl 0 rfl) ?_
    refine lv_aload_n hx hb dX12_forget_67 rfl (lv_at hl 1 rfl) ?_
    refine w_getA 64 hF hH fk_X12_208 dX12_forget_68 (by decide) rfl ?_
    refine lv_iload_n hx hb dX12_forget_71 rfl (lv_at hl 0 rfl) ?_
    refine lv_iconst (v := 1) hx hb dX12_forget_72 (by decide) ?_
    refine lv_iadd hx hb dX12_forget_73 ?_
    refine w_nmi hw (fun z18 hw => ?_)
    refine w_zald 64 16 hF hH dX12_forget_74 (by decide) rfl rfl hw (fun z19 hw => ?_)
    refine w_zast 64 16 hF hH dX12_forget_75 (by decide) rfl rfl hw (fun σ20 H locs hw hH => ?_)
    refine lv_aload_n hx hb dX12_forget_76 rfl (lv_at hl 1 rfl) ?_
    refine w_getA 65 hF hH fk_X12_211 dX12_forget_77 (by decide) rfl ?_
    refine lv_iload_n hx hb dX12_forget_80 rfl (lv_at hl 0 rfl) ?_
    refine lv_aload_n hx hb dX12_forget_81 rfl (lv_at hl 1 rfl) ?_
    refine w_getA 65 hF hH fk_X12_211 dX12_forget_82 (by decide) rfl ?_
    refine lv_iload_n hx hb dX12_forget_85 rfl (lv_at hl 0 rfl) ?_
    refine lv_iconst (v := 1) hx hb dX12_forget_86 (by decide) ?_
    refine lv_iadd hx hb dX12_forget_87 ?_
    refine w_nmi hw (fun z21 hw => ?_)
    refine w_lald 65 16 hF hH dX12_forget_88 (by decide) rfl rfl hw (fun z22 hw => ?_)
    refine w_last 65 16 hF hH dX12_forget_89 (by decide) rfl rfl hw (fun σ23 H locs hw hH => ?_)
    refine lv_aload_n hx hb dX12_forget_90 rfl (lv_at hl 1 rfl) ?_
    refine w_getA 66 hF hH fk_X12_214 dX12_forget_91 (by decide) rfl ?_
    refine lv_iload_n hx hb dX12_forget_94 rfl (lv_at hl 0 rfl) ?_
    refine lv_aload_n hx hb dX12_forget_95 rfl (lv_at hl 1 rfl) ?_
    refine w_getA 66 hF hH fk_X12_214 dX12_forget_96 (by decide) rfl ?_
    refine lv_iload_n hx hb dX12_forget_99 rfl (lv_at hl 0 rfl) ?_
    refine lv_iconst (v := 1) hx hb dX12_forget_100 (by decide) ?_
    refine lv_iadd hx hb dX12_forget_101 ?_
    refine w_nmi hw (fun z24 hw => ?_)
    refine w_lald 66 16 hF hH dX12_forget_102 (by decide) rfl rfl hw (fun z25 hw => ?_)
    refine w_last 66 16 hF hH dX12_forget_103 (by decide) rfl rfl hw (fun σ26 H locs hw hH => ?_)
    refine lv_aload_n hx hb dX12_forget_104 rfl (lv_at hl 1 rfl) ?_
    refine w_getA 67 hF hH fk_X12_217 dX12_forget_105 (by decide) rfl ?_
    refine lv_iload_n hx hb dX12_forget_108 rfl (lv_at hl 0 rfl) ?_
    refine lv_aload_n hx hb dX12_forget_109 rfl (lv_at hl 1 rfl) ?_
    refine w_getA 67 hF hH fk_X12_217 dX12_forget_110 (by decide) rfl ?_
    refine lv_iload_n hx hb dX12_forget_113 rfl (lv_at hl 0 rfl) ?_
    refine lv_iconst (v := 1) hx hb dX12_forget_114 (by decide) ?_
    refine lv_iadd hx hb dX12_forget_115 ?_
    refine w_nmi hw (fun z27 hw => ?_)
    refine w_iald 67 16 hF hH dX12_forget_116 (by decide) rfl rfl hw (fun z28 hw => ?_)
    refine w_iast 67 16 hF hH dX12_forget_117 (by decide) rfl rfl hw (fun σ29 H locs hw hH => ?_)
    refine lv_aload_n hx hb dX12_forget_118 rfl (lv_at hl 1 rfl) ?_
    refine w_getA 68 hF hH fk_X12_220 dX12_forget_119 (by decide) rfl ?_
    refine lv_iload_n hx hb dX12_forget_122 rfl (lv_at hl 0 rfl) ?_
    refine lv_aload_n hx hb dX12_forget_123 rfl (lv_at hl 1 rfl) ?_
    refine w_getA 68 hF hH fk_X12_220 dX12_forget_124 (by decide) rfl ?_
    refine lv_iload_n hx hb dX12_forget_127 rfl (lv_at hl 0 rfl) ?_
    refine lv_iconst (v := 1) hx hb dX12_forget_128 (by decide) ?_
    refine lv_iadd hx hb dX12_forget_129 ?_
    refine w_nmi hw (fun z30 hw => ?_)
    refine w_iald 68 16 hF hH dX12_forget_130 (by decide) rfl rfl hw (fun z31 hw => ?_)
    refine w_iast 68 16 hF hH dX12_forget_131 (by decide) rfl rfl hw (fun σ32 H locs hw hH => ?_)
    refine lv_aload_n hx hb dX12_forget_132 rfl (lv_at hl 1 rfl) ?_
    refine w_getA 69 hF hH fk_X12_223 dX12_forget_133 (by decide) rfl ?_
    refine lv_iload_n hx hb dX12_forget_136 rfl (lv_at hl 0 rfl) ?_
    refine lv_aload_n hx hb dX12_forget_137 rfl (lv_at hl 1 rfl) ?_
    refine w_getA 69 hF hH fk_X12_223 dX12_forget_138 (by decide) rfl ?_
    refine lv_iload_n hx hb dX12_forget_141 rfl (lv_at hl 0 rfl) ?_
    refine lv_iconst (v := 1) hx hb dX12_forget_142 (by decide) ?_
    refine lv_iadd hx hb dX12_forget_143 ?_
    refine w_nmi hw (fun z33 hw => ?_)
    refine w_lald 69 16 hF hH dX12_forget_144 (by decide) rfl rfl hw (fun z34 hw => ?_)
    refine w_last 69 16 hF hH dX12_forget_145 (by decide) rfl rfl hw (fun σ35 H locs hw hH => ?_)
    refine lv_aload_n hx hb dX12_forget_146 rfl (lv_at hl 1 rfl) ?_
    refine w_getA 70 hF hH fk_X12_226 dX12_forget_147 (by decide) rfl ?_
    refine lv_iload_n hx hb dX12_forget_150 rfl (lv_at hl 0 rfl) ?_
    refine lv_aload_n hx hb dX12_forget_151 rfl (lv_at hl 1 rfl) ?_
    refine w_getA 70 hF hH fk_X12_226 dX12_forget_152 (by decide) rfl ?_
    refine lv_iload_n hx hb dX12_forget_155 rfl (lv_at hl 0 rfl) ?_
    refine lv_iconst (v := 1) hx hb dX12_forget_156 (by decide) ?_
    refine lv_iadd hx hb dX12_forget_157 ?_
    refine w_nmi hw (fun z36 hw => ?_)
    refine w_iald 70 16 hF hH dX12_forget_158 (by decide) rfl rfl hw (fun z37 hw => ?_)
    refine w_iast 70 16 hF hH dX12_forget_159 (by decide) rfl rfl hw (fun σ38 H locs hw hH => ?_)
    refine lv_aload_n hx hb dX12_forget_160 rfl (lv_at hl 1 rfl) ?_
    refine w_getA 71 hF hH fk_X12_229 dX12_forget_161 (by decide) rfl ?_
    refine lv_iload_n hx hb dX12_forget_164 rfl (lv_at hl 0 rfl) ?_
    refine lv_aload_n hx hb dX12_forget_165 rfl (lv_at hl 1 rfl) ?_
    refine w_getA 71 hF hH fk_X12_229 dX12_forget_166 (by decide) rfl ?_
    refine lv_iload_n hx hb dX12_forget_169 rfl (lv_at hl 0 rfl) ?_
    refine lv_iconst (v := 1) hx hb dX12_forget_170 (by decide) ?_
    refine lv_iadd hx hb dX12_forget_171 ?_
    refine w_nmi hw (fun z39 hw => ?_)
    refine w_lald 71 16 hF hH dX12_forget_172 (by decide) rfl rfl hw (fun z40 hw => ?_)
    refine w_last 71 16 hF hH dX12_forget_173 (by decide) rfl rfl hw (fun σ41 H locs hw hH => ?_)
    refine lv_aload_n hx hb dX12_forget_174 rfl (lv_at hl 1 rfl) ?_
    refine w_getA 72 hF hH fk_X12_232 dX12_forget_175 (by decide) rfl ?_
    refine lv_iload_n hx hb dX12_forget_178 rfl (lv_at hl 0 rfl) ?_
    refine lv_aload_n hx hb dX12_forget_179 rfl (lv_at hl 1 rfl) ?_
    refine w_getA 72 hF hH fk_X12_232 dX12_forget_180 (by decide) rfl ?_
    refine lv_iload_n hx hb dX12_forget_183 rfl (lv_at hl 0 rfl) ?_
    refine lv_iconst (v := 1) hx hb dX12_forget_184 (by decide) ?_
    refine lv_iadd hx hb dX12_forget_185 ?_
    refine w_nmi hw (fun z42 hw => ?_)
    refine w_lald 72 16 hF hH dX12_forget_186 (by decide) rfl rfl hw (fun z43 hw => ?_)
    refine w_last 72 16 hF hH dX12_forget_187 (by decide) rfl rfl hw (fun σ44 H locs hw hH => ?_)
    refine lv_aload_n hx hb dX12_forget_188 rfl (lv_at hl 1 rfl) ?_
    refine w_getA 73 hF hH fk_X12_235 dX12_forget_189 (by decide) rfl ?_
    refine lv_iload_n hx hb dX12_forget_192 rfl (lv_at hl 0 rfl) ?_
    refine lv_aload_n hx hb dX12_forget_193 rfl (lv_at hl 1 rfl) ?_
    refine w_getA 73 hF hH fk_X12_235 dX12_forget_194 (by decide) rfl ?_
    refine lv_iload_n hx hb dX12_forget_197 rfl (lv_at hl 0 rfl) ?_
    refine lv_iconst (v := 1) hx hb dX12_forget_198 (by decide) ?_
    refine lv_iadd hx hb dX12_forget_199 ?_
    refine w_nmi hw (fun z45 hw => ?_)
    refine w_zald 73 16 hF hH dX12_forget_200 (by decide) rfl rfl hw (fun z46 hw => ?_)
    refine w_zast 73 16 hF hH dX12_forget_201 (by decide) rfl rfl hw (fun σ47 H locs hw hH => ?_)
    refine lv_aload_n hx hb dX12_forget_202 rfl (lv_at hl 1 rfl) ?_
    refine w_getA 74 hF hH fk_X12_238 dX12_forget_203 (by decide) rfl ?_
    refine lv_iload_n hx hb dX12_forget_206 rfl (lv_at hl 0 rfl) ?_
    refine lv_aload_n hx hb dX12_forget_207 rfl (lv_at hl 1 rfl) ?_
    refine w_getA 74 hF hH fk_X12_238 dX12_forget_208 (by decide) rfl ?_
    refine lv_iload_n hx hb dX12_forget_211 rfl (lv_at hl 0 rfl) ?_
    refine lv_iconst (v := 1) hx hb dX12_forget_212 (by decide) ?_
    refine lv_iadd hx hb dX12_forget_213 ?_
    refine w_nmi hw (fun z48 hw => ?_)
    refine w_iald 74 16 hF hH dX12_forget_214 (by decide) rfl rfl hw (fun z49 hw => ?_)
    refine w_iast 74 16 hF hH dX12_forget_215 (by decide) rfl rfl hw (fun σ50 H locs hw hH => ?_)
    refine lv_iconst (v := 0) hx hb dX12_forget_216 (by decide) ?_
    refine lv_istore_n (lv' := [(3, .int 0), (2, .int x4), (0, .ref h0)]) hx hb dX12_forget_217 rfl hl (by decide) rfl (fun ls hl => ?_)
    refine w_loop (β := Int32) (fun x51 => [(3, .int x51), (2, .int x4), (0, .ref h0)]) 0 hl hw hH (fun K53 x51 σ52 ls H locs hl hw hH ih54 => ?_)
    have hl : lv_has ls 4 [(3, .int x51), (2, .int x4), (0, .ref h0)] := hl
    refine lv_iload_n hx hb dX12_forget_218 rfl (lv_at hl 0 rfl) ?_
    refine lv_aload_n hx hb dX12_forget_219 rfl (lv_at hl 2 rfl) ?_
    refine w_getA 74 hF hH fk_X12_238 dX12_forget_220 (by decide) rfl ?_
    refine lv_iload_n hx hb dX12_forget_223 rfl (lv_at hl 1 rfl) ?_
    refine w_iald 74 16 hF hH dX12_forget_224 (by decide) rfl rfl hw (fun z55 hw => ?_)
    refine w_icmp_ge (tgt := 260) hF dX12_forget_225 rfl hw (fun hw => ?_) (fun hw => ?_)
    · obtain ⟨z56, ez56⟩ : ∃ z : Int32, z = x4 + 1 := ⟨_, rfl⟩
      have hw := hw z56 ez56
      refine lv_iinc (lv' := [(2, .int z56), (3, .int x51), (0, .ref h0)]) (k := 1) (v := z56) hx hb dX12_forget_260 hl rfl ez56.symm (by decide) rfl (fun ls hl => ?_)
      refine lv_goto (tgt := 12) hx hb dX12_forget_263 rfl ?_
      have hl : lv_has ls 4 [(2, .int z56), (0, .ref h0)] := lv_sub hl [0, 2] rfl
      exact ih7 z56 σ52 ls _ _ hl hw hH
    · refine lv_aload_n hx hb dX12_forget_228 rfl (lv_at hl 2 rfl) ?_
      refine w_getA 75 hF hH fk_X12_242 dX12_forget_229 (by decide) rfl ?_
      refine lv_sipush (v := 4000) hx hb dX12_forget_232 (by decide) ?_
      refine lv_iload_n hx hb dX12_forget_235 rfl (lv_at hl 1 rfl) ?_
      refine lv_imul hx hb dX12_forget_236 ?_
      refine w_nmi hw (fun z57 hw => ?_)
      refine lv_iload_n hx hb dX12_forget_237 rfl (lv_at hl 0 rfl) ?_
      refine lv_iadd hx hb dX12_forget_238 ?_
      refine w_nmi hw (fun z58 hw => ?_)
      refine lv_aload_n hx hb dX12_forget_239 rfl (lv_at hl 2 rfl) ?_
      refine w_getA 75 hF hH fk_X12_242 dX12_forget_240 (by decide) rfl ?_
      refine lv_sipush (v := 4000) hx hb dX12_forget_243 (by decide) ?_
      refine lv_iload_n hx hb dX12_forget_246 rfl (lv_at hl 1 rfl) ?_
      refine lv_iconst (v := 1) hx hb dX12_forget_247 (by decide) ?_
      refine lv_iadd hx hb dX12_forget_248 ?_
      refine w_nmi hw (fun z59 hw => ?_)
      refine lv_imul hx hb dX12_forget_249 ?_
      refine w_nmi hw (fun z60 hw => ?_)
      refine lv_iload_n hx hb dX12_forget_250 rfl (lv_at hl 0 rfl) ?_
      refine lv_iadd hx hb dX12_forget_251 ?_
      refine w_nmi hw (fun z61 hw => ?_)
      refine w_bald 75 64000 hF hH dX12_forget_252 (by decide) rfl rfl hw (fun z62 hw => ?_)
      refine w_bast 75 64000 hF hH dX12_forget_253 (by decide) rfl rfl hw (fun σ63 H locs hw hH => ?_)
      obtain ⟨z64, ez64⟩ : ∃ z : Int32, z = x51 + 1 := ⟨_, rfl⟩
      have hw := hw z64 ez64
      refine lv_iinc (lv' := [(3, .int z64), (2, .int x4), (0, .ref h0)]) (k := 0) (v := z64) hx hb dX12_forget_254 hl rfl ez64.symm (by decide) rfl (fun ls hl => ?_)
      refine lv_goto (tgt := 218) hx hb dX12_forget_257 rfl ?_
      exact ih54 z64 σ63 ls _ _ hl hw hH
def F_X12_eldestSession (h0 : Nat) (L : Nat → Nat) (a1 : Int32) (post : Int32 → HS → Prop) (σ : HS) : Prop := lw (fun (K3 : (Int32 × Int32) → HS → Prop) (x1 : Int32 × Int32) (σ2 : HS) => (((8 : Int32).toInt ≤ x1.1.toInt) → post x1.2 σ2) ∧ ((x1.1.toInt < (8 : Int32).toInt) → (0 ≤ x1.1.toInt ∧ x1.1.toInt < 8) ∧ ∀ z5 : Int64, z5 = sJ σ2 (L 34) x1.1.toInt.toNat → jn (fun (K8 : Int32 → HS → Prop) => jn (fun (K31 : Unit → HS → Prop) => ((z5.toInt ≤ (0 : Int64).toInt) → K31 () σ2) ∧ (((0 : Int64).toInt < z5.toInt) → (0 ≤ x1.1.toInt ∧ x1.1.toInt < 8) ∧ ∀ z34 : Int32, z34 = sI σ2 (L 35) x1.1.toInt.toNat → ((¬ z34.toInt = a1.toInt) → K31 () σ2) ∧ ((z34.toInt = a1.toInt) → K8 1 σ2))) (fun (x29 : Unit) (σ30 : HS) => K8 0 σ30)) (fun (x6 : Int32) (σ7 : HS) => jn (fun (K13 : Int32 → HS → Prop) => jn (fun (K19 : Unit → HS → Prop) => ((x6.toInt = 0) → K19 () σ7) ∧ ((¬ x6.toInt = 0) → jn (fun (K24 : Unit → HS → Prop) => ((x1.2.toInt < 0) → K24 () σ7) ∧ ((0 ≤ x1.2.toInt) → (0 ≤ x1.1.toInt ∧ x1.1.toInt < 8) ∧ ∀ z27 : Int64, z27 = sJ σ7 (L 34) x1.1.toInt.toNat → (0 ≤ x1.2.toInt ∧ x1.2.toInt < 8) ∧ ∀ z28 : Int64, z28 = sJ σ7 (L 34) x1.2.toInt.toNat → ((z28.toInt ≤ z27.toInt) → K19 () σ7) ∧ ((z27.toInt < z28.toInt) → K24 () σ7))) (fun (x22 : Unit) (σ23 : HS) => K13 x1.1 σ23))) (fun (x17 : Unit) (σ18 : HS) => K13 x1.2 σ18)) (fun (x11 : Int32) (σ12 : HS) => ∀ z16 : Int32, z16 = x1.1 + 1 → K3 (z16, x11) σ12)))) (0, (-1)) σ
theorem dX12_eldestSession_0 : decode cX12_eldestSession 0 = .ok (.iconst (-1), 1) := by decide +kernel
theorem dX12_eldestSession_1 : decode cX12_eldestSession 1 = .ok (.istore_n 2, 1) := by decide +kernel
theorem dX12_eldestSession_2 : decode cX12_eldestSession 2 = .ok (.iconst 0, 1) := by decide +kernel
theorem dX12_eldestSession_3 : decode cX12_eldestSession 3 = .ok (.istore_n 3, 1) := by decide +kernel
theorem dX12_eldestSession_4 : decode cX12_eldestSession 4 = .ok (.iload_n 3, 1) := by decide +kernel
theorem dX12_eldestSession_5 : decode cX12_eldestSession 5 = .ok (.bipush 8, 2) := by decide +kernel
theorem dX12_eldestSession_7 : decode cX12_eldestSession 7 = .ok (.if_icmp .ge 68, 3) := by decide +kernel
theorem dX12_eldestSession_10 : decode cX12_eldestSession 10 = .ok (.aload_n 0, 1) := by decide +kernel
theorem dX12_eldestSession_11 : decode cX12_eldestSession 11 = .ok (.getfield 118, 3) := by decide +kernel
theorem dX12_eldestSession_14 : decode cX12_eldestSession 14 = .ok (.iload_n 3, 1) := by decide +kernel
theorem dX12_eldestSession_15 : decode cX12_eldestSession 15 = .ok (.laload, 1) := by decide +kernel
theorem dX12_eldestSession_16 : decode cX12_eldestSession 16 = .ok (.lconst 0, 1) := by decide +kernel
theorem dX12_eldestSession_17 : decode cX12_eldestSession 17 = .ok (.lcmp, 1) := by decide +kernel
theorem dX12_eldestSession_18 : decode cX12_eldestSession 18 = .ok (.ifCond .le 17, 3) := by decide +kernel
theorem dX12_eldestSession_21 : decode cX12_eldestSession 21 = .ok (.aload_n 0, 1) := by decide +kernel
theorem dX12_eldestSession_22 : decode cX12_eldestSession 22 = .ok (.getfield 121, 3) := by decide +kernel
theorem dX12_eldestSession_25 : decode cX12_eldestSession 25 = .ok (.iload_n 3, 1) := by decide +kernel
theorem dX12_eldestSession_26 : decode cX12_eldestSession 26 = .ok (.iaload, 1) := by decide +kernel
theorem dX12_eldestSession_27 : decode cX12_eldestSession 27 = .ok (.iload_n 1, 1) := by decide +kernel
theorem dX12_eldestSession_28 : decode cX12_eldestSession 28 = .ok (.if_icmp .ne 7, 3) := by decide +kernel
theorem dX12_eldestSession_31 : decode cX12_eldestSession 31 = .ok (.iconst 1, 1) := by decide +kernel
theorem dX12_eldestSession_32 : decode cX12_eldestSession 32 = .ok (.goto 4, 3) := by decide +kernel
theorem dX12_eldestSession_35 : decode cX12_eldestSession 35 = .ok (.iconst 0, 1) := by decide +kernel
theorem dX12_eldestSession_36 : decode cX12_eldestSession 36 = .ok (.istore 4, 2) := by decide +kernel
theorem dX12_eldestSession_38 : decode cX12_eldestSession 38 = .ok (.iload 4, 2) := by decide +kernel
theorem dX12_eldestSession_40 : decode cX12_eldestSession 40 = .ok (.ifCond .eq 27, 3) := by decide +kernel
theorem dX12_eldestSession_43 : decode cX12_eldestSession 43 = .ok (.iload_n 2, 1) := by decide +kernel
theorem dX12_eldestSession_44 : decode cX12_eldestSession 44 = .ok (.ifCond .lt 19, 3) := by decide +kernel
theorem dX12_eldestSession_47 : decode cX12_eldestSession 47 = .ok (.aload_n 0, 1) := by decide +kernel
theorem dX12_eldestSession_48 : decode cX12_eldestSession 48 = .ok (.getfield 118, 3) := by decide +kernel
theorem dX12_eldestSession_51 : decode cX12_eldestSession 51 = .ok (.iload_n 3, 1) := by decide +kernel
theorem dX12_eldestSession_52 : decode cX12_eldestSession 52 = .ok (.laload, 1) := by decide +kernel
theorem dX12_eldestSession_53 : decode cX12_eldestSession 53 = .ok (.aload_n 0, 1) := by decide +kernel
theorem dX12_eldestSession_54 : decode cX12_eldestSession 54 = .ok (.getfield 118, 3) := by decide +kernel
theorem dX12_eldestSession_57 : decode cX12_eldestSession 57 = .ok (.iload_n 2, 1) := by decide +kernel
theorem dX12_eldestSession_58 : decode cX12_eldestSession 58 = .ok (.laload, 1) := by decide +kernel
theorem dX12_eldestSession_59 : decode cX12_eldestSession 59 = .ok (.lcmp, 1) := by decide +kernel
theorem dX12_eldestSession_60 : decode cX12_eldestSession 60 = .ok (.ifCond .ge 7, 3) := by decide +kernel
theorem dX12_eldestSession_63 : decode cX12_eldestSession 63 = .ok (.iload_n 3, 1) := by decide +kernel
theorem dX12_eldestSession_64 : decode cX12_eldestSession 64 = .ok (.goto 4, 3) := by decide +kernel
theorem dX12_eldestSession_67 : decode cX12_eldestSession 67 = .ok (.iload_n 2, 1) := by decide +kernel
theorem dX12_eldestSession_68 : decode cX12_eldestSession 68 = .ok (.istore_n 2, 1) := by decide +kernel
theorem dX12_eldestSession_69 : decode cX12_eldestSession 69 = .ok (.iinc 3 1, 3) := by decide +kernel
theorem dX12_eldestSession_72 : decode cX12_eldestSession 72 = .ok (.goto (-68), 3) := by decide +kernel
theorem dX12_eldestSession_75 : decode cX12_eldestSession 75 = .ok (.iload_n 2, 1) := by decide +kernel
theorem dX12_eldestSession_76 : decode cX12_eldestSession 76 = .ok (.ireturn, 1) := by decide +kernel
set_option maxRecDepth 100000 in
set_option maxHeartbeats 4000000 in
theorem c_X12_eldestSession (l : Launch) (D : va_G) (t : Nat → ClassId) (h0 : Nat) (L : Nat → Nat) (σ : HS) (hM : MdI h0 L σ) (a1 : Int32) (post : Int32 → HS → Prop) (hw : F_X12_eldestSession h0 L a1 post σ) (sz : Nat) : RMi l D t yX12_eldestSession cX12_eldestSession 5 (some .int) ({ frames := 0, cells := 0, slots := 0, locals := 0 }) h0 L σ sz [.ref h0, .int a1] post := by
  refine h_go (τ := τT) okT (by decide) (Nat.le_of_ble_eq_true rfl) ?_
  intro p e s m below meth c ls A hF hr hlk hAe hH0 hA hl
  unfold hB
  rw [hAe]
  clear hAe
  have hF : FX p m c cX12_eldestSession 5 s _ RX12 D t := hF
  have hx := hF.1.1
  have hb := hF.1.2.1
  have hH : RT D t A s.heap h0 L σ s.heap [] := ⟨hH0, hM⟩
  have hl : lv_has ls 5 [(0, .ref h0), (1, .int a1)] := hl
  unfold F_X12_eldestSession at hw
  refine lv_iconst (v := (-1)) hx hb dX12_eldestSession_0 (by decide) ?_
  refine lv_istore_n (lv' := [(2, .int (-1)), (0, .ref h0), (1, .int a1)]) hx hb dX12_eldestSession_1 rfl hl (by decide) rfl (fun ls hl => ?_)
  refine lv_iconst (v := 0) hx hb dX12_eldestSession_2 (by decide) ?_
  refine lv_istore_n (lv' := [(3, .int 0), (2, .int (-1)), (0, .ref h0), (1, .int a1)]) hx hb dX12_eldestSession_3 rfl hl (by decide) rfl (fun ls hl => ?_)
  have hl : lv_has ls 5 [(3, .int 0), (2, .int (-1)), (1, .int a1), (0, .ref h0)] := lv_sub hl [0, 1, 3, 2] rfl
  refine w_loop (β := Int32 × Int32) (fun x1 => [(3, .int x1.1), (2, .int x1.2), (1, .int a1), (0, .ref h0)]) (0, (-1)) hl hw hH (fun K3 x1 σ2 ls H locs hl hw hH ih4 => ?_)
  have hl : lv_has ls 5 [(3, .int x1.1), (2, .int x1.2), (1, .int a1), (0, .ref h0)] := hl
  refine lv_iload_n hx hb dX12_eldestSession_4 rfl (lv_at hl 0 rfl) ?_
  refine lv_bipush (v := 8) hx hb dX12_eldestSession_5 (by decide) ?_
  refine w_icmp_ge (tgt := 75) hF dX12_eldestSession_7 rfl hw (fun hw => ?_) (fun hw => ?_)
  · refine lv_iload_n hx hb dX12_eldestSession_75 rfl (lv_at hl 1 rfl) ?_
    exact w_reti hF hH hr hlk rfl dX12_eldestSession_76 hw
  · refine lv_aload_n hx hb dX12_eldestSession_10 rfl (lv_at hl 3 rfl) ?_
    refine w_getA 34 hF hH fk_X12_118 dX12_eldestSession_11 (by decide) rfl ?_
    refine lv_iload_n hx hb dX12_eldestSession_14 rfl (lv_at hl 0 rfl) ?_
    refine w_lald 34 8 hF hH dX12_eldestSession_15 (by decide) rfl rfl hw (fun z5 hw => ?_)
    refine lv_lconst (v := 0) hx hb dX12_eldestSession_16 (by decide) ?_
    obtain ⟨K8, hK9, hw⟩ := jn_open hw
    refine w_join (K := K8) 36 (fun (x6 : Int32) => [(3, .int x1.1), (2, .int x1.2), (1, .int a1), (0, .ref h0)]) (fun (x6 : Int32) => [.int x6]) hl hH (fun x6 σ7 ls H locs hl hw hH => ?_) (fun jn10 => ?_)
    · have hw := hK9 x6 σ7 hw
      have hl : lv_has ls 5 [(3, .int x1.1), (2, .int x1.2), (1, .int a1), (0, .ref h0)] := hl
      refine lv_istore (lv' := [(4, .int x6), (3, .int x1.1), (2, .int x1.2), (1, .int a1), (0, .ref h0)]) hx hb dX12_eldestSession_36 hl (by decide) rfl (fun ls hl => ?_)
      refine lv_iload hx hb dX12_eldestSession_38 (lv_at hl 0 rfl) ?_
      obtain ⟨K13, hK14, hw⟩ := jn_open hw
      refine w_join (K := K13) 68 (fun (x11 : Int32) => [(3, .int x1.1), (1, .int a1), (0, .ref h0)]) (fun (x11 : Int32) => [.int x11]) hl hH (fun x11 σ12 ls H locs hl hw hH => ?_) (fun jn15 => ?_)
      · have hw := hK14 x11 σ12 hw
        have hl : lv_has ls 5 [(3, .int x1.1), (1, .int a1), (0, .ref h0)] := hl
        refine lv_istore_n (lv' := [(2, .int x11), (3, .int x1.1), (1, .int a1), (0, .ref h0)]) hx hb dX12_eldestSession_68 rfl hl (by decide) rfl (fun ls hl => ?_)
        obtain ⟨z16, ez16⟩ : ∃ z : Int32, z = x1.1 + 1 := ⟨_, rfl⟩
        have hw := hw z16 ez16
        refine lv_iinc (lv' := [(3, .int z16), (2, .int x11), (1, .int a1), (0, .ref h0)]) (k := 1) (v := z16) hx hb dX12_eldestSession_69 hl rfl ez16.symm (by decide) rfl (fun ls hl => ?_)
        refine lv_goto (tgt := 4) hx hb dX12_eldestSession_72 rfl ?_
        exact ih4 (z16, x11) σ12 ls _ _ hl hw hH
      · skip
        obtain ⟨K19, hK20, hw⟩ := jn_open hw
        refine w_join (K := K19) 67 (fun (x17 : Unit) => [(3, .int x1.1), (2, .int x1.2), (1, .int a1), (0, .ref h0)]) (fun (x17 : Unit) => []) hl hH (fun x17 σ18 ls H locs hl hw hH => ?_) (fun jn21 => ?_)
        · have hw := hK20 x17 σ18 hw
          have hl : lv_has ls 5 [(3, .int x1.1), (2, .int x1.2), (1, .int a1), (0, .ref h0)] := hl
          refine lv_iload_n hx hb dX12_eldestSession_67 rfl (lv_at hl 1 rfl) ?_
          have hl : lv_has ls 5 [(3, .int x1.1), (1, .int a1), (0, .ref h0)] := lv_sub hl [0, 2, 3] rfl
          exact jn15 x1.2 σ18 ls _ _ hl hw hH
        · skip
          refine w_if_eq (tgt := 67) hF dX12_eldestSession_40 rfl hw (fun hw => ?_) (fun hw => ?_)
          · have hl : lv_has ls 5 [(3, .int x1.1), (2, .int x1.2), (1, .int a1), (0, .ref h0)] := lv_sub hl [1, 2, 3, 4] rfl
            exact jn21 () σ7 ls _ _ hl hw hH
          · refine lv_iload_n hx hb dX12_eldestSession_43 rfl (lv_at hl 2 rfl) ?_
            obtain ⟨K24, hK25, hw⟩ := jn_open hw
            refine w_join (K := K24) 63 (fun (x22 : Unit) => [(3, .int x1.1), (1, .int a1), (0, .ref h0)]) (fun (x22 : Unit) => []) hl hH (fun x22 σ23 ls H locs hl hw hH => ?_) (fun jn26 => ?_)
            · have hw := hK25 x22 σ23 hw
              have hl : lv_has ls 5 [(3, .int x1.1), (1, .int a1), (0, .ref h0)] := hl
              refine lv_iload_n hx hb dX12_eldestSession_63 rfl (lv_at hl 0 rfl) ?_
              refine lv_goto (tgt := 68) hx hb dX12_eldestSession_64 rfl ?_
              exact jn15 x1.1 σ23 ls _ _ hl hw hH
            · skip
              refine w_if_lt (tgt := 63) hF dX12_eldestSession_44 rfl hw (fun hw => ?_) (fun hw => ?_)
              · have hl : lv_has ls 5 [(3, .int x1.1), (1, .int a1), (0, .ref h0)] := lv_sub hl [1, 3, 4] rfl
                exact jn26 () σ7 ls _ _ hl hw hH
              · refine lv_aload_n hx hb dX12_eldestSession_47 rfl (lv_at hl 4 rfl) ?_
                refine w_getA 34 hF hH fk_X12_118 dX12_eldestSession_48 (by decide) rfl ?_
                refine lv_iload_n hx hb dX12_eldestSession_51 rfl (lv_at hl 1 rfl) ?_
                refine w_lald 34 8 hF hH dX12_eldestSession_52 (by decide) rfl rfl hw (fun z27 hw => ?_)
                refine lv_aload_n hx hb dX12_eldestSession_53 rfl (lv_at hl 4 rfl) ?_
                refine w_getA 34 hF hH fk_X12_118 dX12_eldestSession_54 (by decide) rfl ?_
                refine lv_iload_n hx hb dX12_eldestSession_57 rfl (lv_at hl 2 rfl) ?_
                refine w_lald 34 8 hF hH dX12_eldestSession_58 (by decide) rfl rfl hw (fun z28 hw => ?_)
                refine w_lif_ge (tgt := 67) hF dX12_eldestSession_59 dX12_eldestSession_60 rfl hw (fun hw => ?_) (fun hw => ?_)
                · have hl : lv_has ls 5 [(3, .int x1.1), (2, .int x1.2), (1, .int a1), (0, .ref h0)] := lv_sub hl [1, 2, 3, 4] rfl
                  exact jn21 () σ7 ls _ _ hl hw hH
                · have hl : lv_has ls 5 [(3, .int x1.1), (1, .int a1), (0, .ref h0)] := lv_sub hl [1, 3, 4] rfl
                  exact jn26 () σ7 ls _ _ hl hw hH
    · skip
      obtain ⟨K31, hK32, hw⟩ := jn_open hw
      refine w_join (K := K31) 35 (fun (x29 : Unit) => [(3, .int x1.1), (2, .int x1.2), (1, .int a1), (0, .ref h0)]) (fun (x29 : Unit) => []) hl hH (fun x29 σ30 ls H locs hl hw hH => ?_) (fun jn33 => ?_)
      · have hw := hK32 x29 σ30 hw
        have hl : lv_has ls 5 [(3, .int x1.1), (2, .int x1.2), (1, .int a1), (0, .ref h0)] := hl
        refine lv_iconst (v := 0) hx hb dX12_eldestSession_35 (by decide) ?_
        exact jn10 0 σ30 ls _ _ hl hw hH
      · skip
        refine w_lif_le (tgt := 35) hF dX12_eldestSession_17 dX12_eldestSession_18 rfl hw (fun hw => ?_) (fun hw => ?_)
        · exact jn33 () σ2 ls _ _ hl hw hH
        · refine lv_aload_n hx hb dX12_eldestSession_21 rfl (lv_at hl 3 rfl) ?_
          refine w_getA 35 hF hH fk_X12_121 dX12_eldestSession_22 (by decide) rfl ?_
          refine lv_iload_n hx hb dX12_eldestSession_25 rfl (lv_at hl 0 rfl) ?_
          refine w_iald 35 8 hF hH dX12_eldestSession_26 (by decide) rfl rfl hw (fun z34 hw => ?_)
          refine lv_iload_n hx hb dX12_eldestSession_27 rfl (lv_at hl 2 rfl) ?_
          refine w_icmp_ne (tgt := 35) hF dX12_eldestSession_28 rfl hw (fun hw => ?_) (fun hw => ?_)
          · exact jn33 () σ2 ls _ _ hl hw hH
          · refine lv_iconst (v := 1) hx hb dX12_eldestSession_31 (by decide) ?_
            refine lv_goto (tgt := 36) hx hb dX12_eldestSession_32 rfl ?_
            exact jn10 1 σ2 ls _ _ hl hw hH

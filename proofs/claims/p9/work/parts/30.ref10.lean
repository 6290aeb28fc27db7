/-! the reference, lifted: 10 -/
def F_X12_findNext (h0 : Nat) (L : Nat → Nat) (a1 : Int32) (post : Int32 → HS → Prop) (σ : HS) : Prop := (0 ≤ a1.toInt ∧ a1.toInt < 40) ∧ ∀ z1 : Int32, z1 = sI σ (L 43) a1.toInt.toNat → (0 ≤ a1.toInt ∧ a1.toInt < 40) ∧ ∀ z2 : Int32, z2 = sI σ (L 53) a1.toInt.toNat → jn (fun (K5 : Unit → HS → Prop) => (((1 : Int32).toInt ≤ z2.toInt) → K5 () σ) ∧ ((z2.toInt < (1 : Int32).toInt) → F_X12_matches h0 L a1 z1 1 (fun (z77 : Int32) (σ76 : HS) => ((z77.toInt = 0) → K5 () σ76) ∧ ((¬ z77.toInt = 0) → ∀ σ78 : HS, σ78 = h_uI σ76 h0 118 1 → ∀ σ79 : HS, σ79 = h_uI σ78 h0 119 z1 → (0 ≤ (1 : Int32).toInt ∧ (1 : Int32).toInt ≤ 1) ∧ post 1 σ79)) σ)) (fun (x3 : Unit) (σ4 : HS) => (0 ≤ a1.toInt ∧ a1.toInt < 40) ∧ ∀ z8 : Int32, z8 = sI σ4 (L 53) a1.toInt.toNat → jn (fun (K11 : Unit → HS → Prop) => (((2 : Int32).toInt ≤ z8.toInt) → K11 () σ4) ∧ ((z8.toInt < (2 : Int32).toInt) → F_X12_matches h0 L a1 z1 2 (fun (z66 : Int32) (σ65 : HS) => ((z66.toInt = 0) → K11 () σ65) ∧ ((¬ z66.toInt = 0) → ∀ σ67 : HS, σ67 = h_uI σ65 h0 118 2 → (0 ≤ z1.toInt ∧ z1.toInt < 160) ∧ ∀ z68 : Int32, z68 = sI σ67 (L 2) z1.toInt.toNat → jn (fun (K71 : Int32 → HS → Prop) => ((0 ≤ z68.toInt) → (0 ≤ z1.toInt ∧ z1.toInt < 160) ∧ ∀ z75 : Int32, z75 = sI σ67 (L 2) z1.toInt.toNat → K71 z75 σ67) ∧ ((z68.toInt < 0) → K71 z1 σ67)) (fun (x69 : Int32) (σ70 : HS) => ∀ σ74 : HS, σ74 = h_uI σ70 h0 119 x69 → (0 ≤ (1 : Int32).toInt ∧ (1 : Int32).toInt ≤ 1) ∧ post 1 σ74))) σ4)) (fun (x9 : Unit) (σ10 : HS) => lw (fun (K16 : (Int32 × Int32) → HS → Prop) (x14 : Int32 × Int32) (σ15 : HS) => (((80 : Int32).toInt ≤ x14.1.toInt) → ∀ σ18 : HS, σ18 = h_uI σ15 h0 118 3 → ∀ σ19 : HS, σ19 = h_uI σ18 h0 119 x14.2 → jn (fun (K22 : Int32 → HS → Prop) => ((x14.2.toInt < 0) → K22 0 σ19) ∧ ((0 ≤ x14.2.toInt) → K22 1 σ19)) (fun (x20 : Int32) (σ21 : HS) => (0 ≤ x20.toInt ∧ x20.toInt ≤ 1) ∧ post x20 σ21)) ∧ ((x14.1.toInt < (80 : Int32).toInt) → (0 ≤ x14.1.toInt ∧ x14.1.toInt < 160) ∧ ∀ z25 : Int32, z25 = sI σ15 (L 1) x14.1.toInt.toNat → jn (fun (K28 : Int32 → HS → Prop) => jn (fun (K51 : Unit → HS → Prop) => ((z25.toInt = 0) → K51 () σ15) ∧ ((¬ z25.toInt = 0) → (0 ≤ x14.1.toInt ∧ x14.1.toInt < 160) ∧ ∀ z54 : Int32, z54 = sI σ15 (L 2) x14.1.toInt.toNat → ((¬ z54.toInt = z1.toInt) → K51 () σ15) ∧ ((z54.toInt = z1.toInt) → (0 ≤ a1.toInt ∧ a1.toInt < 40) ∧ ∀ z55 : Int32, z55 = sI σ15 (L 53) a1.toInt.toNat → jn (fun (K58 : Unit → HS → Prop) => ((z55.toInt < (3 : Int32).toInt) → K58 () σ15) ∧ (((3 : Int32).toInt ≤ z55.toInt) → F_X12_against h0 L x14.1 a1 (fun (z64 : Int32) (σ63 : HS) => ((z64.toInt ≤ 0) → K51 () σ63) ∧ ((0 < z64.toInt) → K58 () σ63)) σ15)) (fun (x56 : Unit) (σ57 : HS) => F_X12_matches h0 L a1 x14.1 0 (fun (z62 : Int32) (σ61 : HS) => ((z62.toInt = 0) → K51 () σ61) ∧ ((¬ z62.toInt = 0) → K28 1 σ61)) σ57)))) (fun (x49 : Unit) (σ50 : HS) => K28 0 σ50)) (fun (x26 : Int32) (σ27 : HS) => jn (fun (K33 : Int32 → HS → Prop) => jn (fun (K39 : Unit → HS → Prop) => ((x26.toInt = 0) → K39 () σ27) ∧ ((¬ x26.toInt = 0) → jn (fun (K44 : Unit → HS → Prop) => ((x14.2.toInt < 0) → K44 () σ27) ∧ ((0 ≤ x14.2.toInt) → F_X12_between h0 L x14.1 x14.2 (fun (z48 : Int32) (σ47 : HS) => ((0 ≤ z48.toInt) → K39 () σ47) ∧ ((z48.toInt < 0) → K44 () σ47)) σ27)) (fun (x42 : Unit) (σ43 : HS) => K33 x14.1 σ43))) (fun (x37 : Unit) (σ38 : HS) => K33 x14.2 σ38)) (fun (x31 : Int32) (σ32 : HS) => ∀ z36 : Int32, z36 = x14.1 + 1 → K16 (z36, x31) σ32)))) (0, (-1)) σ10))
theorem dX12_findNext_0 : decode cX12_findNext 0 = .ok (.aload_n 0, 1) := by decide +kernel
theorem dX12_findNext_1 : decode cX12_findNext 1 = .ok (.getfield 145, 3) := by decide +kernel
theorem dX12_findNext_4 : decode cX12_findNext 4 = .ok (.iload_n 1, 1) := by decide +kernel
theorem dX12_findNext_5 : decode cX12_findNext 5 = .ok (.iaload, 1) := by decide +kernel
theorem dX12_findNext_6 : decode cX12_findNext 6 = .ok (.istore_n 2, 1) := by decide +kernel
theorem dX12_findNext_7 : decode cX12_findNext 7 = .ok (.aload_n 0, 1) := by decide +kernel
theorem dX12_findNext_8 : decode cX12_findNext 8 = .ok (.getfield 175, 3) := by decide +kernel
theorem dX12_findNext_11 : decode cX12_findNext 11 = .ok (.iload_n 1, 1) := by decide +kernel
theorem dX12_findNext_12 : decode cX12_findNext 12 = .ok (.iaload, 1) := by decide +kernel
theorem dX12_findNext_13 : decode cX12_findNext 13 = .ok (.iconst 1, 1) := by decide +kernel
theorem dX12_findNext_14 : decode cX12_findNext 14 = .ok (.if_icmp .ge 25, 3) := by decide +kernel
theorem dX12_findNext_17 : decode cX12_findNext 17 = .ok (.aload_n 0, 1) := by decide +kernel
theorem dX12_findNext_18 : decode cX12_findNext 18 = .ok (.iload_n 1, 1) := by decide +kernel
theorem dX12_findNext_19 : decode cX12_findNext 19 = .ok (.iload_n 2, 1) := by decide +kernel
theorem dX12_findNext_20 : decode cX12_findNext 20 = .ok (.iconst 1, 1) := by decide +kernel
theorem dX12_findNext_21 : decode cX12_findNext 21 = .ok (.invokevirtual 800, 3) := by decide +kernel
theorem dX12_findNext_24 : decode cX12_findNext 24 = .ok (.ifCond .eq 15, 3) := by decide +kernel
theorem dX12_findNext_27 : decode cX12_findNext 27 = .ok (.aload_n 0, 1) := by decide +kernel
theorem dX12_findNext_28 : decode cX12_findNext 28 = .ok (.iconst 1, 1) := by decide +kernel
theorem dX12_findNext_29 : decode cX12_findNext 29 = .ok (.putfield 803, 3) := by decide +kernel
theorem dX12_findNext_32 : decode cX12_findNext 32 = .ok (.aload_n 0, 1) := by decide +kernel
theorem dX12_findNext_33 : decode cX12_findNext 33 = .ok (.iload_n 2, 1) := by decide +kernel
theorem dX12_findNext_34 : decode cX12_findNext 34 = .ok (.putfield 806, 3) := by decide +kernel
theorem dX12_findNext_37 : decode cX12_findNext 37 = .ok (.iconst 1, 1) := by decide +kernel
theorem dX12_findNext_38 : decode cX12_findNext 38 = .ok (.ireturn, 1) := by decide +kernel
theorem dX12_findNext_39 : decode cX12_findNext 39 = .ok (.aload_n 0, 1) := by decide +kernel
theorem dX12_findNext_40 : decode cX12_findNext 40 = .ok (.getfield 175, 3) := by decide +kernel
theorem dX12_findNext_43 : decode cX12_findNext 43 = .ok (.iload_n 1, 1) := by decide +kernel
theorem dX12_findNext_44 : decode cX12_findNext 44 = .ok (.iaload, 1) := by decide +kernel
theorem dX12_findNext_45 : decode cX12_findNext 45 = .ok (.iconst 2, 1) := by decide +kernel
theorem dX12_findNext_46 : decode cX12_findNext 46 = .ok (.if_icmp .ge 43, 3) := by decide +kernel
theorem dX12_findNext_49 : decode cX12_findNext 49 = .ok (.aload_n 0, 1) := by decide +kernel
theorem dX12_findNext_50 : decode cX12_findNext 50 = .ok (.iload_n 1, 1) := by decide +kernel
theorem dX12_findNext_51 : decode cX12_findNext 51 = .ok (.iload_n 2, 1) := by decide +kernel
theorem dX12_findNext_52 : decode cX12_findNext 52 = .ok (.iconst 2, 1) := by decide +kernel
theorem dX12_findNext_53 : decode cX12_findNext 53 = .ok (.invokevirtual 800, 3) := by decide +kernel
theorem dX12_findNext_56 : decode cX12_findNext 56 = .ok (.ifCond .eq 33, 3) := by decide +kernel
theorem dX12_findNext_59 : decode cX12_findNext 59 = .ok (.aload_n 0, 1) := by decide +kernel
theorem dX12_findNext_60 : decode cX12_findNext 60 = .ok (.iconst 2, 1) := by decide +kernel
theorem dX12_findNext_61 : decode cX12_findNext 61 = .ok (.putfield 803, 3) := by decide +kernel
theorem dX12_findNext_64 : decode cX12_findNext 64 = .ok (.aload_n 0, 1) := by decide +kernel
theorem dX12_findNext_65 : decode cX12_findNext 65 = .ok (.aload_n 0, 1) := by decide +kernel
theorem dX12_findNext_66 : decode cX12_findNext 66 = .ok (.getfield 17, 3) := by decide +kernel
theorem dX12_findNext_69 : decode cX12_findNext 69 = .ok (.iload_n 2, 1) := by decide +kernel
theorem dX12_findNext_70 : decode cX12_findNext 70 = .ok (.iaload, 1) := by decide +kernel
theorem dX12_findNext_71 : decode cX12_findNext 71 = .ok (.ifCond .ge 7, 3) := by decide +kernel
theorem dX12_findNext_74 : decode cX12_findNext 74 = .ok (.iload_n 2, 1) := by decide +kernel
theorem dX12_findNext_75 : decode cX12_findNext 75 = .ok (.goto 9, 3) := by decide +kernel
theorem dX12_findNext_78 : decode cX12_findNext 78 = .ok (.aload_n 0, 1) := by decide +kernel
theorem dX12_findNext_79 : decode cX12_findNext 79 = .ok (.getfield 17, 3) := by decide +kernel
theorem dX12_findNext_82 : decode cX12_findNext 82 = .ok (.iload_n 2, 1) := by decide +kernel
theorem dX12_findNext_83 : decode cX12_findNext 83 = .ok (.iaload, 1) := by decide +kernel
theorem dX12_findNext_84 : decode cX12_findNext 84 = .ok (.putfield 806, 3) := by decide +kernel
theorem dX12_findNext_87 : decode cX12_findNext 87 = .ok (.iconst 1, 1) := by decide +kernel
theorem dX12_findNext_88 : decode cX12_findNext 88 = .ok (.ireturn, 1) := by decide +kernel
theorem dX12_findNext_89 : decode cX12_findNext 89 = .ok (.iconst (-1), 1) := by decide +kernel
theorem dX12_findNext_90 : decode cX12_findNext 90 = .ok (.istore_n 3, 1) := by decide +kernel
theorem dX12_findNext_91 : decode cX12_findNext 91 = .ok (.iconst 0, 1) := by decide +kernel
theorem dX12_findNext_92 : decode cX12_findNext 92 = .ok (.istore 4, 2) := by decide +kernel
theorem dX12_findNext_94 : decode cX12_findNext 94 = .ok (.iload 4, 2) := by decide +kernel
theorem dX12_findNext_96 : decode cX12_findNext 96 = .ok (.bipush 80, 2) := by decide +kernel
theorem dX12_findNext_98 : decode cX12_findNext 98 = .ok (.if_icmp .ge 94, 3) := by decide +kernel
theorem dX12_findNext_101 : decode cX12_findNext 101 = .ok (.aload_n 0, 1) := by decide +kernel
theorem dX12_findNext_102 : decode cX12_findNext 102 = .ok (.getfield 13, 3) := by decide +kernel
theorem dX12_findNext_105 : decode cX12_findNext 105 = .ok (.iload 4, 2) := by decide +kernel
theorem dX12_findNext_107 : decode cX12_findNext 107 = .ok (.baload, 1) := by decide +kernel
theorem dX12_findNext_108 : decode cX12_findNext 108 = .ok (.ifCond .eq 49, 3) := by decide +kernel
theorem dX12_findNext_111 : decode cX12_findNext 111 = .ok (.aload_n 0, 1) := by decide +kernel
theorem dX12_findNext_112 : decode cX12_findNext 112 = .ok (.getfield 17, 3) := by decide +kernel
theorem dX12_findNext_115 : decode cX12_findNext 115 = .ok (.iload 4, 2) := by decide +kernel
theorem dX12_findNext_117 : decode cX12_findNext 117 = .ok (.iaload, 1) := by decide +kernel
theorem dX12_findNext_118 : decode cX12_findNext 118 = .ok (.iload_n 2, 1) := by decide +kernel
theorem dX12_findNext_119 : decode cX12_findNext 119 = .ok (.if_icmp .ne 38, 3) := by decide +kernel
theorem dX12_findNext_122 : decode cX12_findNext 122 = .ok (.aload_n 0, 1) := by decide +kernel
theorem dX12_findNext_123 : decode cX12_findNext 123 = .ok (.getfield 175, 3) := by decide +kernel
theorem dX12_findNext_126 : decode cX12_findNext 126 = .ok (.iload_n 1, 1) := by decide +kernel
theorem dX12_findNext_127 : decode cX12_findNext 127 = .ok (.iaload, 1) := by decide +kernel
theorem dX12_findNext_128 : decode cX12_findNext 128 = .ok (.iconst 3, 1) := by decide +kernel
theorem dX12_findNext_129 : decode cX12_findNext 129 = .ok (.if_icmp .lt 13, 3) := by decide +kernel
theorem dX12_findNext_132 : decode cX12_findNext 132 = .ok (.aload_n 0, 1) := by decide +kernel
theorem dX12_findNext_133 : decode cX12_findNext 133 = .ok (.iload 4, 2) := by decide +kernel
theorem dX12_findNext_135 : decode cX12_findNext 135 = .ok (.iload_n 1, 1) := by decide +kernel
theorem dX12_findNext_136 : decode cX12_findNext 136 = .ok (.invokevirtual 809, 3) := by decide +kernel
theorem dX12_findNext_139 : decode cX12_findNext 139 = .ok (.ifCond .le 18, 3) := by decide +kernel
theorem dX12_findNext_142 : decode cX12_findNext 142 = .ok (.aload_n 0, 1) := by decide +kernel
theorem dX12_findNext_143 : decode cX12_findNext 143 = .ok (.iload_n 1, 1) := by decide +kernel
theorem dX12_findNext_144 : decode cX12_findNext 144 = .ok (.iload 4, 2) := by decide +kernel
theorem dX12_findNext_146 : decode cX12_findNext 146 = .ok (.iconst 0, 1) := by decide +kernel
theorem dX12_findNext_147 : decode cX12_findNext 147 = .ok (.invokevirtual 800, 3) := by decide +kernel
theorem dX12_findNext_150 : decode cX12_findNext 150 = .ok (.ifCond .eq 7, 3) := by decide +kernel
theorem dX12_findNext_153 : decode cX12_findNext 153 = .ok (.iconst 1, 1) := by decide +kernel
theorem dX12_findNext_154 : decode cX12_findNext 154 = .ok (.goto 4, 3) := by decide +kernel
theorem dX12_findNext_157 : decode cX12_findNext 157 = .ok (.iconst 0, 1) := by decide +kernel
theorem dX12_findNext_158 : decode cX12_findNext 158 = .ok (.istore 5, 2) := by decide +kernel
theorem dX12_findNext_160 : decode cX12_findNext 160 = .ok (.iload 5, 2) := by decide +kernel
theorem dX12_findNext_162 : decode cX12_findNext 162 = .ok (.ifCond .eq 22, 3) := by decide +kernel
theorem dX12_findNext_165 : decode cX12_findNext 165 = .ok (.iload_n 3, 1) := by decide +kernel
theorem dX12_findNext_166 : decode cX12_findNext 166 = .ok (.ifCond .lt 13, 3) := by decide +kernel
theorem dX12_findNext_169 : decode cX12_findNext 169 = .ok (.aload_n 0, 1) := by decide +kernel
theorem dX12_findNext_170 : decode cX12_findNext 170 = .ok (.iload 4, 2) := by decide +kernel
theorem dX12_findNext_172 : decode cX12_findNext 172 = .ok (.iload_n 3, 1) := by decide +kernel
theorem dX12_findNext_173 : decode cX12_findNext 173 = .ok (.invokevirtual 812, 3) := by decide +kernel
theorem dX12_findNext_176 : decode cX12_findNext 176 = .ok (.ifCond .ge 8, 3) := by decide +kernel
theorem dX12_findNext_179 : decode cX12_findNext 179 = .ok (.iload 4, 2) := by decide +kernel
theorem dX12_findNext_181 : decode cX12_findNext 181 = .ok (.goto 4, 3) := by decide +kernel
theorem dX12_findNext_184 : decode cX12_findNext 184 = .ok (.iload_n 3, 1) := by decide +kernel
theorem dX12_findNext_185 : decode cX12_findNext 185 = .ok (.istore_n 3, 1) := by decide +kernel
theorem dX12_findNext_186 : decode cX12_findNext 186 = .ok (.iinc 4 1, 3) := by decide +kernel
theorem dX12_findNext_189 : decode cX12_findNext 189 = .ok (.goto (-95), 3) := by decide +kernel
theorem dX12_findNext_192 : decode cX12_findNext 192 = .ok (.aload_n 0, 1) := by decide +kernel
theorem dX12_findNext_193 : decode cX12_findNext 193 = .ok (.iconst 3, 1) := by decide +kernel
theorem dX12_findNext_194 : decode cX12_findNext 194 = .ok (.putfield 803, 3) := by decide +kernel
theorem dX12_findNext_197 : decode cX12_findNext 197 = .ok (.aload_n 0, 1) := by decide +kernel
theorem dX12_findNext_198 : decode cX12_findNext 198 = .ok (.iload_n 3, 1) := by decide +kernel
theorem dX12_findNext_199 : decode cX12_findNext 199 = .ok (.putfield 806, 3) := by decide +kernel
theorem dX12_findNext_202 : decode cX12_findNext 202 = .ok (.iload_n 3, 1) := by decide +kernel
theorem dX12_findNext_203 : decode cX12_findNext 203 = .ok (.ifCond .lt 7, 3) := by decide +kernel
theorem dX12_findNext_206 : decode cX12_findNext 206 = .ok (.iconst 1, 1) := by decide +kernel
theorem dX12_findNext_207 : decode cX12_findNext 207 = .ok (.goto 4, 3) := by decide +kernel
theorem dX12_findNext_210 : decode cX12_findNext 210 = .ok (.iconst 0, 1) := by decide +kernel
theorem dX12_findNext_211 : decode cX12_findNext 211 = .ok (.ireturn, 1) := by decide +kernel
set_option maxRecDepth 100000 in
set_option maxHeartbeats 4000000 in
theorem c_X12_findNext (l : Launch) (D : va_G) (t : Nat → ClassId) (h0 : Nat) (L : Nat → Nat) (σ : HS) (hM : MdI h0 L σ) (a1 : Int32) (post : Int32 → HS → Prop) (hw : F_X12_findNext h0 L a1 post σ) (sz : Nat) : RMi l D t yX12_findNext cX12_findNext 6 (some .boolean) ({ frames := 2, cells := 0, slots := 0, locals := 50 }) h0 L σ sz [.ref h0, .int a1] post := by
  refine h_go (τ := τT) okT (by decide) (Nat.le_of_ble_eq_true rfl) ?_
  intro p e s m below meth c ls A hF hr hlk hAe hH0 hA hl
  unfold hB
  rw [hAe]
  clear hAe
  have hF : FX p m c cX12_findNext 6 s _ RX12 D t := hF
  have hx := hF.1.1
  have hb := hF.1.2.1
  have hH : RT D t A s.heap h0 L σ s.heap [] := ⟨hH0, hM⟩
  have hl : lv_has ls 6 [(0, .ref h0), (1, .int a1)] := hl
  unfold F_X12_findNext at hw
  refine lv_aload_n hx hb dX12_findNext_0 rfl (lv_at hl 0 rfl) ?_
  refine w_getA 43 hF hH fk_X12_145 dX12_findNext_1 (by decide) rfl ?_
  refine lv_iload_n hx hb dX12_findNext_4 rfl (lv_at hl 1 rfl) ?_
  refine w_iald 43 40 hF hH dX12_findNext_5 (by decide) rfl rfl hw (fun z1 hw => ?_)
  refine lv_istore_n (lv' := [(2, .int z1), (0, .ref h0), (1, .int a1)]) hx hb dX12_findNext_6 rfl hl (by decide) rfl (fun ls hl => ?_)
  refine lv_aload_n hx hb dX12_findNext_7 rfl (lv_at hl 1 rfl) ?_
  refine w_getA 53 hF hH fk_X12_175 dX12_findNext_8 (by decide) rfl ?_
  refine lv_iload_n hx hb dX12_findNext_11 rfl (lv_at hl 2 rfl) ?_
  refine w_iald 53 40 hF hH dX12_findNext_12 (by decide) rfl rfl hw (fun z2 hw => ?_)
  refine lv_iconst (v := 1) hx hb dX12_findNext_13 (by decide) ?_
  obtain ⟨K5, hK6, hw⟩ := jn_open hw
  refine w_join (K := K5) 39 (fun (x3 : Unit) => [(2, .int z1), (1, .int a1), (0, .ref h0)]) (fun (x3 : Unit) => []) hl hH (fun x3 σ4 ls H locs hl hw hH => ?_) (fun jn7 => ?_)
  · have hw := hK6 x3 σ4 hw
    have hl : lv_has ls 6 [(2, .int z1), (1, .int a1), (0, .ref h0)] := hl
    refine lv_aload_n hx hb dX12_findNext_39 rfl (lv_at hl 2 rfl) ?_
    refine w_getA 53 hF hH fk_X12_175 dX12_findNext_40 (by decide) rfl ?_
    refine lv_iload_n hx hb dX12_findNext_43 rfl (lv_at hl 1 rfl) ?_
    refine w_iald 53 40 hF hH dX12_findNext_44 (by decide) rfl rfl hw (fun z8 hw => ?_)
    refine lv_iconst (v := 2) hx hb dX12_findNext_45 (by decide) ?_
    obtain ⟨K11, hK12, hw⟩ := jn_open hw
    refine w_join (K := K11) 89 (fun (x9 : Unit) => [(2, .int z1), (1, .int a1), (0, .ref h0)]) (fun (x9 : Unit) => []) hl hH (fun x9 σ10 ls H locs hl hw hH => ?_) (fun jn13 => ?_)
    · have hw := hK12 x9 σ10 hw
      have hl : lv_has ls 6 [(2, .int z1), (1, .int a1), (0, .ref h0)] := hl
      refine lv_iconst (v := (-1)) hx hb dX12_findNext_89 (by decide) ?_
      refine lv_istore_n (lv' := [(3, .int (-1)), (2, .int z1), (1, .int a1), (0, .ref h0)]) hx hb dX12_findNext_90 rfl hl (by decide) rfl (fun ls hl => ?_)
      refine lv_iconst (v := 0) hx hb dX12_findNext_91 (by decide) ?_
      refine lv_istore (lv' := [(4, .int 0), (3, .int (-1)), (2, .int z1), (1, .int a1), (0, .ref h0)]) hx hb dX12_findNext_92 hl (by decide) rfl (fun ls hl => ?_)
      refine w_loop (β := Int32 × Int32) (fun x14 => [(4, .int x14.1), (3, .int x14.2), (2, .int z1), (1, .int a1), (0, .ref h0)]) (0, (-1)) hl hw hH (fun K16 x14 σ15 ls H locs hl hw hH ih17 => ?_)
      have hl : lv_has ls 6 [(4, .int x14.1), (3, .int x14.2), (2, .int z1), (1, .int a1), (0, .ref h0)] := hl
      refine lv_iload hx hb dX12_findNext_94 (lv_at hl 0 rfl) ?_
      refine lv_bipush (v := 80) hx hb dX12_findNext_96 (by decide) ?_
      refine w_icmp_ge (tgt := 192) hF dX12_findNext_98 rfl hw (fun hw => ?_) (fun hw => ?_)
      · refine lv_aload_n hx hb dX12_findNext_192 rfl (lv_at hl 4 rfl) ?_
        refine lv_iconst (v := 3) hx hb dX12_findNext_193 (by decide) ?_
        refine w_putI hF hH fk_X12_803 dX12_findNext_194 rfl rfl rfl hw (fun σ18 H locs hw hH => ?_)
        refine lv_aload_n hx hb dX12_findNext_197 rfl (lv_at hl 4 rfl) ?_
        refine lv_iload_n hx hb dX12_findNext_198 rfl (lv_at hl 1 rfl) ?_
        refine w_putI hF hH fk_X12_806 dX12_findNext_199 rfl rfl rfl hw (fun σ19 H locs hw hH => ?_)
        refine lv_iload_n hx hb dX12_findNext_202 rfl (lv_at hl 1 rfl) ?_
        obtain ⟨K22, hK23, hw⟩ := jn_open hw
        refine w_join (K := K22) 211 (fun (x20 : Int32) => []) (fun (x20 : Int32) => [.int x20]) hl hH (fun x20 σ21 ls H locs hl hw hH => ?_) (fun jn24 => ?_)
        · have hw := hK23 x20 σ21 hw
          have hl : lv_has ls 6 [] := hl
          exact w_retz hF hH hr hlk dX12_findNext_211 hw
        · skip
          refine w_if_lt (tgt := 210) hF dX12_findNext_203 rfl hw (fun hw => ?_) (fun hw => ?_)
          · refine lv_iconst (v := 0) hx hb dX12_findNext_210 (by decide) ?_
            have hl : lv_has ls 6 [] := lv_sub hl [] rfl
            exact jn24 0 σ19 ls _ _ hl hw hH
          · refine lv_iconst (v := 1) hx hb dX12_findNext_206 (by decide) ?_
            refine lv_goto (tgt := 211) hx hb dX12_findNext_207 rfl ?_
            have hl : lv_has ls 6 [] := lv_sub hl [] rfl
            exact jn24 1 σ19 ls _ _ hl hw hH
      · refine lv_aload_n hx hb dX12_findNext_101 rfl (lv_at hl 4 rfl) ?_
        refine w_getA 1 hF hH fk_X12_13 dX12_findNext_102 (by decide) rfl ?_
        refine lv_iload hx hb dX12_findNext_105 (lv_at hl 0 rfl) ?_
        refine w_zald 1 160 hF hH dX12_findNext_107 (by decide) rfl rfl hw (fun z25 hw => ?_)
        obtain ⟨K28, hK29, hw⟩ := jn_open hw
        refine w_join (K := K28) 158 (fun (x26 : Int32) => [(4, .int x14.1), (3, .int x14.2), (2, .int z1), (1, .int a1), (0, .ref h0)]) (fun (x26 : Int32) => [.int x26]) hl hH (fun x26 σ27 ls H locs hl hw hH => ?_) (fun jn30 => ?_)
        · have hw := hK29 x26 σ27 hw
          have hl : lv_has ls 6 [(4, .int x14.1), (3, .int x14.2), (2, .int z1), (1, .int a1), (0, .ref h0)] := hl
          refine lv_istore (lv' := [(5, .int x26), (4, .int x14.1), (3, .int x14.2), (2, .int z1), (1, .int a1), (0, .ref h0)]) hx hb dX12_findNext_158 hl (by decide) rfl (fun ls hl => ?_)
          refine lv_iload hx hb dX12_findNext_160 (lv_at hl 0 rfl) ?_
          obtain ⟨K33, hK34, hw⟩ := jn_open hw
          refine w_join (K := K33) 185 (fun (x31 : Int32) => [(4, .int x14.1), (2, .int z1), (1, .int a1), (0, .ref h0)]) (fun (x31 : Int32) => [.int x31]) hl hH (fun x31 σ32 ls H locs hl hw hH => ?_) (fun jn35 => ?_)
          · have hw := hK34 x31 σ32 hw
            have hl : lv_has ls 6 [(4, .int x14.1), (2, .int z1), (1, .int a1), (0, .ref h0)] := hl
            refine lv_istore_n (lv' := [(3, .int x31), (4, .int x14.1), (2, .int z1), (1, .int a1), (0, .ref h0)]) hx hb dX12_findNext_185 rfl hl (by decide) rfl (fun ls hl => ?_)
            obtain ⟨z36, ez36⟩ : ∃ z : Int32, z = x14.1 + 1 := ⟨_, rfl⟩
            have hw := hw z36 ez36
            refine lv_iinc (lv' := [(4, .int z36), (3, .int x31), (2, .int z1), (1, .int a1), (0, .ref h0)]) (k := 1) (v := z36) hx hb dX12_findNext_186 hl rfl ez36.symm (by decide) rfl (fun ls hl => ?_)
            refine lv_goto (tgt := 94) hx hb dX12_findNext_189 rfl ?_
            exact ih17 (z36, x31) σ32 ls _ _ hl hw hH
          · skip
            obtain ⟨K39, hK40, hw⟩ := jn_open hw
            refine w_join (K := K39) 184 (fun (x37 : Unit) => [(4, .int x14.1), (3, .int x14.2), (2, .int z1), (1, .int a1), (0, .ref h0)]) (fun (x37 : Unit) => []) hl hH (fun x37 σ38 ls H locs hl hw hH => ?_) (fun jn41 => ?_)
            · have hw := hK40 x37 σ38 hw
              have hl : lv_has ls 6 [(4, .int x14.1), (3, .int x14.2), (2, .int z1), (1, .int a1), (0, .ref h0)] := hl
              refine lv_iload_n hx hb dX12_findNext_184 rfl (lv_at hl 1 rfl) ?_
              have hl : lv_has ls 6 [(4, .int x14.1), (2, .int z1), (1, .int a1), (0, .ref h0)] := lv_sub hl [0, 2, 3, 4] rfl
              exact jn35 x14.2 σ38 ls _ _ hl hw hH
            · skip
              refine w_if_eq (tgt := 184) hF dX12_findNext_162 rfl hw (fun hw => ?_) (fun hw => ?_)
              · have hl : lv_has ls 6 [(4, .int x14.1), (3, .int x14.2), (2, .int z1), (1, .int a1), (0, .ref h0)] := lv_sub hl [1, 2, 3, 4, 5] rfl
                exact jn41 () σ27 ls _ _ hl hw hH
              · refine lv_iload_n hx hb dX12_findNext_165 rfl (lv_at hl 2 rfl) ?_
                obtain ⟨K44, hK45, hw⟩ := jn_open hw
                refine w_join (K := K44) 179 (fun (x42 : Unit) => [(4, .int x14.1), (2, .int z1), (1, .int a1), (0, .ref h0)]) (fun (x42 : Unit) => []) hl hH (fun x42 σ43 ls H locs hl hw hH => ?_) (fun jn46 => ?_)
                · have hw := hK45 x42 σ43 hw
                  have hl : lv_has ls 6 [(4, .int x14.1), (2, .int z1), (1, .int a1), (0, .ref h0)] := hl
                  refine lv_iload hx hb dX12_findNext_179 (lv_at hl 0 rfl) ?_
                  refine lv_goto (tgt := 185) hx hb dX12_findNext_181 rfl ?_
                  exact jn35 x14.1 σ43 ls _ _ hl hw hH
                · skip
                  refine w_if_lt (tgt := 179) hF dX12_findNext_166 rfl hw (fun hw => ?_) (fun hw => ?_)
                  · have hl : lv_has ls 6 [(4, .int x14.1), (2, .int z1), (1, .int a1), (0, .ref h0)] := lv_sub hl [1, 3, 4, 5] rfl
                    exact jn46 () σ27 ls _ _ hl hw hH
                  · refine lv_aload_n hx hb dX12_findNext_169 rfl (lv_at hl 5 rfl) ?_
                    refine lv_iload hx hb dX12_findNext_170 (lv_at hl 1 rfl) ?_
                    refine lv_iload_n hx hb dX12_findNext_172 rfl (lv_at hl 2 rfl) ?_
                    refine w_cVi (As := [.int x14.1, .int x14.2]) (rest := []) hF hH hA mv_X12_812 (fun sz => c_X12_between l D t h0 L _ hH.2 x14.1 x14.2 _ hw sz) dX12_findNext_173 rfl rfl (by decide) rfl hl.1 (Nat.le_of_ble_eq_true rfl) (by decide) rfl (fun z48 σ47 H locs hw hH => ?_)
                    refine w_if_ge (tgt := 184) hF dX12_findNext_176 rfl hw (fun hw => ?_) (fun hw => ?_)
                    · have hl : lv_has ls 6 [(4, .int x14.1), (3, .int x14.2), (2, .int z1), (1, .int a1), (0, .ref h0)] := lv_sub hl [1, 2, 3, 4, 5] rfl
                      exact jn41 () σ47 ls _ _ hl hw hH
                    · have hl : lv_has ls 6 [(4, .int x14.1), (2, .int z1), (1, .int a1), (0, .ref h0)] := lv_sub hl [1, 3, 4, 5] rfl
                      exact jn46 () σ47 ls _ _ hl hw hH
        · skip
          obtain ⟨K51, hK52, hw⟩ := jn_open hw
          refine w_join (K := K51) 157 (fun (x49 : Unit) => [(4, .int x14.1), (3, .int x14.2), (2, .int z1), (1, .int a1), (0, .ref h0)]) (fun (x49 : Unit) => []) hl hH (fun x49 σ50 ls H locs hl hw hH => ?_) (fun jn53 => ?_)
          · have hw := hK52 x49 σ50 hw
            have hl : lv_has ls 6 [(4, .int x14.1), (3, .int x14.2), (2, .int z1), (1, .int a1), (0, .ref h0)] := hl
            refine lv_iconst (v := 0) hx hb dX12_findNext_157 (by decide) ?_
            exact jn30 0 σ50 ls _ _ hl hw hH
          · skip
            refine w_if_eq (tgt := 157) hF dX12_findNext_108 rfl hw (fun hw => ?_) (fun hw => ?_)
            · exact jn53 () σ15 ls _ _ hl hw hH
            · refine lv_aload_n hx hb dX12_findNext_111 rfl (lv_at hl 4 rfl) ?_
              refine w_getA 2 hF hH fk_X12_17 dX12_findNext_112 (by decide) rfl ?_
              refine lv_iload hx hb dX12_findNext_115 (lv_at hl 0 rfl) ?_
              refine w_iald 2 160 hF hH dX12_findNext_117 (by decide) rfl rfl hw (fun z54 hw => ?_)
              refine lv_iload_n hx hb dX12_findNext_118 rfl (lv_at hl 2 rfl) ?_
              refine w_icmp_ne (tgt := 157) hF dX12_findNext_119 rfl hw (fun hw => ?_) (fun hw => ?_)
              · exact jn53 () σ15 ls _ _ hl hw hH
              · refine lv_aload_n hx hb dX12_findNext_122 rfl (lv_at hl 4 rfl) ?_
                refine w_getA 53 hF hH fk_X12_175 dX12_findNext_123 (by decide) rfl ?_
                refine lv_iload_n hx hb dX12_findNext_126 rfl (lv_at hl 3 rfl) ?_
                refine w_iald 53 40 hF hH dX12_findNext_127 (by decide) rfl rfl hw (fun z55 hw => ?_)
                refine lv_iconst (v := 3) hx hb dX12_findNext_128 (by decide) ?_
                obtain ⟨K58, hK59, hw⟩ := jn_open hw
                refine w_join (K := K58) 142 (fun (x56 : Unit) => [(4, .int x14.1), (3, .int x14.2), (2, .int z1), (1, .int a1), (0, .ref h0)]) (fun (x56 : Unit) => []) hl hH (fun x56 σ57 ls H locs hl hw hH => ?_) (fun jn60 => ?_)
                · have hw := hK59 x56 σ57 hw
                  have hl : lv_has ls 6 [(4, .int x14.1), (3, .int x14.2), (2, .int z1), (1, .int a1), (0, .ref h0)] := hl
                  refine lv_aload_n hx hb dX12_findNext_142 rfl (lv_at hl 4 rfl) ?_
                  refine lv_iload_n hx hb dX12_findNext_143 rfl (lv_at hl 3 rfl) ?_
                  refine lv_iload hx hb dX12_findNext_144 (lv_at hl 0 rfl) ?_
                  refine lv_iconst (v := 0) hx hb dX12_findNext_146 (by decide) ?_
                  refine w_cVi (As := [.int a1, .int x14.1, .int 0]) (rest := []) hF hH hA mv_X12_800 (fun sz => c_X12_matches l D t h0 L _ hH.2 a1 x14.1 0 _ hw sz) dX12_findNext_147 rfl rfl (by decide) rfl hl.1 (Nat.le_of_ble_eq_true rfl) (by decide) rfl (fun z62 σ61 H locs hw hH => ?_)
                  refine w_if_eq (tgt := 157) hF dX12_findNext_150 rfl hw (fun hw => ?_) (fun hw => ?_)
                  · exact jn53 () σ61 ls _ _ hl hw hH
                  · refine lv_iconst (v := 1) hx hb dX12_findNext_153 (by decide) ?_
                    refine lv_goto (tgt := 158) hx hb dX12_findNext_154 rfl ?_
                    exact jn30 1 σ61 ls _ _ hl hw hH
                · skip
                  refine w_icmp_lt (tgt := 142) hF dX12_findNext_129 rfl hw (fun hw => ?_) (fun hw => ?_)
                  · exact jn60 () σ15 ls _ _ hl hw hH
                  · refine lv_aload_n hx hb dX12_findNext_132 rfl (lv_at hl 4 rfl) ?_
                    refine lv_iload hx hb dX12_findNext_133 (lv_at hl 0 rfl) ?_
                    refine lv_iload_n hx hb dX12_findNext_135 rfl (lv_at hl 3 rfl) ?_
                    refine w_cVi (As := [.int x14.1, .int a1]) (rest := []) hF hH hA mv_X12_809 (fun sz => c_X12_against l D t h0 L _ hH.2 x14.1 a1 _ hw sz) dX12_findNext_136 rfl rfl (by decide) rfl hl.1 (Nat.le_of_ble_eq_true rfl) (by decide) rfl (fun z64 σ63 H locs hw hH => ?_)
                    refine w_if_le (tgt := 157) hF dX12_findNext_139 rfl hw (fun hw => ?_) (fun hw => ?_)
                    · exact jn53 () σ63 ls _ _ hl hw hH
                    · exact jn60 () σ63 ls _ _ hl hw hH
    · skip
      refine w_icmp_ge (tgt := 89) hF dX12_findNext_46 rfl hw (fun hw => ?_) (fun hw => ?_)
      · exact jn13 () σ4 ls _ _ hl hw hH
      · refine lv_aload_n hx hb dX12_findNext_49 rfl (lv_at hl 2 rfl) ?_
        refine lv_iload_n hx hb dX12_findNext_50 rfl (lv_at hl 1 rfl) ?_
        refine lv_iload_n hx hb dX12_findNext_51 rfl (lv_at hl 0 rfl) ?_
        refine lv_iconst (v := 2) hx hb dX12_findNext_52 (by decide) ?_
        refine w_cVi (As := [.int a1, .int z1, .int 2]) (rest := []) hF hH hA mv_X12_800 (fun sz => c_X12_matches l D t h0 L _ hH.2 a1 z1 2 _ hw sz) dX12_findNext_53 rfl rfl (by decide) rfl hl.1 (Nat.le_of_ble_eq_true rfl) (by decide) rfl (fun z66 σ65 H locs hw hH => ?_)
        refine w_if_eq (tgt := 89) hF dX12_findNext_56 rfl hw (fun hw => ?_) (fun hw => ?_)
        · exact jn13 () σ65 ls _ _ hl hw hH
        · refine lv_aload_n hx hb dX12_findNext_59 rfl (lv_at hl 2 rfl) ?_
          refine lv_iconst (v := 2) hx hb dX12_findNext_60 (by decide) ?_
          refine w_putI hF hH fk_X12_803 dX12_findNext_61 rfl rfl rfl hw (fun σ67 H locs hw hH => ?_)
          refine lv_aload_n hx hb dX12_findNext_64 rfl (lv_at hl 2 rfl) ?_
          refine lv_aload_n hx hb dX12_findNext_65 rfl (lv_at hl 2 rfl) ?_
          refine w_getA 2 hF hH fk_X12_17 dX12_findNext_66 (by decide) rfl ?_
          refine lv_iload_n hx hb dX12_findNext_69 rfl (lv_at hl 0 rfl) ?_
          refine w_iald 2 160 hF hH dX12_findNext_70 (by decide) rfl rfl hw (fun z68 hw => ?_)
          obtain ⟨K71, hK72, hw⟩ := jn_open hw
          refine w_join (K := K71) 84 (fun (x69 : Int32) => []) (fun (x69 : Int32) => [.int x69, .ref h0]) hl hH (fun x69 σ70 ls H locs hl hw hH => ?_) (fun jn73 => ?_)
          · have hw := hK72 x69 σ70 hw
            have hl : lv_has ls 6 [] := hl
            refine w_putI hF hH fk_X12_806 dX12_findNext_84 rfl rfl rfl hw (fun σ74 H locs hw hH => ?_)
            refine lv_iconst (v := 1) hx hb dX12_findNext_87 (by decide) ?_
            exact w_retz hF hH hr hlk dX12_findNext_88 hw
          · skip
            refine w_if_ge (tgt := 78) hF dX12_findNext_71 rfl hw (fun hw => ?_) (fun hw => ?_)
            · refine lv_aload_n hx hb dX12_findNext_78 rfl (lv_at hl 2 rfl) ?_
              refine w_getA 2 hF hH fk_X12_17 dX12_findNext_79 (by decide) rfl ?_
              refine lv_iload_n hx hb dX12_findNext_82 rfl (lv_at hl 0 rfl) ?_
              refine w_iald 2 160 hF hH dX12_findNext_83 (by decide) rfl rfl hw (fun z75 hw => ?_)
              have hl : lv_has ls 6 [] := lv_sub hl [] rfl
              exact jn73 z75 σ67 ls _ _ hl hw hH
            · refine lv_iload_n hx hb dX12_findNext_74 rfl (lv_at hl 0 rfl) ?_
              refine lv_goto (tgt := 84) hx hb dX12_findNext_75 rfl ?_
              have hl : lv_has ls 6 [] := lv_sub hl [] rfl
              exact jn73 z1 σ67 ls _ _ hl hw hH
  · skip
    refine w_icmp_ge (tgt := 39) hF dX12_findNext_14 rfl hw (fun hw => ?_) (fun hw => ?_)
    · have hl : lv_has ls 6 [(2, .int z1), (1, .int a1), (0, .ref h0)] := lv_sub hl [0, 2, 1] rfl
      exact jn7 () σ ls _ _ hl hw hH
    · refine lv_aload_n hx hb dX12_findNext_17 rfl (lv_at hl 1 rfl) ?_
      refine lv_iload_n hx hb dX12_findNext_18 rfl (lv_at hl 2 rfl) ?_
      refine lv_iload_n hx hb dX12_findNext_19 rfl (lv_at hl 0 rfl) ?_
      refine lv_iconst (v := 1) hx hb dX12_findNext_20 (by decide) ?_
      refine w_cVi (As := [.int a1, .int z1, .int 1]) (rest := []) hF hH hA mv_X12_800 (fun sz => c_X12_matches l D t h0 L _ hH.2 a1 z1 1 _ hw sz) dX12_findNext_21 rfl rfl (by decide) rfl hl.1 (Nat.le_of_ble_eq_true rfl) (by decide) rfl (fun z77 σ76 H locs hw hH => ?_)
      refine w_if_eq (tgt := 39) hF dX12_findNext_24 rfl hw (fun hw => ?_) (fun hw => ?_)
      · have hl : lv_has ls 6 [(2, .int z1), (1, .int a1), (0, .ref h0)] := lv_sub hl [0, 2, 1] rfl
        exact jn7 () σ76 ls _ _ hl hw hH
      · refine lv_aload_n hx hb dX12_findNext_27 rfl (lv_at hl 1 rfl) ?_
        refine lv_iconst (v := 1) hx hb dX12_findNext_28 (by decide) ?_
        refine w_putI hF hH fk_X12_803 dX12_findNext_29 rfl rfl rfl hw (fun σ78 H locs hw hH => ?_)
        refine lv_aload_n hx hb dX12_findNext_32 rfl (lv_at hl 1 rfl) ?_
        refine lv_iload_n hx hb dX12_findNext_33 rfl (lv_at hl 0 rfl) ?_
        refine w_putI hF hH fk_X12_806 dX12_findNext_34 rfl rfl rfl hw (fun σ79 H locs hw hH => ?_)
        refine lv_iconst (v := 1) hx hb dX12_findNext_37 (by decide) ?_
        exact w_retz hF hH hr hlk dX12_findNext_38 hw
def F_X12_entryAt (h0 : Nat) (L : Nat → Nat) (a1 : Int32) (a2 : Int32) (a3 : Int32) (post : HS → Prop) (σ : HS) : Prop := ∀ z1 : Int32, z1 = sI σ h0 119 → lw (fun (K4 : Int32 → HS → Prop) (x2 : Int32) (σ3 : HS) => jn (fun (K8 : Int32 → HS → Prop) => ((¬ a2.toInt = (1 : Int32).toInt) → K8 12 σ3) ∧ ((a2.toInt = (1 : Int32).toInt) → K8 64 σ3)) (fun (x6 : Int32) (σ7 : HS) => ∀ z11 : Int32, z11 = a1 + x6 → ((z11.toInt ≤ x2.toInt) → ∀ z12 : Int32, z12 = a1 + 12 → jn (fun (K15 : Int32 → HS → Prop) => ((¬ a2.toInt = (1 : Int32).toInt) → ∀ z37 : Int32, z37 = a1 + 8 → ∀ z38 : Int32, z38 = 2 * a3 → ∀ z39 : Int64, z39 = (z38 : Int32).toInt64 → F_X12_set h0 L z37 4 z39 (fun (σ40 : HS) => K15 z12 σ40) σ7) ∧ ((a2.toInt = (1 : Int32).toInt) → ∀ z42 : Int32, z42 = a1 + 8 → F_X12_setTimes h0 L z42 z1 (fun (σ43 : HS) => ∀ z45 : Int32, z45 = a1 + 40 → (0 ≤ z1.toInt ∧ z1.toInt < 160) ∧ ∀ z46 : Int32, z46 = sI σ43 (L 8) z1.toInt.toNat → ∀ z47 : Int64, z47 = (z46 : Int32).toInt64 → F_X12_set h0 L z45 8 z47 (fun (σ48 : HS) => ∀ z50 : Int32, z50 = a1 + 48 → F_X12_room h0 L z1 (fun (z52 : Int32) (σ51 : HS) => ∀ z53 : Int64, z53 = (z52 : Int32).toInt64 → F_X12_set h0 L z50 8 z53 (fun (σ54 : HS) => ∀ z56 : Int32, z56 = a1 + 56 → F_X12_shown h0 L z1 (fun (z58 : Int32) (σ57 : HS) => ∀ z59 : Int64, z59 = (z58 : Int32).toInt64 → F_X12_set h0 L z56 4 z59 (fun (σ60 : HS) => ∀ z62 : Int32, z62 = a1 + 60 → ∀ z63 : Int32, z63 = 2 * a3 → ∀ z64 : Int64, z64 = (z63 : Int32).toInt64 → F_X12_set h0 L z62 4 z64 (fun (σ65 : HS) => ∀ z67 : Int32, z67 = a1 + 64 → K15 z67 σ65) σ60) σ57) σ54) σ51) σ48) σ43) σ7)) (fun (x13 : Int32) (σ14 : HS) => lw (fun (K20 : Int32 → HS → Prop) (x18 : Int32) (σ19 : HS) => ((a3.toInt ≤ x18.toInt) → post σ19) ∧ ((x18.toInt < a3.toInt) → ∀ z22 : Int32, z22 = 2 * x18 → ∀ z23 : Int32, z23 = x13 + z22 → ∀ z24 : Int32, z24 = sI σ19 h0 118 → jn (fun (K27 : Int64 → HS → Prop) => (((3 : Int32).toInt ≤ z24.toInt) → ∀ z33 : Int32, z33 = 12 * z1 → ∀ z34 : Int32, z34 = z33 + x18 → (0 ≤ z34.toInt ∧ z34.toInt < 1920) ∧ ∀ z35 : Int32, z35 = sI σ19 (L 4) z34.toInt.toNat → ∀ z36 : Int64, z36 = (z35 : Int32).toInt64 → K27 z36 σ19) ∧ ((z24.toInt < (3 : Int32).toInt) → K27 46 σ19)) (fun (x25 : Int64) (σ26 : HS) => F_X12_set h0 L z23 2 x25 (fun (σ30 : HS) => ∀ z32 : Int32, z32 = x18 + 1 → K20 z32 σ30) σ26))) 0 σ14)) ∧ ((x2.toInt < z11.toInt) → F_X12_set h0 L x2 1 0 (fun (σ68 : HS) => ∀ z70 : Int32, z70 = x2 + 1 → K4 z70 σ68) σ7))) a1 σ
theorem dX12_entryAt_0 : decode cX12_entryAt 0 = .ok (.aload_n 0, 1) := by decide +kernel
theorem dX12_entryAt_1 : decode cX12_entryAt 1 = .ok (.getfield 806, 3) := by decide +kernel
theorem dX12_entryAt_4 : decode cX12_entryAt 4 = .ok (.istore 4, 2) := by decide +kernel
theorem dX12_entryAt_6 : decode cX12_entryAt 6 = .ok (.iload_n 1, 1) := by decide +kernel
theorem dX12_entryAt_7 : decode cX12_entryAt 7 = .ok (.istore 5, 2) := by decide +kernel
theorem dX12_entryAt_9 : decode cX12_entryAt 9 = .ok (.iload 5, 2) := by decide +kernel
theorem dX12_entryAt_11 : decode cX12_entryAt 11 = .ok (.iload_n 1, 1) := by decide +kernel
theorem dX12_entryAt_12 : decode cX12_entryAt 12 = .ok (.iload_n 2, 1) := by decide +kernel
theorem dX12_entryAt_13 : decode cX12_entryAt 13 = .ok (.iconst 1, 1) := by decide +kernel
theorem dX12_entryAt_14 : decode cX12_entryAt 14 = .ok (.if_icmp .ne 8, 3) := by decide +kernel
theorem dX12_entryAt_17 : decode cX12_entryAt 17 = .ok (.bipush 64, 2) := by decide +kernel
theorem dX12_entryAt_19 : decode cX12_entryAt 19 = .ok (.goto 5, 3) := by decide +kernel
theorem dX12_entryAt_22 : decode cX12_entryAt 22 = .ok (.bipush 12, 2) := by decide +kernel
theorem dX12_entryAt_24 : decode cX12_entryAt 24 = .ok (.iadd, 1) := by decide +kernel
theorem dX12_entryAt_25 : decode cX12_entryAt 25 = .ok (.if_icmp .ge 17, 3) := by decide +kernel
theorem dX12_entryAt_28 : decode cX12_entryAt 28 = .ok (.aload_n 0, 1) := by decide +kernel
theorem dX12_entryAt_29 : decode cX12_entryAt 29 = .ok (.iload 5, 2) := by decide +kernel
theorem dX12_entryAt_31 : decode cX12_entryAt 31 = .ok (.iconst 1, 1) := by decide +kernel
theorem dX12_entryAt_32 : decode cX12_entryAt 32 = .ok (.lconst 0, 1) := by decide +kernel
theorem dX12_entryAt_33 : decode cX12_entryAt 33 = .ok (.invokevirtual 376, 3) := by decide +kernel
theorem dX12_entryAt_36 : decode cX12_entryAt 36 = .ok (.iinc 5 1, 3) := by decide +kernel
theorem dX12_entryAt_39 : decode cX12_entryAt 39 = .ok (.goto (-30), 3) := by decide +kernel
theorem dX12_entryAt_42 : decode cX12_entryAt 42 = .ok (.iload_n 1, 1) := by decide +kernel
theorem dX12_entryAt_43 : decode cX12_entryAt 43 = .ok (.bipush 12, 2) := by decide +kernel
theorem dX12_entryAt_45 : decode cX12_entryAt 45 = .ok (.iadd, 1) := by decide +kernel
theorem dX12_entryAt_46 : decode cX12_entryAt 46 = .ok (.istore 5, 2) := by decide +kernel
theorem dX12_entryAt_48 : decode cX12_entryAt 48 = .ok (.iload_n 2, 1) := by decide +kernel
theorem dX12_entryAt_49 : decode cX12_entryAt 49 = .ok (.iconst 1, 1) := by decide +kernel
theorem dX12_entryAt_50 : decode cX12_entryAt 50 = .ok (.if_icmp .ne 86, 3) := by decide +kernel
theorem dX12_entryAt_53 : decode cX12_entryAt 53 = .ok (.aload_n 0, 1) := by decide +kernel
theorem dX12_entryAt_54 : decode cX12_entryAt 54 = .ok (.iload_n 1, 1) := by decide +kernel
theorem dX12_entryAt_55 : decode cX12_entryAt 55 = .ok (.bipush 8, 2) := by decide +kernel
theorem dX12_entryAt_57 : decode cX12_entryAt 57 = .ok (.iadd, 1) := by decide +kernel
theorem dX12_entryAt_58 : decode cX12_entryAt 58 = .ok (.iload 4, 2) := by decide +kernel
theorem dX12_entryAt_60 : decode cX12_entryAt 60 = .ok (.invokevirtual 702, 3) := by decide +kernel
theorem dX12_entryAt_63 : decode cX12_entryAt 63 = .ok (.aload_n 0, 1) := by decide +kernel
theorem dX12_entryAt_64 : decode cX12_entryAt 64 = .ok (.iload_n 1, 1) := by decide +kernel
theorem dX12_entryAt_65 : decode cX12_entryAt 65 = .ok (.bipush 40, 2) := by decide +kernel
theorem dX12_entryAt_67 : decode cX12_entryAt 67 = .ok (.iadd, 1) := by decide +kernel
theorem dX12_entryAt_68 : decode cX12_entryAt 68 = .ok (.bipush 8, 2) := by decide +kernel
theorem dX12_entryAt_70 : decode cX12_entryAt 70 = .ok (.aload_n 0, 1) := by decide +kernel
theorem dX12_entryAt_71 : decode cX12_entryAt 71 = .ok (.getfield 37, 3) := by decide +kernel
theorem dX12_entryAt_74 : decode cX12_entryAt 74 = .ok (.iload 4, 2) := by decide +kernel
theorem dX12_entryAt_76 : decode cX12_entryAt 76 = .ok (.iaload, 1) := by decide +kernel
theorem dX12_entryAt_77 : decode cX12_entryAt 77 = .ok (.i2l, 1) := by decide +kernel
theorem dX12_entryAt_78 : decode cX12_entryAt 78 = .ok (.invokevirtual 376, 3) := by decide +kernel
theorem dX12_entryAt_81 : decode cX12_entryAt 81 = .ok (.aload_n 0, 1) := by decide +kernel
theorem dX12_entryAt_82 : decode cX12_entryAt 82 = .ok (.iload_n 1, 1) := by decide +kernel
theorem dX12_entryAt_83 : decode cX12_entryAt 83 = .ok (.bipush 48, 2) := by decide +kernel
theorem dX12_entryAt_85 : decode cX12_entryAt 85 = .ok (.iadd, 1) := by decide +kernel
theorem dX12_entryAt_86 : decode cX12_entryAt 86 = .ok (.bipush 8, 2) := by decide +kernel
theorem dX12_entryAt_88 : decode cX12_entryAt 88 = .ok (.aload_n 0, 1) := by decide +kernel
theorem dX12_entryAt_89 : decode cX12_entryAt 89 = .ok (.iload 4, 2) := by decide +kernel
theorem dX12_entryAt_91 : decode cX12_entryAt 91 = .ok (.invokevirtual 705, 3) := by decide +kernel
theorem dX12_entryAt_94 : decode cX12_entryAt 94 = .ok (.i2l, 1) := by decide +kernel
theorem dX12_entryAt_95 : decode cX12_entryAt 95 = .ok (.invokevirtual 376, 3) := by decide +kernel
theorem dX12_entryAt_98 : decode cX12_entryAt 98 = .ok (.aload_n 0, 1) := by decide +kernel
theorem dX12_entryAt_99 : decode cX12_entryAt 99 = .ok (.iload_n 1, 1) := by decide +kernel
theorem dX12_entryAt_100 : decode cX12_entryAt 100 = .ok (.bipush 56, 2) := by decide +kernel
theorem dX12_entryAt_102 : decode cX12_entryAt 102 = .ok (.iadd, 1) := by decide +kernel
theorem dX12_entryAt_103 : decode cX12_entryAt 103 = .ok (.iconst 4, 1) := by decide +kernel
theorem dX12_entryAt_104 : decode cX12_entryAt 104 = .ok (.aload_n 0, 1) := by decide +kernel
theorem dX12_entryAt_105 : decode cX12_entryAt 105 = .ok (.iload 4, 2) := by decide +kernel
theorem dX12_entryAt_107 : decode cX12_entryAt 107 = .ok (.invokevirtual 708, 3) := by decide +kernel
theorem dX12_entryAt_110 : decode cX12_entryAt 110 = .ok (.i2l, 1) := by decide +kernel
theorem dX12_entryAt_111 : decode cX12_entryAt 111 = .ok (.invokevirtual 376, 3) := by decide +kernel
theorem dX12_entryAt_114 : decode cX12_entryAt 114 = .ok (.aload_n 0, 1) := by decide +kernel
theorem dX12_entryAt_115 : decode cX12_entryAt 115 = .ok (.iload_n 1, 1) := by decide +kernel
theorem dX12_entryAt_116 : decode cX12_entryAt 116 = .ok (.bipush 60, 2) := by decide +kernel
theorem dX12_entryAt_118 : decode cX12_entryAt 118 = .ok (.iadd, 1) := by decide +kernel
theorem dX12_entryAt_119 : decode cX12_entryAt 119 = .ok (.iconst 4, 1) := by decide +kernel
theorem dX12_entryAt_120 : decode cX12_entryAt 120 = .ok (.iconst 2, 1) := by decide +kernel
theorem dX12_entryAt_121 : decode cX12_entryAt 121 = .ok (.iload_n 3, 1) := by decide +kernel
theorem dX12_entryAt_122 : decode cX12_entryAt 122 = .ok (.imul, 1) := by decide +kernel
theorem dX12_entryAt_123 : decode cX12_entryAt 123 = .ok (.i2l, 1) := by decide +kernel
theorem dX12_entryAt_124 : decode cX12_entryAt 124 = .ok (.invokevirtual 376, 3) := by decide +kernel
theorem dX12_entryAt_127 : decode cX12_entryAt 127 = .ok (.iload_n 1, 1) := by decide +kernel
theorem dX12_entryAt_128 : decode cX12_entryAt 128 = .ok (.bipush 64, 2) := by decide +kernel
theorem dX12_entryAt_130 : decode cX12_entryAt 130 = .ok (.iadd, 1) := by decide +kernel
theorem dX12_entryAt_131 : decode cX12_entryAt 131 = .ok (.istore 5, 2) := by decide +kernel
theorem dX12_entryAt_133 : decode cX12_entryAt 133 = .ok (.goto 16, 3) := by decide +kernel
theorem dX12_entryAt_136 : decode cX12_entryAt 136 = .ok (.aload_n 0, 1) := by decide +kernel
theorem dX12_entryAt_137 : decode cX12_entryAt 137 = .ok (.iload_n 1, 1) := by decide +kernel
theorem dX12_entryAt_138 : decode cX12_entryAt 138 = .ok (.bipush 8, 2) := by decide +kernel
theorem dX12_entryAt_140 : decode cX12_entryAt 140 = .ok (.iadd, 1) := by decide +kernel
theorem dX12_entryAt_141 : decode cX12_entryAt 141 = .ok (.iconst 4, 1) := by decide +kernel
theorem dX12_entryAt_142 : decode cX12_entryAt 142 = .ok (.iconst 2, 1) := by decide +kernel
theorem dX12_entryAt_143 : decode cX12_entryAt 143 = .ok (.iload_n 3, 1) := by decide +kernel
theorem dX12_entryAt_144 : decode cX12_entryAt 144 = .ok (.imul, 1) := by decide +kernel
theorem dX12_entryAt_145 : decode cX12_entryAt 145 = .ok (.i2l, 1) := by decide +kernel
theorem dX12_entryAt_146 : decode cX12_entryAt 146 = .ok (.invokevirtual 376, 3) := by decide +kernel
theorem dX12_entryAt_149 : decode cX12_entryAt 149 = .ok (.iconst 0, 1) := by decide +kernel
theorem dX12_entryAt_150 : decode cX12_entryAt 150 = .ok (.istore 6, 2) := by decide +kernel
theorem dX12_entryAt_152 : decode cX12_entryAt 152 = .ok (.iload 6, 2) := by decide +kernel
theorem dX12_entryAt_154 : decode cX12_entryAt 154 = .ok (.iload_n 3, 1) := by decide +kernel
theorem dX12_entryAt_155 : decode cX12_entryAt 155 = .ok (.if_icmp .ge 49, 3) := by decide +kernel
theorem dX12_entryAt_158 : decode cX12_entryAt 158 = .ok (.aload_n 0, 1) := by decide +kernel
theorem dX12_entryAt_159 : decode cX12_entryAt 159 = .ok (.iload 5, 2) := by decide +kernel
theorem dX12_entryAt_161 : decode cX12_entryAt 161 = .ok (.iconst 2, 1) := by decide +kernel
theorem dX12_entryAt_162 : decode cX12_entryAt 162 = .ok (.iload 6, 2) := by decide +kernel
theorem dX12_entryAt_164 : decode cX12_entryAt 164 = .ok (.imul, 1) := by decide +kernel
theorem dX12_entryAt_165 : decode cX12_entryAt 165 = .ok (.iadd, 1) := by decide +kernel
theorem dX12_entryAt_166 : decode cX12_entryAt 166 = .ok (.iconst 2, 1) := by decide +kernel
theorem dX12_entryAt_167 : decode cX12_entryAt 167 = .ok (.aload_n 0, 1) := by decide +kernel
theorem dX12_entryAt_168 : decode cX12_entryAt 168 = .ok (.getfield 803, 3) := by decide +kernel
theorem dX12_entryAt_171 : decode cX12_entryAt 171 = .ok (.iconst 3, 1) := by decide +kernel
theorem dX12_entryAt_172 : decode cX12_entryAt 172 = .ok (.if_icmp .ge 9, 3) := by decide +kernel
theorem dX12_entryAt_175 : decode cX12_entryAt 175 = .ok (.ldc2_w 832, 3) := by decide +kernel
theorem dX12_entryAt_178 : decode cX12_entryAt 178 = .ok (.goto 17, 3) := by decide +kernel
theorem dX12_entryAt_181 : decode cX12_entryAt 181 = .ok (.aload_n 0, 1) := by decide +kernel
theorem dX12_entryAt_182 : decode cX12_entryAt 182 = .ok (.getfield 24, 3) := by decide +kernel
theorem dX12_entryAt_185 : decode cX12_entryAt 185 = .ok (.bipush 12, 2) := by decide +kernel
theorem dX12_entryAt_187 : decode cX12_entryAt 187 = .ok (.iload 4, 2) := by decide +kernel
theorem dX12_entryAt_189 : decode cX12_entryAt 189 = .ok (.imul, 1) := by decide +kernel
theorem dX12_entryAt_190 : decode cX12_entryAt 190 = .ok (.iload 6, 2) := by decide +kernel
theorem dX12_entryAt_192 : decode cX12_entryAt 192 = .ok (.iadd, 1) := by decide +kernel
theorem dX12_entryAt_193 : decode cX12_entryAt 193 = .ok (.baload, 1) := by decide +kernel
theorem dX12_entryAt_194 : decode cX12_entryAt 194 = .ok (.i2l, 1) := by decide +kernel
theorem dX12_entryAt_195 : decode cX12_entryAt 195 = .ok (.invokevirtual 376, 3) := by decide +kernel
theorem dX12_entryAt_198 : decode cX12_entryAt 198 = .ok (.iinc 6 1, 3) := by decide +kernel
theorem dX12_entryAt_201 : decode cX12_entryAt 201 = .ok (.goto (-49), 3) := by decide +kernel
theorem dX12_entryAt_204 : decode cX12_entryAt 204 = .ok (.return_, 1) := by decide +kernel
set_option maxRecDepth 100000 in
set_option maxHeartbeats 4000000 in
theorem c_X12_entryAt (l : Launch) (D : va_G) (t : Nat → ClassId) (h0 : Nat) (L : Nat → Nat) (σ : HS) (hM : MdI h0 L σ) (a1 : Int32) (a2 : Int32) (a3 : Int32) (post : HS → Prop) (hw : F_X12_entryAt h0 L a1 a2 a3 post σ) (sz : Nat) : RMv l D t yX12_entryAt cX12_entryAt 7 ({ frames := 2, cells := 0, slots := 0, locals := 48 }) h0 L σ sz [.ref h0, .int a1, .int a2, .int a3] post := by
  refine h_go (τ := τT) okT (by decide) (Nat.le_of_ble_eq_true rfl) ?_
  intro p e s m below meth c ls A hF hr hlk hAe hH0 hA hl
  unfold hB
  rw [hAe]
  clear hAe
  have hF : FX p m c cX12_entryAt 7 s _ RX12 D t := hF
  have hx := hF.1.1
  have hb := hF.1.2.1
  have hH : RT D t A s.heap h0 L σ s.heap [] := ⟨hH0, hM⟩
  have hl : lv_has ls 7 [(0, .ref h0), (1, .int a1), (2, .int a2), (3, .int a3)] := hl
  unfold F_X12_entryAt at hw
  refine lv_aload_n hx hb dX12_entryAt_0 rfl (lv_at hl 0 rfl) ?_
  refine w_getI hF hH fk_X12_806 dX12_entryAt_1 hw (fun z1 hw => ?_)
  refine lv_istore (lv' := [(4, .int z1), (0, .ref h0), (1, .int a1), (2, .int a2), (3, .int a3)]) hx hb dX12_entryAt_4 hl (by decide) rfl (fun ls hl => ?_)
  refine lv_iload_n hx hb dX12_entryAt_6 rfl (lv_at hl 2 rfl) ?_
  refine lv_istore (lv' := [(5, .int a1), (4, .int z1), (0, .ref h0), (1, .int a1), (2, .int a2), (3, .int a3)]) hx hb dX12_entryAt_7 hl (by decide) rfl (fun ls hl => ?_)
  have hl : lv_has ls 7 [(5, .int a1), (4, .int z1), (3, .int a3), (2, .int a2), (1, .int a1), (0, .ref h0)] := lv_sub hl [0, 1, 5, 4, 3, 2] rfl
  refine w_loop (β := Int32) (fun x2 => [(5, .int x2), (4, .int z1), (3, .int a3), (2, .int a2), (1, .int a1), (0, .ref h0)]) a1 hl hw hH (fun K4 x2 σ3 ls H locs hl hw hH ih5 => ?_)
  have hl : lv_has ls 7 [(5, .int x2), (4, .int z1), (3, .int a3), (2, .int a2), (1, .int a1), (0, .ref h0)] := hl
  refine lv_iload hx hb dX12_entryAt_9 (lv_at hl 0 rfl) ?_
  refine lv_iload_n hx hb dX12_entryAt_11 rfl (lv_at hl 4 rfl) ?_
  refine lv_iload_n hx hb dX12_entryAt_12 rfl (lv_at hl 3 rfl) ?_
  refine lv_iconst (v := 1) hx hb dX12_entryAt_13 (by decide) ?_
  obtain ⟨K8, hK9, hw⟩ := jn_open hw
  refine w_join (K := K8) 24 (fun (x6 : Int32) => [(5, .int x2), (4, .int z1), (3, .int a3), (2, .int a2), (1, .int a1), (0, .ref h0)]) (fun (x6 : Int32) => [.int x6, .int a1, .int x2]) hl hH (fun x6 σ7 ls H locs hl hw hH => ?_) (fun jn10 => ?_)
  · have hw := hK9 x6 σ7 hw
    have hl : lv_has ls 7 [(5, .int x2), (4, .int z1), (3, .int a3), (2, .int a2), (1, .int a1), (0, .ref h0)] := hl
    refine lv_iadd hx hb dX12_entryAt_24 ?_
    refine w_nmi hw (fun z11 hw => ?_)
    refine w_icmp_ge (tgt := 42) hF dX12_entryAt_25 rfl hw (fun hw => ?_) (fun hw => ?_)
    · refine lv_iload_n hx hb dX12_entryAt_42 rfl (lv_at hl 4 rfl) ?_
      refine lv_bipush (v := 12) hx hb dX12_entryAt_43 (by decide) ?_
      refine lv_iadd hx hb dX12_entryAt_45 ?_
      refine w_nmi hw (fun z12 hw => ?_)
      refine lv_istore (lv' := [(5, .int z12), (4, .int z1), (3, .int a3), (2, .int a2), (1, .int a1), (0, .ref h0)]) hx hb dX12_entryAt_46 hl (by decide) rfl (fun ls hl => ?_)
      refine lv_iload_n hx hb dX12_entryAt_48 rfl (lv_at hl 3 rfl) ?_
      refine lv_iconst (v := 1) hx hb dX12_entryAt_49 (by decide) ?_
      obtain ⟨K15, hK16, hw⟩ := jn_open hw
      refine w_join (K := K15) 149 (fun (x13 : Int32) => [(5, .int x13), (4, .int z1), (3, .int a3), (0, .ref h0)]) (fun (x13 : Int32) => []) hl hH (fun x13 σ14 ls H locs hl hw hH => ?_) (fun jn17 => ?_)
      · have hw := hK16 x13 σ14 hw
        have hl : lv_has ls 7 [(5, .int x13), (4, .int z1), (3, .int a3), (0, .ref h0)] := hl
        refine lv_iconst (v := 0) hx hb dX12_entryAt_149 (by decide) ?_
        refine lv_istore (lv' := [(6, .int 0), (5, .int x13), (4, .int z1), (3, .int a3), (0, .ref h0)]) hx hb dX12_entryAt_150 hl (by decide) rfl (fun ls hl => ?_)
        refine w_loop (β := Int32) (fun x18 => [(6, .int x18), (5, .int x13), (4, .int z1), (3, .int a3), (0, .ref h0)]) 0 hl hw hH (fun K20 x18 σ19 ls H locs hl hw hH ih21 => ?_)
        have hl : lv_has ls 7 [(6, .int x18), (5, .int x13), (4, .int z1), (3, .int a3), (0, .ref h0)] := hl
        refine lv_iload hx hb dX12_entryAt_152 (lv_at hl 0 rfl) ?_
        refine lv_iload_n hx hb dX12_entryAt_154 rfl (lv_at hl 3 rfl) ?_
        refine w_icmp_ge (tgt := 204) hF dX12_entryAt_155 rfl hw (fun hw => ?_) (fun hw => ?_)
        · exact w_retv hF hH hr hlk dX12_entryAt_204 hw
        · refine lv_aload_n hx hb dX12_entryAt_158 rfl (lv_at hl 4 rfl) ?_
          refine lv_iload hx hb dX12_entryAt_159 (lv_at hl 1 rfl) ?_
          refine lv_iconst (v := 2) hx hb dX12_entryAt_161 (by decide) ?_
          refine lv_iload hx hb dX12_entryAt_162 (lv_at hl 0 rfl) ?_
          refine lv_imul hx hb dX12_entryAt_164 ?_
          refine w_nmi hw (fun z22 hw => ?_)
          refine lv_iadd hx hb dX12_entryAt_165 ?_
          refine w_nmi hw (fun z23 hw => ?_)
          refine lv_iconst (v := 2) hx hb dX12_entryAt_166 (by decide) ?_
          refine lv_aload_n hx hb dX12_entryAt_167 rfl (lv_at hl 4 rfl) ?_
          refine w_getI hF hH fk_X12_803 dX12_entryAt_168 hw (fun z24 hw => ?_)
          refine lv_iconst (v := 3) hx hb dX12_entryAt_171 (by decide) ?_
          obtain ⟨K27, hK28, hw⟩ := jn_open hw
          refine w_join (K := K27) 195 (fun (x25 : Int64) => [(6, .int x18), (5, .int x13), (4, .int z1), (3, .int a3), (0, .ref h0)]) (fun (x25 : Int64) => [.long x25, .int 2, .int z23, .ref h0]) hl hH (fun x25 σ26 ls H locs hl hw hH => ?_) (fun jn29 => ?_)
          · have hw := hK28 x25 σ26 hw
            have hl : lv_has ls 7 [(6, .int x18), (5, .int x13), (4, .int z1), (3, .int a3), (0, .ref h0)] := hl
            refine w_cVv (As := [.int z23, .int 2, .long x25]) (rest := []) hF hH hA mv_X12_376 (fun sz => c_X12_set l D t h0 L _ hH.2 z23 2 x25 _ hw sz) dX12_entryAt_195 rfl rfl (by decide) rfl hl.1 (Nat.le_of_ble_eq_true rfl) (by decide) rfl (fun σ30 H locs hw hH => ?_)
            obtain ⟨z32, ez32⟩ : ∃ z : Int32, z = x18 + 1 := ⟨_, rfl⟩
            have hw := hw z32 ez32
            refine lv_iinc (lv' := [(6, .int z32), (5, .int x13), (4, .int z1), (3, .int a3), (0, .ref h0)]) (k := 0) (v := z32) hx hb dX12_entryAt_198 hl rfl ez32.symm (by decide) rfl (fun ls hl => ?_)
            refine lv_goto (tgt := 152) hx hb dX12_entryAt_201 rfl ?_
            exact ih21 z32 σ30 ls _ _ hl hw hH
          · skip
            refine w_icmp_ge (tgt := 181) hF dX12_entryAt_172 rfl hw (fun hw => ?_) (fun hw => ?_)
            · refine lv_aload_n hx hb dX12_entryAt_181 rfl (lv_at hl 4 rfl) ?_
              refine w_getA 4 hF hH fk_X12_24 dX12_entryAt_182 (by decide) rfl ?_
              refine lv_bipush (v := 12) hx hb dX12_entryAt_185 (by decide) ?_
              refine lv_iload hx hb dX12_entryAt_187 (lv_at hl 2 rfl) ?_
              refine lv_imul hx hb dX12_entryAt_189 ?_
              refine w_nmi hw (fun z33 hw => ?_)
              refine lv_iload hx hb dX12_entryAt_190 (lv_at hl 0 rfl) ?_
              refine lv_iadd hx hb dX12_entryAt_192 ?_
              refine w_nmi hw (fun z34 hw => ?_)
              refine w_bald 4 1920 hF hH dX12_entryAt_193 (by decide) rfl rfl hw (fun z35 hw => ?_)
              refine lv_i2l hx hb dX12_entryAt_194 rfl ?_
              refine w_nml hw (fun z36 hw => ?_)
              exact jn29 z36 σ19 ls _ _ hl hw hH
            · refine lv_ldc2 (v := 46) hx hb hF.1.2.2.2.1 (hF.1.2.2.2.2 _ (wc_56 37 rfl)) dX12_entryAt_175 ?_
              refine lv_goto (tgt := 195) hx hb dX12_entryAt_178 rfl ?_
              exact jn29 46 σ19 ls _ _ hl hw hH
      · skip
        refine w_icmp_ne (tgt := 136) hF dX12_entryAt_50 rfl hw (fun hw => ?_) (fun hw => ?_)
        · refine lv_aload_n hx hb dX12_entryAt_136 rfl (lv_at hl 5 rfl) ?_
          refine lv_iload_n hx hb dX12_entryAt_137 rfl (lv_at hl 4 rfl) ?_
          refine lv_bipush (v := 8) hx hb dX12_entryAt_138 (by decide) ?_
          refine lv_iadd hx hb dX12_entryAt_140 ?_
          refine w_nmi hw (fun z37 hw => ?_)
          refine lv_iconst (v := 4) hx hb dX12_entryAt_141 (by decide) ?_
          refine lv_iconst (v := 2) hx hb dX12_entryAt_142 (by decide) ?_
          refine lv_iload_n hx hb dX12_entryAt_143 rfl (lv_at hl 2 rfl) ?_
          refine lv_imul hx hb dX12_entryAt_144 ?_
          refine w_nmi hw (fun z38 hw => ?_)
          refine lv_i2l hx hb dX12_entryAt_145 rfl ?_
          refine w_nml hw (fun z39 hw => ?_)
          refine w_cVv (As := [.int z37, .int 4, .long z39]) (rest := []) hF hH hA mv_X12_376 (fun sz => c_X12_set l D t h0 L _ hH.2 z37 4 z39 _ hw sz) dX12_entryAt_146 rfl rfl (by decide) rfl hl.1 (Nat.le_of_ble_eq_true rfl) (by decide) rfl (fun σ40 H locs hw hH => ?_)
          have hl : lv_has ls 7 [(5, .int z12), (4, .int z1), (3, .int a3), (0, .ref h0)] := lv_sub hl [0, 1, 2, 5] rfl
          exact jn17 z12 σ40 ls _ _ hl hw hH
        · refine lv_aload_n hx hb dX12_entryAt_53 rfl (lv_at hl 5 rfl) ?_
          refine lv_iload_n hx hb dX12_entryAt_54 rfl (lv_at hl 4 rfl) ?_
          refine lv_bipush (v := 8) hx hb dX12_entryAt_55 (by decide) ?_
          refine lv_iadd hx hb dX12_entryAt_57 ?_
          refine w_nmi hw (fun z42 hw => ?_)
          refine lv_iload hx hb dX12_entryAt_58 (lv_at hl 1 rfl) ?_
          refine w_cVv (As := [.int z42, .int z1]) (rest := []) hF hH hA mv_X12_702 (fun sz => c_X12_setTimes l D t h0 L _ hH.2 z42 z1 _ hw sz) dX12_entryAt_60 rfl rfl (by decide) rfl hl.1 (Nat.le_of_ble_eq_true rfl) (by decide) rfl (fun σ43 H locs hw hH => ?_)
          refine lv_aload_n hx hb dX12_entryAt_63 rfl (lv_at hl 5 rfl) ?_
          refine lv_iload_n hx hb dX12_entryAt_64 rfl (lv_at hl 4 rfl) ?_
          refine lv_bipush (v := 40) hx hb dX12_entryAt_65 (by decide) ?_
          refine lv_iadd hx hb dX12_entryAt_67 ?_
          refine w_nmi hw (fun z45 hw => ?_)
          refine lv_bipush (v := 8) hx hb dX12_entryAt_68 (by decide) ?_
          refine lv_aload_n hx hb dX12_entryAt_70 rfl (lv_at hl 5 rfl) ?_
          refine w_getA 8 hF hH fk_X12_37 dX12_entryAt_71 (by decide) rfl ?_
          refine lv_iload hx hb dX12_entryAt_74 (lv_at hl 1 rfl) ?_
          refine w_iald 8 160 hF hH dX12_entryAt_76 (by decide) rfl rfl hw (fun z46 hw => ?_)
          refine lv_i2l hx hb dX12_entryAt_77 rfl ?_
          refine w_nml hw (fun z47 hw => ?_)
          refine w_cVv (As := [.int z45, .int 8, .long z47]) (rest := []) hF hH hA mv_X12_376 (fun sz => c_X12_set l D t h0 L _ hH.2 z45 8 z47 _ hw sz) dX12_entryAt_78 rfl rfl (by decide) rfl hl.1 (Nat.le_of_ble_eq_true rfl) (by decide) rfl (fun σ48 H locs hw hH => ?_)
          refine lv_aload_n hx hb dX12_entryAt_81 rfl (lv_at hl 5 rfl) ?_
          refine lv_iload_n hx hb dX12_entryAt_82 rfl (lv_at hl 4 rfl) ?_
          refine lv_bipush (v := 48) hx hb dX12_entryAt_83 (by decide) ?_
          refine lv_iadd hx hb dX12_entryAt_85 ?_
          refine w_nmi hw (fun z50 hw => ?_)
          refine lv_bipush (v := 8) hx hb dX12_entryAt_86 (by decide) ?_
          refine lv_aload_n hx hb dX12_entryAt_88 rfl (lv_at hl 5 rfl) ?_
          refine lv_iload hx hb dX12_entryAt_89 (lv_at hl 1 rfl) ?_
          refine w_cVi (As := [.int z1]) (rest := [.int 8, .int z50, .ref h0]) hF hH hA mv_X12_705 (fun sz => c_X12_room l D t h0 L _ hH.2 z1 _ hw sz) dX12_entryAt_91 rfl rfl (by decide) rfl hl.1 (Nat.le_of_ble_eq_true rfl) (by decide) rfl (fun z52 σ51 H locs hw hH => ?_)
          refine lv_i2l hx hb dX12_entryAt_94 rfl ?_
          refine w_nml hw (fun z53 hw => ?_)
          refine w_cVv (As := [.int z50, .int 8, .long z53]) (rest := []) hF hH hA mv_X12_376 (fun sz => c_X12_set l D t h0 L _ hH.2 z50 8 z53 _ hw sz) dX12_entryAt_95 rfl rfl (by decide) rfl hl.1 (Nat.le_of_ble_eq_true rfl) (by decide) rfl (fun σ54 H locs hw hH => ?_)
          refine lv_aload_n hx hb dX12_entryAt_98 rfl (lv_at hl 5 rfl) ?_
          refine lv_iload_n hx hb dX12_entryAt_99 rfl (lv_at hl 4 rfl) ?_
          refine lv_bipush (v := 56) hx hb dX12_entryAt_100 (by decide) ?_
          refine lv_iadd hx hb dX12_entryAt_102 ?_
          refine w_nmi hw (fun z56 hw => ?_)
          refine lv_iconst (v := 4) hx hb dX12_entryAt_103 (by decide) ?_
          refine lv_aload_n hx hb dX12_entryAt_104 rfl (lv_at hl 5 rfl) ?_
          refine lv_iload hx hb dX12_entryAt_105 (lv_at hl 1 rfl) ?_
          refine w_cVi (As := [.int z1]) (rest := [.int 4, .int z56, .ref h0]) hF hH hA mv_X12_708 (fun sz => c_X12_shown l D t h0 L _ hH.2 z1 _ hw sz) dX12_entryAt_107 rfl rfl (by decide) rfl hl.1 (Nat.le_of_ble_eq_true rfl) (by decide) rfl (fun z58 σ57 H locs hw hH => ?_)
          refine lv_i2l hx hb dX12_entryAt_110 rfl ?_
          refine w_nml hw (fun z59 hw => ?_)
          refine w_cVv (As := [.int z56, .int 4, .long z59]) (rest := []) hF hH hA mv_X12_376 (fun sz => c_X12_set l D t h0 L _ hH.2 z56 4 z59 _ hw sz) dX12_entryAt_111 rfl rfl (by decide) rfl hl.1 (Nat.le_of_ble_eq_true rfl) (by decide) rfl (fun σ60 H locs hw hH => ?_)
          refine lv_aload_n hx hb dX12_entryAt_114 rfl (lv_at hl 5 rfl) ?_
          refine lv_iload_n hx hb dX12_entryAt_115 rfl (lv_at hl 4 rfl) ?_
          refine lv_bipush (v := 60) hx hb dX12_entryAt_116 (by decide) ?_
          refine lv_iadd hx hb dX12_entryAt_118 ?_
          refine w_nmi hw (fun z62 hw => ?_)
          refine lv_iconst (v := 4) hx hb dX12_entryAt_119 (by decide) ?_
          refine lv_iconst (v := 2) hx hb dX12_entryAt_120 (by decide) ?_
          refine lv_iload_n hx hb dX12_entryAt_121 rfl (lv_at hl 2 rfl) ?_
          refine lv_imul hx hb dX12_entryAt_122 ?_
          refine w_nmi hw (fun z63 hw => ?_)
          refine lv_i2l hx hb dX12_entryAt_123 rfl ?_
          refine w_nml hw (fun z64 hw => ?_)
          refine w_cVv (As := [.int z62, .int 4, .long z64]) (rest := []) hF hH hA mv_X12_376 (fun sz => c_X12_set l D t h0 L _ hH.2 z62 4 z64 _ hw sz) dX12_entryAt_124 rfl rfl (by decide) rfl hl.1 (Nat.le_of_ble_eq_true rfl) (by decide) rfl (fun σ65 H locs hw hH => ?_)
          refine lv_iload_n hx hb dX12_entryAt_127 rfl (lv_at hl 4 rfl) ?_
          refine lv_bipush (v := 64) hx hb dX12_entryAt_128 (by decide) ?_
          refine lv_iadd hx hb dX12_entryAt_130 ?_
          refine w_nmi hw (fun z67 hw => ?_)
          refine lv_istore (lv' := [(5, .int z67), (4, .int z1), (3, .int a3), (2, .int a2), (1, .int a1), (0, .ref h0)]) hx hb dX12_entryAt_131 hl (by decide) rfl (fun ls hl => ?_)
          refine lv_goto (tgt := 149) hx hb dX12_entryAt_133 rfl ?_
          have hl : lv_has ls 7 [(5, .int z67), (4, .int z1), (3, .int a3), (0, .ref h0)] := lv_sub hl [0, 1, 2, 5] rfl
          exact jn17 z67 σ65 ls _ _ hl hw hH
    · refine lv_aload_n hx hb dX12_entryAt_28 rfl (lv_at hl 5 rfl) ?_
      refine lv_iload hx hb dX12_entryAt_29 (lv_at hl 0 rfl) ?_
      refine lv_iconst (v := 1) hx hb dX12_entryAt_31 (by decide) ?_
      refine lv_lconst (v := 0) hx hb dX12_entryAt_32 (by decide) ?_
      refine w_cVv (As := [.int x2, .int 1, .long 0]) (rest := []) hF hH hA mv_X12_376 (fun sz => c_X12_set l D t h0 L _ hH.2 x2 1 0 _ hw sz) dX12_entryAt_33 rfl rfl (by decide) rfl hl.1 (Nat.le_of_ble_eq_true rfl) (by decide) rfl (fun σ68 H locs hw hH => ?_)
      obtain ⟨z70, ez70⟩ : ∃ z : Int32, z = x2 + 1 := ⟨_, rfl⟩
      have hw := hw z70 ez70
      refine lv_iinc (lv' := [(5, .int z70), (4, .int z1), (3, .int a3), (2, .int a2), (1, .int a1), (0, .ref h0)]) (k := 0) (v := z70) hx hb dX12_entryAt_36 hl rfl ez70.symm (by decide) rfl (fun ls hl => ?_)
      refine lv_goto (tgt := 9) hx hb dX12_entryAt_39 rfl ?_
      exact ih5 z70 σ68 ls _ _ hl hw hH
  · skip
    refine w_icmp_ne (tgt := 22) hF dX12_entryAt_14 rfl hw (fun hw => ?_) (fun hw => ?_)
    · refine lv_bipush (v := 12) hx hb dX12_entryAt_22 (by decide) ?_
      exact jn10 12 σ3 ls _ _ hl hw hH
    · refine lv_bipush (v := 64) hx hb dX12_entryAt_17 (by decide) ?_
      refine lv_goto (tgt := 24) hx hb dX12_entryAt_19 rfl ?_
      exact jn10 64 σ3 ls _ _ hl hw hH
def F_X12_remember (h0 : Nat) (L : Nat → Nat) (a1 : Int32) (post : HS → Prop) (σ : HS) : Prop := ∀ z1 : Int32, z1 = sI σ h0 118 → (0 ≤ a1.toInt ∧ a1.toInt < 40) ∧ ∀ σ2 : HS, σ2 = h_uI σ (L 53) a1.toInt.toNat z1 → ∀ z3 : Int32, z3 = sI σ2 h0 118 → jn (fun (K6 : Unit → HS → Prop) => ((¬ z3.toInt = (3 : Int32).toInt) → K6 () σ2) ∧ ((z3.toInt = (3 : Int32).toInt) → ∀ z9 : Int32, z9 = sI σ2 h0 119 → (0 ≤ z9.toInt ∧ z9.toInt < 160) ∧ ∀ z10 : Int32, z10 = sI σ2 (L 5) z9.toInt.toNat → (0 ≤ a1.toInt ∧ a1.toInt < 40) ∧ ∀ σ11 : HS, σ11 = h_uI σ2 (L 55) a1.toInt.toNat z10 → lw (fun (K14 : Int32 → HS → Prop) (x12 : Int32) (σ13 : HS) => (((12 : Int32).toInt ≤ x12.toInt) → K6 () σ13) ∧ ((x12.toInt < (12 : Int32).toInt) → ∀ z16 : Int32, z16 = 12 * a1 → ∀ z17 : Int32, z17 = z16 + x12 → ∀ z18 : Int32, z18 = sI σ13 h0 119 → ∀ z19 : Int32, z19 = 12 * z18 → ∀ z20 : Int32, z20 = z19 + x12 → (0 ≤ z20.toInt ∧ z20.toInt < 1920) ∧ ∀ z21 : Int32, z21 = sI σ13 (L 4) z20.toInt.toNat → (0 ≤ z17.toInt ∧ z17.toInt < 480) ∧ ∀ σ22 : HS, σ22 = h_uI σ13 (L 54) z17.toInt.toNat (vp_nar .byte z21) → ∀ z23 : Int32, z23 = x12 + 1 → K14 z23 σ22)) 0 σ11)) (fun (x4 : Unit) (σ5 : HS) => post σ5)
theorem dX12_remember_0 : decode cX12_remember 0 = .ok (.aload_n 0, 1) := by decide +kernel
theorem dX12_remember_1 : decode cX12_remember 1 = .ok (.getfield 175, 3) := by decide +kernel
theorem dX12_remember_4 : decode cX12_remember 4 = .ok (.iload_n 1, 1) := by decide +kernel
theorem dX12_remember_5 : decode cX12_remember 5 = .ok (.aload_n 0, 1) := by decide +kernel
theorem dX12_remember_6 : decode cX12_remember 6 = .ok (.getfield 803, 3) := by decide +kernel
theorem dX12_remember_9 : decode cX12_remember 9 = .ok (.iastore, 1) := by decide +kernel
theorem dX12_remember_10 : decode cX12_remember 10 = .ok (.aload_n 0, 1) := by decide +kernel
theorem dX12_remember_11 : decode cX12_remember 11 = .ok (.getfield 803, 3) := by decide +kernel
theorem dX12_remember_14 : decode cX12_remember 14 = .ok (.iconst 3, 1) := by decide +kernel
theorem dX12_remember_15 : decode cX12_remember 15 = .ok (.if_icmp .ne 57, 3) := by decide +kernel
theorem dX12_remember_18 : decode cX12_remember 18 = .ok (.aload_n 0, 1) := by decide +kernel
theorem dX12_remember_19 : decode cX12_remember 19 = .ok (.getfield 181, 3) := by decide +kernel
theorem dX12_remember_22 : decode cX12_remember 22 = .ok (.iload_n 1, 1) := by decide +kernel
theorem dX12_remember_23 : decode cX12_remember 23 = .ok (.aload_n 0, 1) := by decide +kernel
theorem dX12_remember_24 : decode cX12_remember 24 = .ok (.getfield 27, 3) := by decide +kernel
theorem dX12_remember_27 : decode cX12_remember 27 = .ok (.aload_n 0, 1) := by decide +kernel
theorem dX12_remember_28 : decode cX12_remember 28 = .ok (.getfield 806, 3) := by decide +kernel
theorem dX12_remember_31 : decode cX12_remember 31 = .ok (.iaload, 1) := by decide +kernel
theorem dX12_remember_32 : decode cX12_remember 32 = .ok (.iastore, 1) := by decide +kernel
theorem dX12_remember_33 : decode cX12_remember 33 = .ok (.iconst 0, 1) := by decide +kernel
theorem dX12_remember_34 : decode cX12_remember 34 = .ok (.istore_n 2, 1) := by decide +kernel
theorem dX12_remember_35 : decode cX12_remember 35 = .ok (.iload_n 2, 1) := by decide +kernel
theorem dX12_remember_36 : decode cX12_remember 36 = .ok (.bipush 12, 2) := by decide +kernel
theorem dX12_remember_38 : decode cX12_remember 38 = .ok (.if_icmp .ge 34, 3) := by decide +kernel
theorem dX12_remember_41 : decode cX12_remember 41 = .ok (.aload_n 0, 1) := by decide +kernel
theorem dX12_remember_42 : decode cX12_remember 42 = .ok (.getfield 178, 3) := by decide +kernel
theorem dX12_remember_45 : decode cX12_remember 45 = .ok (.bipush 12, 2) := by decide +kernel
theorem dX12_remember_47 : decode cX12_remember 47 = .ok (.iload_n 1, 1) := by decide +kernel
theorem dX12_remember_48 : decode cX12_remember 48 = .ok (.imul, 1) := by decide +kernel
theorem dX12_remember_49 : decode cX12_remember 49 = .ok (.iload_n 2, 1) := by decide +kernel
theorem dX12_remember_50 : decode cX12_remember 50 = .ok (.iadd, 1) := by decide +kernel
theorem dX12_remember_51 : decode cX12_remember 51 = .ok (.aload_n 0, 1) := by decide +kernel
theorem dX12_remember_52 : decode cX12_remember 52 = .ok (.getfield 24, 3) := by decide +kernel
theorem dX12_remember_55 : decode cX12_remember 55 = .ok (.bipush 12, 2) := by decide +kernel
theorem dX12_remember_57 : decode cX12_remember 57 = .ok (.aload_n 0, 1) := by decide +kernel
theorem dX12_remember_58 : decode cX12_remember 58 = .ok (.getfield 806, 3) := by decide +kernel
theorem dX12_remember_61 : decode cX12_remember 61 = .ok (.imul, 1) := by decide +kernel
theorem dX12_remember_62 : decode cX12_remember 62 = .ok (.iload_n 2, 1) := by decide +kernel
theorem dX12_remember_63 : decode cX12_remember 63 = .ok (.iadd, 1) := by decide +kernel
theorem dX12_remember_64 : decode cX12_remember 64 = .ok (.baload, 1) := by decide +kernel
theorem dX12_remember_65 : decode cX12_remember 65 = .ok (.bastore, 1) := by decide +kernel
theorem dX12_remember_66 : decode cX12_remember 66 = .ok (.iinc 2 1, 3) := by decide +kernel
theorem dX12_remember_69 : decode cX12_remember 69 = .ok (.goto (-34), 3) := by decide +kernel
theorem dX12_remember_72 : decode cX12_remember 72 = .ok (.return_, 1) := by decide +kernel
set_option maxRecDepth 100000 in
set_option maxHeartbeats 4000000 in
theorem c_X12_remember (l : Launch) (D : va_G) (t : Nat → ClassId) (h0 : Nat) (L : Nat → Nat) (σ : HS) (hM : MdI h0 L σ) (a1 : Int32) (post : HS → Prop) (hw : F_X12_remember h0 L a1 post σ) (sz : Nat) : RMv l D t yX12_remember cX12_remember 3 ({ frames := 0, cells := 0, slots := 0, locals := 0 }) h0 L σ sz [.ref h0, .int a1] post := by
  refine h_go (τ := τT) okT (by decide) (Nat.le_of_ble_eq_true rfl) ?_
  intro p e s m below meth c ls A hF hr hlk hAe hH0 hA hl
  unfold hB
  rw [hAe]
  clear hAe
  have hF : FX p m c cX12_remember 3 s _ RX12 D t := hF
  have hx := hF.1.1
  have hb := hF.1.2.1
  have hH : RT D t A s.heap h0 L σ s.heap [] := ⟨hH0, hM⟩
  have hl : lv_has ls 3 [(0, .ref h0), (1, .int a1)] := hl
  unfold F_X12_remember at hw
  refine lv_aload_n hx hb dX12_remember_0 rfl (lv_at hl 0 rfl) ?_
  refine w_getA 53 hF hH fk_X12_175 dX12_remember_1 (by decide) rfl ?_
  refine lv_iload_n hx hb dX12_remember_4 rfl (lv_at hl 1 rfl) ?_
  refine lv_aload_n hx hb dX12_remember_5 rfl (lv_at hl 0 rfl) ?_
  refine w_getI hF hH fk_X12_803 dX12_remember_6 hw (fun z1 hw => ?_)
  refine w_iast 53 40 hF hH dX12_remember_9 (by decide) rfl rfl hw (fun σ2 H locs hw hH => ?_)
  refine lv_aload_n hx hb dX12_remember_10 rfl (lv_at hl 0 rfl) ?_
  refine w_getI hF hH fk_X12_803 dX12_remember_11 hw (fun z3 hw => ?_)
  refine lv_iconst (v := 3) hx hb dX12_remember_14 (by decide) ?_
  obtain ⟨K6, hK7, hw⟩ := jn_open hw
  refine w_join (K := K6) 72 (fun (x4 : Unit) => []) (fun (x4 : Unit) => []) hl hH (fun x4 σ5 ls H locs hl hw hH => ?_) (fun jn8 => ?_)
  · have hw := hK7 x4 σ5 hw
    have hl : lv_has ls 3 [] := hl
    exact w_retv hF hH hr hlk dX12_remember_72 hw
  · skip
    refine w_icmp_ne (tgt := 72) hF dX12_remember_15 rfl hw (fun hw => ?_) (fun hw => ?_)
    · have hl : lv_has ls 3 [] := lv_sub hl [] rfl
      exact jn8 () σ2 ls _ _ hl hw hH
    · refine lv_aload_n hx hb dX12_remember_18 rfl (lv_at hl 0 rfl) ?_
      refine w_getA 55 hF hH fk_X12_181 dX12_remember_19 (by decide) rfl ?_
      refine lv_iload_n hx hb dX12_remember_22 rfl (lv_at hl 1 rfl) ?_
      refine lv_aload_n hx hb dX12_remember_23 rfl (lv_at hl 0 rfl) ?_
      refine w_getA 5 hF hH fk_X12_27 dX12_remember_24 (by decide) rfl ?_
      refine lv_aload_n hx hb dX12_remember_27 rfl (lv_at hl 0 rfl) ?_
      refine w_getI hF hH fk_X12_806 dX12_remember_28 hw (fun z9 hw => ?_)
      refine w_iald 5 160 hF hH dX12_remember_31 (by decide) rfl rfl hw (fun z10 hw => ?_)
      refine w_iast 55 40 hF hH dX12_remember_32 (by decide) rfl rfl hw (fun σ11 H locs hw hH => ?_)
      refine lv_iconst (v := 0) hx hb dX12_remember_33 (by decide) ?_
      refine lv_istore_n (lv' := [(2, .int 0), (0, .ref h0), (1, .int a1)]) hx hb dX12_remember_34 rfl hl (by decide) rfl (fun ls hl => ?_)
      have hl : lv_has ls 3 [(2, .int 0), (1, .int a1), (0, .ref h0)] := lv_sub hl [0, 2, 1] rfl
      refine w_loop (β := Int32) (fun x12 => [(2, .int x12), (1, .int a1), (0, .ref h0)]) 0 hl hw hH (fun K14 x12 σ13 ls H locs hl hw hH ih15 => ?_)
      have hl : lv_has ls 3 [(2, .int x12), (1, .int a1), (0, .ref h0)] := hl
      refine lv_iload_n hx hb dX12_remember_35 rfl (lv_at hl 0 rfl) ?_
      refine lv_bipush (v := 12) hx hb dX12_remember_36 (by decide) ?_
      refine w_icmp_ge (tgt := 72) hF dX12_remember_38 rfl hw (fun hw => ?_) (fun hw => ?_)
      · have hl : lv_has ls 3 [] := lv_sub hl [] rfl
        exact jn8 () σ13 ls _ _ hl hw hH
      · refine lv_aload_n hx hb dX12_remember_41 rfl (lv_at hl 2 rfl) ?_
        refine w_getA 54 hF hH fk_X12_178 dX12_remember_42 (by decide) rfl ?_
        refine lv_bipush (v := 12) hx hb dX12_remember_45 (by decide) ?_
        refine lv_iload_n hx hb dX12_remember_47 rfl (lv_at hl 1 rfl) ?_
        refine lv_imul hx hb dX12_remember_48 ?_
        refine w_nmi hw (fun z16 hw => ?_)
        refine lv_iload_n hx hb dX12_remember_49 rfl (lv_at hl 0 rfl) ?_
        refine lv_iadd hx hb dX12_remember_50 ?_
        refine w_nmi hw (fun z17 hw => ?_)
        refine lv_aload_n hx hb dX12_remember_51 rfl (lv_at hl 2 rfl) ?_
        refine w_getA 4 hF hH fk_X12_24 dX12_remember_52 (by decide) rfl ?_
        refine lv_bipush (v := 12) hx hb dX12_remember_55 (by decide) ?_
        refine lv_aload_n hx hb dX12_remember_57 rfl (lv_at hl 2 rfl) ?_
        refine w_getI hF hH fk_X12_806 dX12_remember_58 hw (fun z18 hw => ?_)
        refine lv_imul hx hb dX12_remember_61 ?_
        refine w_nmi hw (fun z19 hw => ?_)
        refine lv_iload_n hx hb dX12_remember_62 rfl (lv_at hl 0 rfl) ?_
        refine lv_iadd hx hb dX12_remember_63 ?_
        refine w_nmi hw (fun z20 hw => ?_)
        refine w_bald 4 1920 hF hH dX12_remember_64 (by decide) rfl rfl hw (fun z21 hw => ?_)
        refine w_bast 54 480 hF hH dX12_remember_65 (by decide) rfl rfl hw (fun σ22 H locs hw hH => ?_)
        obtain ⟨z23, ez23⟩ : ∃ z : Int32, z = x12 + 1 := ⟨_, rfl⟩
        have hw := hw z23 ez23
        refine lv_iinc (lv' := [(2, .int z23), (1, .int a1), (0, .ref h0)]) (k := 0) (v := z23) hx hb dX12_remember_66 hl rfl ez23.symm (by decide) rfl (fun ls hl => ?_)
        refine lv_goto (tgt := 35) hx hb dX12_remember_69 rfl ?_
        exact ih15 z23 σ22 ls _ _ hl hw hH
def F_X12_list (h0 : Nat) (L : Nat → Nat)  (post : Int64 → HS → Prop) (σ : HS) : Prop := F_X12_number1 h0 L 66 (fun (z2 : Int32) (σ1 : HS) => F_X12_number1 h0 L 67 (fun (z4 : Int32) (σ3 : HS) => F_X12_number h0 L 92 4 (fun (z6 : Int64) (σ5 : HS) => ∀ z7 : Int32, z7 = sI σ5 h0 100 → jn (fun (K10 : Unit → HS → Prop) => (((1024 : Int64).toInt < z6.toInt) → K10 () σ5) ∧ ((z6.toInt ≤ (1024 : Int64).toInt) → (0 ≤ z7.toInt ∧ z7.toInt < 40) ∧ ∀ z13 : Int32, z13 = sI σ5 (L 43) z7.toInt.toNat → (0 ≤ z13.toInt ∧ z13.toInt < 160) ∧ ∀ z14 : Int32, z14 = sI σ5 (L 3) z13.toInt.toNat → ((¬ z14.toInt = 0) → jn (fun (K17 : Unit → HS → Prop) => ((z2.toInt = (1 : Int32).toInt) → K17 () σ5) ∧ ((¬ z2.toInt = (1 : Int32).toInt) → ((z2.toInt = (12 : Int32).toInt) → K17 () σ5) ∧ ((¬ z2.toInt = (12 : Int32).toInt) → post 3221225475 σ5))) (fun (x15 : Unit) (σ16 : HS) => (0 ≤ z7.toInt ∧ z7.toInt < 40) ∧ ∀ z20 : Int32, z20 = sI σ16 (L 44) z7.toInt.toNat → ∀ z21 : Int32, z21 = z20 &&& 1 → ((¬ z21.toInt = 0) → (0 ≤ z7.toInt ∧ z7.toInt < 40) ∧ ∀ z22 : Int32, z22 = sI σ16 (L 51) z7.toInt.toNat → jn (fun (K25 : Int32 → HS → Prop) => jn (fun (K167 : Unit → HS → Prop) => ((z22.toInt < 0) → K167 () σ16) ∧ ((0 ≤ z22.toInt) → ∀ z170 : Int32, z170 = z4 &&& 1 → ((z170.toInt = 0) → K25 0 σ16) ∧ ((¬ z170.toInt = 0) → K167 () σ16))) (fun (x165 : Unit) (σ166 : HS) => K25 1 σ166)) (fun (x23 : Int32) (σ24 : HS) => jn (fun (K30 : Unit → HS → Prop) => ((x23.toInt = 0) → K30 () σ24) ∧ ((¬ x23.toInt = 0) → F_X12_number2 h0 L 88 (fun (z133 : Int32) (σ132 : HS) => F_X12_number2 h0 L 90 (fun (z135 : Int32) (σ134 : HS) => ∀ z136 : Int32, z136 = z135 - z135 / 2 * 2 → jn (fun (K139 : Unit → HS → Prop) => ((¬ z136.toInt = 0) → K139 () σ134) ∧ ((z136.toInt = 0) → ((z135.toInt ≤ (40 : Int32).toInt) → jn (fun (K144 : Int32 → HS → Prop) => ((¬ z135.toInt = 0) → ∀ z164 : Int32, z164 = z135 / 2 → K144 z164 σ134) ∧ ((z135.toInt = 0) → K144 1 σ134)) (fun (x142 : Int32) (σ143 : HS) => (0 ≤ z7.toInt ∧ z7.toInt < 40) ∧ ∀ σ147 : HS, σ147 = h_uI σ143 (L 51) z7.toInt.toNat x142 → ∀ z148 : Int32, z148 = 20 * z7 → (0 ≤ z148.toInt ∧ z148.toInt < 800) ∧ ∀ σ149 : HS, σ149 = h_uI σ147 (L 52) z148.toInt.toNat 42 → lw (fun (K152 : Int32 → HS → Prop) (x150 : Int32) (σ151 : HS) => ∀ z154 : Int32, z154 = z135 / 2 → ((z154.toInt ≤ x150.toInt) → (0 ≤ z7.toInt ∧ z7.toInt < 40) ∧ ∀ σ155 : HS, σ155 = h_uI σ151 (L 53) z7.toInt.toNat 0 → K30 () σ155) ∧ ((x150.toInt < z154.toInt) → ∀ z156 : Int32, z156 = 20 * z7 → ∀ z157 : Int32, z157 = z156 + x150 → ∀ z158 : Int32, z158 = 2 * x150 → ∀ z159 : Int32, z159 = z133 + z158 → F_X12_number2 h0 L z159 (fun (z161 : Int32) (σ160 : HS) => (0 ≤ z157.toInt ∧ z157.toInt < 800) ∧ ∀ σ162 : HS, σ162 = h_uI σ160 (L 52) z157.toInt.toNat z161 → ∀ z163 : Int32, z163 = x150 + 1 → K152 z163 σ162) σ151)) 0 σ149)) ∧ (((40 : Int32).toInt < z135.toInt) → K139 () σ134))) (fun (x137 : Unit) (σ138 : HS) => post 3221225523 σ138)) σ132) σ24)) (fun (x28 : Unit) (σ29 : HS) => ∀ z33 : Int32, z33 = sI σ29 h0 90 → lw (fun (K36 : (Int32 × Int32 × Int32 × Int32 × Int32) → HS → Prop) (x34 : Int32 × Int32 × Int32 × Int32 × Int32) (σ35 : HS) => jn (fun (K40 : Unit → HS → Prop) => ((x34.2.1.toInt = 0) → K40 () σ35) ∧ ((¬ x34.2.1.toInt = 0) → F_X12_findNext h0 L z7 (fun (z66 : Int32) (σ65 : HS) => ((z66.toInt = 0) → K40 () σ65) ∧ ((¬ z66.toInt = 0) → ∀ z67 : Int32, z67 = sI σ65 h0 118 → jn (fun (K70 : Int32 → HS → Prop) => (((3 : Int32).toInt ≤ z67.toInt) → ∀ z129 : Int32, z129 = sI σ65 h0 119 → (0 ≤ z129.toInt ∧ z129.toInt < 160) ∧ ∀ z130 : Int32, z130 = sI σ65 (L 5) z129.toInt.toNat → K70 z130 σ65) ∧ ((z67.toInt < (3 : Int32).toInt) → ∀ z131 : Int32, z131 = sI σ65 h0 118 → K70 z131 σ65)) (fun (x68 : Int32) (σ69 : HS) => jn (fun (K75 : Int32 → HS → Prop) => ((¬ z2.toInt = (1 : Int32).toInt) → K75 12 σ69) ∧ ((z2.toInt = (1 : Int32).toInt) → K75 64 σ69)) (fun (x73 : Int32) (σ74 : HS) => ∀ z78 : Int32, z78 = 2 * x68 → ∀ z79 : Int32, z79 = x73 + z78 → jn (fun (K82 : Int32 → HS → Prop) => ((0 ≤ x34.2.2.1.toInt) → ∀ z126 : Int32, z126 = x34.2.2.2.1 + 7 → ∀ z127 : Int32, z127 = z126 / 8 → ∀ z128 : Int32, z128 = z127 * 8 → K82 z128 σ74) ∧ ((x34.2.2.1.toInt < 0) → K82 72 σ74)) (fun (x80 : Int32) (σ81 : HS) => ∀ z85 : Int32, z85 = x80 - 72 → ∀ z86 : Int32, z86 = z85 + z79 → ∀ z87 : Int64, z87 = (z86 : Int32).toInt64 → jn (fun (K90 : Int32 → HS → Prop) => ((z6.toInt < z87.toInt) → K90 0 σ81) ∧ ((z87.toInt ≤ z6.toInt) → K90 1 σ81)) (fun (x88 : Int32) (σ89 : HS) => jn (fun (K95 : (Int32 × Int32 × Int32 × Int32) → HS → Prop) => ((x88.toInt = 0) → K95 (x88, x34.2.2.1, x34.2.2.2.1, x34.2.2.2.2) σ89) ∧ ((¬ x88.toInt = 0) → jn (fun (K100 : Unit → HS → Prop) => ((x34.2.2.1.toInt < 0) → K100 () σ89) ∧ ((0 ≤ x34.2.2.1.toInt) → lw (fun (K117 : Int32 → HS → Prop) (x115 : Int32) (σ116 : HS) => ((x80.toInt ≤ x115.toInt) → ∀ z119 : Int32, z119 = x80 - x34.2.2.1 → ∀ z120 : Int64, z120 = (z119 : Int32).toInt64 → F_X12_set h0 L x34.2.2.1 4 z120 (fun (σ121 : HS) => K100 () σ121) σ116) ∧ ((x115.toInt < x80.toInt) → F_X12_set h0 L x115 1 0 (fun (σ123 : HS) => ∀ z125 : Int32, z125 = x115 + 1 → K117 z125 σ123) σ116)) x34.2.2.2.1 σ89)) (fun (x98 : Unit) (σ99 : HS) => F_X12_entryAt h0 L x80 z2 x68 (fun (σ103 : HS) => ∀ z105 : Int32, z105 = x80 + z79 → ∀ z106 : Int32, z106 = x34.2.2.2.2 + 1 → F_X12_remember h0 L z7 (fun (σ107 : HS) => ∀ z109 : Int32, z109 = z4 &&& 2 → jn (fun (K112 : Int32 → HS → Prop) => ((¬ z109.toInt = 0) → K112 0 σ107) ∧ ((z109.toInt = 0) → K112 1 σ107)) (fun (x110 : Int32) (σ111 : HS) => K95 (x110, x80, z105, z106) σ111)) σ103) σ99))) (fun (x93 : Int32 × Int32 × Int32 × Int32) (σ94 : HS) => K36 (1, x93.1, x93.2.1, x93.2.2.1, x93.2.2.2) σ94))))))) σ35)) (fun (x38 : Unit) (σ39 : HS) => ∀ σ43 : HS, σ43 = h_uI σ39 h0 90 z33 → ((¬ x34.2.2.2.2.toInt = 0) → ∀ σ44 : HS, σ44 = h_uI σ43 h0 91 x34.2.2.2.1 → lw (fun (K47 : Int32 → HS → Prop) (x45 : Int32) (σ46 : HS) => (((72 : Int32).toInt ≤ x45.toInt) → F_X12_set h0 L 64 2 9 (fun (σ49 : HS) => F_X12_set h0 L 66 2 72 (fun (σ51 : HS) => ∀ z53 : Int32, z53 = x34.2.2.2.1 - 72 → ∀ z54 : Int64, z54 = (z53 : Int32).toInt64 → F_X12_set h0 L 68 4 z54 (fun (σ55 : HS) => post 0 σ55) σ51) σ49) σ46) ∧ ((x45.toInt < (72 : Int32).toInt) → F_X12_set h0 L x45 1 0 (fun (σ57 : HS) => ∀ z59 : Int32, z59 = x45 + 1 → K47 z59 σ57) σ46)) 64 σ44) ∧ ((x34.2.2.2.2.toInt = 0) → jn (fun (K62 : Int64 → HS → Prop) => ((x34.1.toInt = 0) → ((x23.toInt = 0) → K62 2147483654 σ43) ∧ ((¬ x23.toInt = 0) → K62 3221225487 σ43)) ∧ ((¬ x34.1.toInt = 0) → K62 3221225476 σ43)) (fun (x60 : Int64) (σ61 : HS) => post x60 σ61)))) (0, 1, (-1), 72, 0) σ29))) ∧ ((z21.toInt = 0) → post 3221225506 σ16))) ∧ ((z14.toInt = 0) → K10 () σ5))) (fun (x8 : Unit) (σ9 : HS) => post 3221225485 σ9)) σ3) σ1) σ
theorem dX12_list_0 : decode cX12_list 0 = .ok (.aload_n 0, 1) := by decide +kernel
theorem dX12_list_1 : decode cX12_list 1 = .ok (.bipush 66, 2) := by decide +kernel
theorem dX12_list_3 : decode cX12_list 3 = .ok (.invokevirtual 600, 3) := by decide +kernel
theorem dX12_list_6 : decode cX12_list 6 = .ok (.istore_n 1, 1) := by decide +kernel
theorem dX12_list_7 : decode cX12_list 7 = .ok (.aload_n 0, 1) := by decide +kernel
theorem dX12_list_8 : decode cX12_list 8 = .ok (.bipush 67, 2) := by decide +kernel
theorem dX12_list_10 : decode cX12_list 10 = .ok (.invokevirtual 600, 3) := by decide +kernel
theorem dX12_list_13 : decode cX12_list 13 = .ok (.istore_n 2, 1) := by decide +kernel
theorem dX12_list_14 : decode cX12_list 14 = .ok (.aload_n 0, 1) := by decide +kernel
theorem dX12_list_15 : decode cX12_list 15 = .ok (.bipush 92, 2) := by decide +kernel
theorem dX12_list_17 : decode cX12_list 17 = .ok (.iconst 4, 1) := by decide +kernel
theorem dX12_list_18 : decode cX12_list 18 = .ok (.invokevirtual 364, 3) := by decide +kernel
theorem dX12_list_21 : decode cX12_list 21 = .ok (.lstore_n 3, 1) := by decide +kernel
theorem dX12_list_22 : decode cX12_list 22 = .ok (.aload_n 0, 1) := by decide +kernel
theorem dX12_list_23 : decode cX12_list 23 = .ok (.getfield 525, 3) := by decide +kernel
theorem dX12_list_26 : decode cX12_list 26 = .ok (.istore 5, 2) := by decide +kernel
theorem dX12_list_28 : decode cX12_list 28 = .ok (.lload_n 3, 1) := by decide +kernel
theorem dX12_list_29 : decode cX12_list 29 = .ok (.ldc2_w 490, 3) := by decide +kernel
theorem dX12_list_32 : decode cX12_list 32 = .ok (.lcmp, 1) := by decide +kernel
theorem dX12_list_33 : decode cX12_list 33 = .ok (.ifCond .gt 18, 3) := by decide +kernel
theorem dX12_list_36 : decode cX12_list 36 = .ok (.aload_n 0, 1) := by decide +kernel
theorem dX12_list_37 : decode cX12_list 37 = .ok (.getfield 21, 3) := by decide +kernel
theorem dX12_list_40 : decode cX12_list 40 = .ok (.aload_n 0, 1) := by decide +kernel
theorem dX12_list_41 : decode cX12_list 41 = .ok (.getfield 145, 3) := by decide +kernel
theorem dX12_list_44 : decode cX12_list 44 = .ok (.iload 5, 2) := by decide +kernel
theorem dX12_list_46 : decode cX12_list 46 = .ok (.iaload, 1) := by decide +kernel
theorem dX12_list_47 : decode cX12_list 47 = .ok (.baload, 1) := by decide +kernel
theorem dX12_list_48 : decode cX12_list 48 = .ok (.ifCond .ne 7, 3) := by decide +kernel
theorem dX12_list_51 : decode cX12_list 51 = .ok (.ldc2_w 518, 3) := by decide +kernel
theorem dX12_list_54 : decode cX12_list 54 = .ok (.lreturn, 1) := by decide +kernel
theorem dX12_list_55 : decode cX12_list 55 = .ok (.iload_n 1, 1) := by decide +kernel
theorem dX12_list_56 : decode cX12_list 56 = .ok (.iconst 1, 1) := by decide +kernel
theorem dX12_list_57 : decode cX12_list 57 = .ok (.if_icmp .eq 13, 3) := by decide +kernel
theorem dX12_list_60 : decode cX12_list 60 = .ok (.iload_n 1, 1) := by decide +kernel
theorem dX12_list_61 : decode cX12_list 61 = .ok (.bipush 12, 2) := by decide +kernel
theorem dX12_list_63 : decode cX12_list 63 = .ok (.if_icmp .eq 7, 3) := by decide +kernel
theorem dX12_list_66 : decode cX12_list 66 = .ok (.ldc2_w 815, 3) := by decide +kernel
theorem dX12_list_69 : decode cX12_list 69 = .ok (.lreturn, 1) := by decide +kernel
theorem dX12_list_70 : decode cX12_list 70 = .ok (.aload_n 0, 1) := by decide +kernel
theorem dX12_list_71 : decode cX12_list 71 = .ok (.getfield 148, 3) := by decide +kernel
theorem dX12_list_74 : decode cX12_list 74 = .ok (.iload 5, 2) := by decide +kernel
theorem dX12_list_76 : decode cX12_list 76 = .ok (.iaload, 1) := by decide +kernel
theorem dX12_list_77 : decode cX12_list 77 = .ok (.iconst 1, 1) := by decide +kernel
theorem dX12_list_78 : decode cX12_list 78 = .ok (.iand, 1) := by decide +kernel
theorem dX12_list_79 : decode cX12_list 79 = .ok (.ifCond .ne 7, 3) := by decide +kernel
theorem dX12_list_82 : decode cX12_list 82 = .ok (.ldc2_w 667, 3) := by decide +kernel
theorem dX12_list_85 : decode cX12_list 85 = .ok (.lreturn, 1) := by decide +kernel
theorem dX12_list_86 : decode cX12_list 86 = .ok (.aload_n 0, 1) := by decide +kernel
theorem dX12_list_87 : decode cX12_list 87 = .ok (.getfield 169, 3) := by decide +kernel
theorem dX12_list_90 : decode cX12_list 90 = .ok (.iload 5, 2) := by decide +kernel
theorem dX12_list_92 : decode cX12_list 92 = .ok (.iaload, 1) := by decide +kernel
theorem dX12_list_93 : decode cX12_list 93 = .ok (.ifCond .lt 9, 3) := by decide +kernel
theorem dX12_list_96 : decode cX12_list 96 = .ok (.iload_n 2, 1) := by decide +kernel
theorem dX12_list_97 : decode cX12_list 97 = .ok (.iconst 1, 1) := by decide +kernel
theorem dX12_list_98 : decode cX12_list 98 = .ok (.iand, 1) := by decide +kernel
theorem dX12_list_99 : decode cX12_list 99 = .ok (.ifCond .eq 7, 3) := by decide +kernel
theorem dX12_list_102 : decode cX12_list 102 = .ok (.iconst 1, 1) := by decide +kernel
theorem dX12_list_103 : decode cX12_list 103 = .ok (.goto 4, 3) := by decide +kernel
theorem dX12_list_106 : decode cX12_list 106 = .ok (.iconst 0, 1) := by decide +kernel
theorem dX12_list_107 : decode cX12_list 107 = .ok (.istore 6, 2) := by decide +kernel
theorem dX12_list_109 : decode cX12_list 109 = .ok (.iload 6, 2) := by decide +kernel
theorem dX12_list_111 : decode cX12_list 111 = .ok (.ifCond .eq 119, 3) := by decide +kernel
theorem dX12_list_114 : decode cX12_list 114 = .ok (.aload_n 0, 1) := by decide +kernel
theorem dX12_list_115 : decode cX12_list 115 = .ok (.bipush 88, 2) := by decide +kernel
theorem dX12_list_117 : decode cX12_list 117 = .ok (.invokevirtual 415, 3) := by decide +kernel
theorem dX12_list_120 : decode cX12_list 120 = .ok (.istore 7, 2) := by decide +kernel
theorem dX12_list_122 : decode cX12_list 122 = .ok (.aload_n 0, 1) := by decide +kernel
theorem dX12_list_123 : decode cX12_list 123 = .ok (.bipush 90, 2) := by decide +kernel
theorem dX12_list_125 : decode cX12_list 125 = .ok (.invokevirtual 415, 3) := by decide +kernel
theorem dX12_list_128 : decode cX12_list 128 = .ok (.istore 8, 2) := by decide +kernel
theorem dX12_list_130 : decode cX12_list 130 = .ok (.iload 8, 2) := by decide +kernel
theorem dX12_list_132 : decode cX12_list 132 = .ok (.iconst 2, 1) := by decide +kernel
theorem dX12_list_133 : decode cX12_list 133 = .ok (.irem, 1) := by decide +kernel
theorem dX12_list_134 : decode cX12_list 134 = .ok (.ifCond .ne 10, 3) := by decide +kernel
theorem dX12_list_137 : decode cX12_list 137 = .ok (.iload 8, 2) := by decide +kernel
theorem dX12_list_139 : decode cX12_list 139 = .ok (.bipush 40, 2) := by decide +kernel
theorem dX12_list_141 : decode cX12_list 141 = .ok (.if_icmp .le 7, 3) := by decide +kernel
theorem dX12_list_144 : decode cX12_list 144 = .ok (.ldc2_w 672, 3) := by decide +kernel
theorem dX12_list_147 : decode cX12_list 147 = .ok (.lreturn, 1) := by decide +kernel
theorem dX12_list_148 : decode cX12_list 148 = .ok (.aload_n 0, 1) := by decide +kernel
theorem dX12_list_149 : decode cX12_list 149 = .ok (.getfield 169, 3) := by decide +kernel
theorem dX12_list_152 : decode cX12_list 152 = .ok (.iload 5, 2) := by decide +kernel
theorem dX12_list_154 : decode cX12_list 154 = .ok (.iload 8, 2) := by decide +kernel
theorem dX12_list_156 : decode cX12_list 156 = .ok (.ifCond .ne 7, 3) := by decide +kernel
theorem dX12_list_159 : decode cX12_list 159 = .ok (.iconst 1, 1) := by decide +kernel
theorem dX12_list_160 : decode cX12_list 160 = .ok (.goto 7, 3) := by decide +kernel
theorem dX12_list_163 : decode cX12_list 163 = .ok (.iload 8, 2) := by decide +kernel
theorem dX12_list_165 : decode cX12_list 165 = .ok (.iconst 2, 1) := by decide +kernel
theorem dX12_list_166 : decode cX12_list 166 = .ok (.idiv, 1) := by decide +kernel
theorem dX12_list_167 : decode cX12_list 167 = .ok (.iastore, 1) := by decide +kernel
theorem dX12_list_168 : decode cX12_list 168 = .ok (.aload_n 0, 1) := by decide +kernel
theorem dX12_list_169 : decode cX12_list 169 = .ok (.getfield 172, 3) := by decide +kernel
theorem dX12_list_172 : decode cX12_list 172 = .ok (.bipush 20, 2) := by decide +kernel
theorem dX12_list_174 : decode cX12_list 174 = .ok (.iload 5, 2) := by decide +kernel
theorem dX12_list_176 : decode cX12_list 176 = .ok (.imul, 1) := by decide +kernel
theorem dX12_list_177 : decode cX12_list 177 = .ok (.bipush 42, 2) := by decide +kernel
theorem dX12_list_179 : decode cX12_list 179 = .ok (.iastore, 1) := by decide +kernel
theorem dX12_list_180 : decode cX12_list 180 = .ok (.iconst 0, 1) := by decide +kernel
theorem dX12_list_181 : decode cX12_list 181 = .ok (.istore 9, 2) := by decide +kernel
theorem dX12_list_183 : decode cX12_list 183 = .ok (.iload 9, 2) := by decide +kernel
theorem dX12_list_185 : decode cX12_list 185 = .ok (.iload 8, 2) := by decide +kernel
theorem dX12_list_187 : decode cX12_list 187 = .ok (.iconst 2, 1) := by decide +kernel
theorem dX12_list_188 : decode cX12_list 188 = .ok (.idiv, 1) := by decide +kernel
theorem dX12_list_189 : decode cX12_list 189 = .ok (.if_icmp .ge 33, 3) := by decide +kernel
theorem dX12_list_192 : decode cX12_list 192 = .ok (.aload_n 0, 1) := by decide +kernel
theorem dX12_list_193 : decode cX12_list 193 = .ok (.getfield 172, 3) := by decide +kernel
theorem dX12_list_196 : decode cX12_list 196 = .ok (.bipush 20, 2) := by decide +kernel
theorem dX12_list_198 : decode cX12_list 198 = .ok (.iload 5, 2) := by decide +kernel
theorem dX12_list_200 : decode cX12_list 200 = .ok (.imul, 1) := by decide +kernel
theorem dX12_list_201 : decode cX12_list 201 = .ok (.iload 9, 2) := by decide +kernel
theorem dX12_list_203 : decode cX12_list 203 = .ok (.iadd, 1) := by decide +kernel
theorem dX12_list_204 : decode cX12_list 204 = .ok (.aload_n 0, 1) := by decide +kernel
theorem dX12_list_205 : decode cX12_list 205 = .ok (.iload 7, 2) := by decide +kernel
theorem dX12_list_207 : decode cX12_list 207 = .ok (.iconst 2, 1) := by decide +kernel
theorem dX12_list_208 : decode cX12_list 208 = .ok (.iload 9, 2) := by decide +kernel
theorem dX12_list_210 : decode cX12_list 210 = .ok (.imul, 1) := by decide +kernel
theorem dX12_list_211 : decode cX12_list 211 = .ok (.iadd, 1) := by decide +kernel
theorem dX12_list_212 : decode cX12_list 212 = .ok (.invokevirtual 415, 3) := by decide +kernel
theorem dX12_list_215 : decode cX12_list 215 = .ok (.iastore, 1) := by decide +kernel
theorem dX12_list_216 : decode cX12_list 216 = .ok (.iinc 9 1, 3) := by decide +kernel
theorem dX12_list_219 : decode cX12_list 219 = .ok (.goto (-36), 3) := by decide +kernel
theorem dX12_list_222 : decode cX12_list 222 = .ok (.aload_n 0, 1) := by decide +kernel
theorem dX12_list_223 : decode cX12_list 223 = .ok (.getfield 175, 3) := by decide +kernel
theorem dX12_list_226 : decode cX12_list 226 = .ok (.iload 5, 2) := by decide +kernel
theorem dX12_list_228 : decode cX12_list 228 = .ok (.iconst 0, 1) := by decide +kernel
theorem dX12_list_229 : decode cX12_list 229 = .ok (.iastore, 1) := by decide +kernel
theorem dX12_list_230 : decode cX12_list 230 = .ok (.iconst 0, 1) := by decide +kernel
theorem dX12_list_231 : decode cX12_list 231 = .ok (.istore 7, 2) := by decide +kernel
theorem dX12_list_233 : decode cX12_list 233 = .ok (.bipush 72, 2) := by decide +kernel
theorem dX12_list_235 : decode cX12_list 235 = .ok (.istore 8, 2) := by decide +kernel
theorem dX12_list_237 : decode cX12_list 237 = .ok (.iconst (-1), 1) := by decide +kernel
theorem dX12_list_238 : decode cX12_list 238 = .ok (.istore 9, 2) := by decide +kernel
theorem dX12_list_240 : decode cX12_list 240 = .ok (.iconst 1, 1) := by decide +kernel
theorem dX12_list_241 : decode cX12_list 241 = .ok (.istore 10, 2) := by decide +kernel
theorem dX12_list_243 : decode cX12_list 243 = .ok (.iconst 0, 1) := by decide +kernel
theorem dX12_list_244 : decode cX12_list 244 = .ok (.istore 11, 2) := by decide +kernel
theorem dX12_list_246 : decode cX12_list 246 = .ok (.aload_n 0, 1) := by decide +kernel
theorem dX12_list_247 : decode cX12_list 247 = .ok (.getfield 368, 3) := by decide +kernel
theorem dX12_list_250 : decode cX12_list 250 = .ok (.istore 12, 2) := by decide +kernel
theorem dX12_list_252 : decode cX12_list 252 = .ok (.iload 10, 2) := by decide +kernel
theorem dX12_list_254 : decode cX12_list 254 = .ok (.ifCond .eq 197, 3) := by decide +kernel
theorem dX12_list_257 : decode cX12_list 257 = .ok (.aload_n 0, 1) := by decide +kernel
theorem dX12_list_258 : decode cX12_list 258 = .ok (.iload 5, 2) := by decide +kernel
theorem dX12_list_260 : decode cX12_list 260 = .ok (.invokevirtual 817, 3) := by decide +kernel
theorem dX12_list_263 : decode cX12_list 263 = .ok (.ifCond .eq 188, 3) := by decide +kernel
theorem dX12_list_266 : decode cX12_list 266 = .ok (.iconst 1, 1) := by decide +kernel
theorem dX12_list_267 : decode cX12_list 267 = .ok (.istore 11, 2) := by decide +kernel
theorem dX12_list_269 : decode cX12_list 269 = .ok (.aload_n 0, 1) := by decide +kernel
theorem dX12_list_270 : decode cX12_list 270 = .ok (.getfield 803, 3) := by decide +kernel
theorem dX12_list_273 : decode cX12_list 273 = .ok (.iconst 3, 1) := by decide +kernel
theorem dX12_list_274 : decode cX12_list 274 = .ok (.if_icmp .ge 10, 3) := by decide +kernel
theorem dX12_list_277 : decode cX12_list 277 = .ok (.aload_n 0, 1) := by decide +kernel
theorem dX12_list_278 : decode cX12_list 278 = .ok (.getfield 803, 3) := by decide +kernel
theorem dX12_list_281 : decode cX12_list 281 = .ok (.goto 12, 3) := by decide +kernel
theorem dX12_list_284 : decode cX12_list 284 = .ok (.aload_n 0, 1) := by decide +kernel
theorem dX12_list_285 : decode cX12_list 285 = .ok (.getfield 27, 3) := by decide +kernel
theorem dX12_list_288 : decode cX12_list 288 = .ok (.aload_n 0, 1) := by decide +kernel
theorem dX12_list_289 : decode cX12_list 289 = .ok (.getfield 806, 3) := by decide +kernel
theorem dX12_list_292 : decode cX12_list 292 = .ok (.iaload, 1) := by decide +kernel
theorem dX12_list_293 : decode cX12_list 293 = .ok (.istore 13, 2) := by decide +kernel
theorem dX12_list_295 : decode cX12_list 295 = .ok (.iload_n 1, 1) := by decide +kernel
theorem dX12_list_296 : decode cX12_list 296 = .ok (.iconst 1, 1) := by decide +kernel
theorem dX12_list_297 : decode cX12_list 297 = .ok (.if_icmp .ne 8, 3) := by decide +kernel
theorem dX12_list_300 : decode cX12_list 300 = .ok (.bipush 64, 2) := by decide +kernel
theorem dX12_list_302 : decode cX12_list 302 = .ok (.goto 5, 3) := by decide +kernel
theorem dX12_list_305 : decode cX12_list 305 = .ok (.bipush 12, 2) := by decide +kernel
theorem dX12_list_307 : decode cX12_list 307 = .ok (.iconst 2, 1) := by decide +kernel
theorem dX12_list_308 : decode cX12_list 308 = .ok (.iload 13, 2) := by decide +kernel
theorem dX12_list_310 : decode cX12_list 310 = .ok (.imul, 1) := by decide +kernel
theorem dX12_list_311 : decode cX12_list 311 = .ok (.iadd, 1) := by decide +kernel
theorem dX12_list_312 : decode cX12_list 312 = .ok (.istore 14, 2) := by decide +kernel
theorem dX12_list_314 : decode cX12_list 314 = .ok (.iload 9, 2) := by decide +kernel
theorem dX12_list_316 : decode cX12_list 316 = .ok (.ifCond .ge 8, 3) := by decide +kernel
theorem dX12_list_319 : decode cX12_list 319 = .ok (.bipush 72, 2) := by decide +kernel
theorem dX12_list_321 : decode cX12_list 321 = .ok (.goto 14, 3) := by decide +kernel
theorem dX12_list_324 : decode cX12_list 324 = .ok (.iload 8, 2) := by decide +kernel
theorem dX12_list_326 : decode cX12_list 326 = .ok (.bipush 7, 2) := by decide +kernel
theorem dX12_list_328 : decode cX12_list 328 = .ok (.iadd, 1) := by decide +kernel
theorem dX12_list_329 : decode cX12_list 329 = .ok (.bipush 8, 2) := by decide +kernel
theorem dX12_list_331 : decode cX12_list 331 = .ok (.idiv, 1) := by decide +kernel
theorem dX12_list_332 : decode cX12_list 332 = .ok (.bipush 8, 2) := by decide +kernel
theorem dX12_list_334 : decode cX12_list 334 = .ok (.imul, 1) := by decide +kernel
theorem dX12_list_335 : decode cX12_list 335 = .ok (.istore 15, 2) := by decide +kernel
theorem dX12_list_337 : decode cX12_list 337 = .ok (.iload 15, 2) := by decide +kernel
theorem dX12_list_339 : decode cX12_list 339 = .ok (.bipush 72, 2) := by decide +kernel
theorem dX12_list_341 : decode cX12_list 341 = .ok (.isub, 1) := by decide +kernel
theorem dX12_list_342 : decode cX12_list 342 = .ok (.iload 14, 2) := by decide +kernel
theorem dX12_list_344 : decode cX12_list 344 = .ok (.iadd, 1) := by decide +kernel
theorem dX12_list_345 : decode cX12_list 345 = .ok (.i2l, 1) := by decide +kernel
theorem dX12_list_346 : decode cX12_list 346 = .ok (.lload_n 3, 1) := by decide +kernel
theorem dX12_list_347 : decode cX12_list 347 = .ok (.lcmp, 1) := by decide +kernel
theorem dX12_list_348 : decode cX12_list 348 = .ok (.ifCond .gt 7, 3) := by decide +kernel
theorem dX12_list_351 : decode cX12_list 351 = .ok (.iconst 1, 1) := by decide +kernel
theorem dX12_list_352 : decode cX12_list 352 = .ok (.goto 4, 3) := by decide +kernel
theorem dX12_list_355 : decode cX12_list 355 = .ok (.iconst 0, 1) := by decide +kernel
theorem dX12_list_356 : decode cX12_list 356 = .ok (.istore 10, 2) := by decide +kernel
theorem dX12_list_358 : decode cX12_list 358 = .ok (.iload 10, 2) := by decide +kernel
theorem dX12_list_360 : decode cX12_list 360 = .ok (.ifCond .eq 88, 3) := by decide +kernel
theorem dX12_list_363 : decode cX12_list 363 = .ok (.iload 9, 2) := by decide +kernel
theorem dX12_list_365 : decode cX12_list 365 = .ok (.ifCond .lt 41, 3) := by decide +kernel
theorem dX12_list_368 : decode cX12_list 368 = .ok (.iload 8, 2) := by decide +kernel
theorem dX12_list_370 : decode cX12_list 370 = .ok (.istore 16, 2) := by decide +kernel
theorem dX12_list_372 : decode cX12_list 372 = .ok (.iload 16, 2) := by decide +kernel
theorem dX12_list_374 : decode cX12_list 374 = .ok (.iload 15, 2) := by decide +kernel
theorem dX12_list_376 : decode cX12_list 376 = .ok (.if_icmp .ge 17, 3) := by decide +kernel
theorem dX12_list_379 : decode cX12_list 379 = .ok (.aload_n 0, 1) := by decide +kernel
theorem dX12_list_380 : decode cX12_list 380 = .ok (.iload 16, 2) := by decide +kernel
theorem dX12_list_382 : decode cX12_list 382 = .ok (.iconst 1, 1) := by decide +kernel
theorem dX12_list_383 : decode cX12_list 383 = .ok (.lconst 0, 1) := by decide +kernel
theorem dX12_list_384 : decode cX12_list 384 = .ok (.invokevirtual 376, 3) := by decide +kernel
theorem dX12_list_387 : decode cX12_list 387 = .ok (.iinc 16 1, 3) := by decide +kernel
theorem dX12_list_390 : decode cX12_list 390 = .ok (.goto (-18), 3) := by decide +kernel
theorem dX12_list_393 : decode cX12_list 393 = .ok (.aload_n 0, 1) := by decide +kernel
theorem dX12_list_394 : decode cX12_list 394 = .ok (.iload 9, 2) := by decide +kernel
theorem dX12_list_396 : decode cX12_list 396 = .ok (.iconst 4, 1) := by decide +kernel
theorem dX12_list_397 : decode cX12_list 397 = .ok (.iload 15, 2) := by decide +kernel
theorem dX12_list_399 : decode cX12_list 399 = .ok (.iload 9, 2) := by decide +kernel
theorem dX12_list_401 : decode cX12_list 401 = .ok (.isub, 1) := by decide +kernel
theorem dX12_list_402 : decode cX12_list 402 = .ok (.i2l, 1) := by decide +kernel
theorem dX12_list_403 : decode cX12_list 403 = .ok (.invokevirtual 376, 3) := by decide +kernel
theorem dX12_list_406 : decode cX12_list 406 = .ok (.aload_n 0, 1) := by decide +kernel
theorem dX12_list_407 : decode cX12_list 407 = .ok (.iload 15, 2) := by decide +kernel
theorem dX12_list_409 : decode cX12_list 409 = .ok (.iload_n 1, 1) := by decide +kernel
theorem dX12_list_410 : decode cX12_list 410 = .ok (.iload 13, 2) := by decide +kernel
theorem dX12_list_412 : decode cX12_list 412 = .ok (.invokevirtual 820, 3) := by decide +kernel
theorem dX12_list_415 : decode cX12_list 415 = .ok (.iload 15, 2) := by decide +kernel
theorem dX12_list_417 : decode cX12_list 417 = .ok (.istore 9, 2) := by decide +kernel
theorem dX12_list_419 : decode cX12_list 419 = .ok (.iload 15, 2) := by decide +kernel
theorem dX12_list_421 : decode cX12_list 421 = .ok (.iload 14, 2) := by decide +kernel
theorem dX12_list_423 : decode cX12_list 423 = .ok (.iadd, 1) := by decide +kernel
theorem dX12_list_424 : decode cX12_list 424 = .ok (.istore 8, 2) := by decide +kernel
theorem dX12_list_426 : decode cX12_list 426 = .ok (.iinc 7 1, 3) := by decide +kernel
theorem dX12_list_429 : decode cX12_list 429 = .ok (.aload_n 0, 1) := by decide +kernel
theorem dX12_list_430 : decode cX12_list 430 = .ok (.iload 5, 2) := by decide +kernel
theorem dX12_list_432 : decode cX12_list 432 = .ok (.invokevirtual 823, 3) := by decide +kernel
theorem dX12_list_435 : decode cX12_list 435 = .ok (.iload_n 2, 1) := by decide +kernel
theorem dX12_list_436 : decode cX12_list 436 = .ok (.iconst 2, 1) := by decide +kernel
theorem dX12_list_437 : decode cX12_list 437 = .ok (.iand, 1) := by decide +kernel
theorem dX12_list_438 : decode cX12_list 438 = .ok (.ifCond .ne 7, 3) := by decide +kernel
theorem dX12_list_441 : decode cX12_list 441 = .ok (.iconst 1, 1) := by decide +kernel
theorem dX12_list_442 : decode cX12_list 442 = .ok (.goto 4, 3) := by decide +kernel
theorem dX12_list_445 : decode cX12_list 445 = .ok (.iconst 0, 1) := by decide +kernel
theorem dX12_list_446 : decode cX12_list 446 = .ok (.istore 10, 2) := by decide +kernel
theorem dX12_list_448 : decode cX12_list 448 = .ok (.goto (-196), 3) := by decide +kernel
theorem dX12_list_451 : decode cX12_list 451 = .ok (.aload_n 0, 1) := by decide +kernel
theorem dX12_list_452 : decode cX12_list 452 = .ok (.iload 12, 2) := by decide +kernel
theorem dX12_list_454 : decode cX12_list 454 = .ok (.putfield 368, 3) := by decide +kernel
theorem dX12_list_457 : decode cX12_list 457 = .ok (.iload 7, 2) := by decide +kernel
theorem dX12_list_459 : decode cX12_list 459 = .ok (.ifCond .ne 29, 3) := by decide +kernel
theorem dX12_list_462 : decode cX12_list 462 = .ok (.iload 11, 2) := by decide +kernel
theorem dX12_list_464 : decode cX12_list 464 = .ok (.ifCond .eq 9, 3) := by decide +kernel
theorem dX12_list_467 : decode cX12_list 467 = .ok (.ldc2_w 826, 3) := by decide +kernel
theorem dX12_list_470 : decode cX12_list 470 = .ok (.goto 17, 3) := by decide +kernel
theorem dX12_list_473 : decode cX12_list 473 = .ok (.iload 6, 2) := by decide +kernel
theorem dX12_list_475 : decode cX12_list 475 = .ok (.ifCond .eq 9, 3) := by decide +kernel
theorem dX12_list_478 : decode cX12_list 478 = .ok (.ldc2_w 828, 3) := by decide +kernel
theorem dX12_list_481 : decode cX12_list 481 = .ok (.goto 6, 3) := by decide +kernel
theorem dX12_list_484 : decode cX12_list 484 = .ok (.ldc2_w 830, 3) := by decide +kernel
theorem dX12_list_487 : decode cX12_list 487 = .ok (.lreturn, 1) := by decide +kernel
theorem dX12_list_488 : decode cX12_list 488 = .ok (.aload_n 0, 1) := by decide +kernel
theorem dX12_list_489 : decode cX12_list 489 = .ok (.iload 8, 2) := by decide +kernel
theorem dX12_list_491 : decode cX12_list 491 = .ok (.putfield 371, 3) := by decide +kernel
theorem dX12_list_494 : decode cX12_list 494 = .ok (.bipush 64, 2) := by decide +kernel
theorem dX12_list_496 : decode cX12_list 496 = .ok (.istore 13, 2) := by decide +kernel
theorem dX12_list_498 : decode cX12_list 498 = .ok (.iload 13, 2) := by decide +kernel
theorem dX12_list_500 : decode cX12_list 500 = .ok (.bipush 72, 2) := by decide +kernel
theorem dX12_list_502 : decode cX12_list 502 = .ok (.if_icmp .ge 17, 3) := by decide +kernel
theorem dX12_list_505 : decode cX12_list 505 = .ok (.aload_n 0, 1) := by decide +kernel
theorem dX12_list_506 : decode cX12_list 506 = .ok (.iload 13, 2) := by decide +kernel
theorem dX12_list_508 : decode cX12_list 508 = .ok (.iconst 1, 1) := by decide +kernel
theorem dX12_list_509 : decode cX12_list 509 = .ok (.lconst 0, 1) := by decide +kernel
theorem dX12_list_510 : decode cX12_list 510 = .ok (.invokevirtual 376, 3) := by decide +kernel
theorem dX12_list_513 : decode cX12_list 513 = .ok (.iinc 13 1, 3) := by decide +kernel
theorem dX12_list_516 : decode cX12_list 516 = .ok (.goto (-18), 3) := by decide +kernel
theorem dX12_list_519 : decode cX12_list 519 = .ok (.aload_n 0, 1) := by decide +kernel
theorem dX12_list_520 : decode cX12_list 520 = .ok (.bipush 64, 2) := by decide +kernel
theorem dX12_list_522 : decode cX12_list 522 = .ok (.iconst 2, 1) := by decide +kernel
theorem dX12_list_523 : decode cX12_list 523 = .ok (.ldc2_w 459, 3) := by decide +kernel
theorem dX12_list_526 : decode cX12_list 526 = .ok (.invokevirtual 376, 3) := by decide +kernel
theorem dX12_list_529 : decode cX12_list 529 = .ok (.aload_n 0, 1) := by decide +kernel
theorem dX12_list_530 : decode cX12_list 530 = .ok (.bipush 66, 2) := by decide +kernel
theorem dX12_list_532 : decode cX12_list 532 = .ok (.iconst 2, 1) := by decide +kernel
theorem dX12_list_533 : decode cX12_list 533 = .ok (.ldc2_w 609, 3) := by decide +kernel
theorem dX12_list_536 : decode cX12_list 536 = .ok (.invokevirtual 376, 3) := by decide +kernel
theorem dX12_list_539 : decode cX12_list 539 = .ok (.aload_n 0, 1) := by decide +kernel
theorem dX12_list_540 : decode cX12_list 540 = .ok (.bipush 68, 2) := by decide +kernel
theorem dX12_list_542 : decode cX12_list 542 = .ok (.iconst 4, 1) := by decide +kernel
theorem dX12_list_543 : decode cX12_list 543 = .ok (.iload 8, 2) := by decide +kernel
theorem dX12_list_545 : decode cX12_list 545 = .ok (.bipush 72, 2) := by decide +kernel
theorem dX12_list_547 : decode cX12_list 547 = .ok (.isub, 1) := by decide +kernel
theorem dX12_list_548 : decode cX12_list 548 = .ok (.i2l, 1) := by decide +kernel
theorem dX12_list_549 : decode cX12_list 549 = .ok (.invokevirtual 376, 3) := by decide +kernel
theorem dX12_list_552 : decode cX12_list 552 = .ok (.lconst 0, 1) := by decide +kernel
theorem dX12_list_553 : decode cX12_list 553 = .ok (.lreturn, 1) := by decide +kernel
set_option maxRecDepth 100000 in
set_option maxHeartbeats 4000000 in
theorem c_X12_list (l : Launch) (D : va_G) (t : Nat → ClassId) (h0 : Nat) (L : Nat → Nat) (σ : HS) (hM : MdI h0 L σ)  (post : Int64 → HS → Prop) (hw : F_X12_list h0 L  post σ) (sz : Nat) : RMl l D t yX12_list cX12_list 17 (some .long) ({ frames := 3, cells := 0, slots := 0, locals := 75 }) h0 L σ sz [.ref h0] post := by
  refine h_go (τ := τT) okT (by decide) (Nat.le_of_ble_eq_true rfl) ?_
  intro p e s m below meth c ls A hF hr hlk hAe hH0 hA hl
  unfold hB
  rw [hAe]
  clear hAe
  have hF : FX p m c cX12_list 17 s _ RX12 D t := hF
  have hx := hF.1.1
  have hb := hF.1.2.1
  have hH : RT D t A s.heap h0 L σ s.heap [] := ⟨hH0, hM⟩
  have hl : lv_has ls 17 [(0, .ref h0)] := hl
  unfold F_X12_list at hw
  refine lv_aload_n hx hb dX12_list_0 rfl (lv_at hl 0 rfl) ?_
  refine lv_bipush (v := 66) hx hb dX12_list_1 (by decide) ?_
  refine w_cVi (As := [.int 66]) (rest := []) hF hH hA mv_X12_600 (fun sz => c_X12_number1 l D t h0 L _ hH.2 66 _ hw sz) dX12_list_3 rfl rfl (by decide) rfl hl.1 (Nat.le_of_ble_eq_true rfl) (by decide) rfl (fun z2 σ1 H locs hw hH => ?_)
  refine lv_istore_n (lv' := [(1, .int z2), (0, .ref h0)]) hx hb dX12_list_6 rfl hl (by decide) rfl (fun ls hl => ?_)
  refine lv_aload_n hx hb dX12_list_7 rfl (lv_at hl 1 rfl) ?_
  refine lv_bipush (v := 67) hx hb dX12_list_8 (by decide) ?_
  refine w_cVi (As := [.int 67]) (rest := []) hF hH hA mv_X12_600 (fun sz => c_X12_number1 l D t h0 L _ hH.2 67 _ hw sz) dX12_list_10 rfl rfl (by decide) rfl hl.1 (Nat.le_of_ble_eq_true rfl) (by decide) rfl (fun z4 σ3 H locs hw hH => ?_)
  refine lv_istore_n (lv' := [(2, .int z4), (1, .int z2), (0, .ref h0)]) hx hb dX12_list_13 rfl hl (by decide) rfl (fun ls hl => ?_)
  refine lv_aload_n hx hb dX12_list_14 rfl (lv_at hl 2 rfl) ?_
  refine lv_bipush (v := 92) hx hb dX12_list_15 (by decide) ?_
  refine lv_iconst (v := 4) hx hb dX12_list_17 (by decide) ?_
  refine w_cVl (As := [.int 92, .int 4]) (rest := []) hF hH hA mv_X12_364 (fun sz => c_X12_number l D t h0 L _ hH.2 92 4 _ hw sz) dX12_list_18 rfl rfl (by decide) rfl hl.1 (Nat.le_of_ble_eq_true rfl) (by decide) rfl (fun z6 σ5 H locs hw hH => ?_)
  refine lv_lstore_n (lv' := [(3, .long z6), (2, .int z4), (1, .int z2), (0, .ref h0)]) hx hb dX12_list_21 rfl hl (by decide) rfl (fun ls hl => ?_)
  refine lv_aload_n hx hb dX12_list_22 rfl (lv_at hl 3 rfl) ?_
  refine w_getI hF hH fk_X12_525 dX12_list_23 hw (fun z7 hw => ?_)
  refine lv_istore (lv' := [(5, .int z7), (3, .long z6), (2, .int z4), (1, .int z2), (0, .ref h0)]) hx hb dX12_list_26 hl (by decide) rfl (fun ls hl => ?_)
  refine lv_lload_n hx hb dX12_list_28 rfl (lv_at hl 1 rfl) ?_
  refine lv_ldc2 (v := 1024) hx hb hF.1.2.2.2.1 (hF.1.2.2.2.2 _ (wc_51 29 rfl)) dX12_list_29 ?_
  obtain ⟨K10, hK11, hw⟩ := jn_open hw
  refine w_join (K := K10) 51 (fun (x8 : Unit) => []) (fun (x8 : Unit) => []) hl hH (fun x8 σ9 ls H locs hl hw hH => ?_) (fun jn12 => ?_)
  · have hw := hK11 x8 σ9 hw
    have hl : lv_has ls 17 [] := hl
    refine lv_ldc2 (v := 3221225485) hx hb hF.1.2.2.2.1 (hF.1.2.2.2.2 _ (wc_47 33 rfl)) dX12_list_51 ?_
    exact w_retl hF hH hr hlk dX12_list_54 hw
  · skip
    refine w_lif_gt (tgt := 51) hF dX12_list_32 dX12_list_33 rfl hw (fun hw => ?_) (fun hw => ?_)
    · have hl : lv_has ls 17 [] := lv_sub hl [] rfl
      exact jn12 () σ5 ls _ _ hl hw hH
    · refine lv_aload_n hx hb dX12_list_36 rfl (lv_at hl 4 rfl) ?_
      refine w_getA 3 hF hH fk_X12_21 dX12_list_37 (by decide) rfl ?_
      refine lv_aload_n hx hb dX12_list_40 rfl (lv_at hl 4 rfl) ?_
      refine w_getA 43 hF hH fk_X12_145 dX12_list_41 (by decide) rfl ?_
      refine lv_iload hx hb dX12_list_44 (lv_at hl 0 rfl) ?_
      refine w_iald 43 40 hF hH dX12_list_46 (by decide) rfl rfl hw (fun z13 hw => ?_)
      refine w_zald 3 160 hF hH dX12_list_47 (by decide) rfl rfl hw (fun z14 hw => ?_)
      refine w_if_ne (tgt := 55) hF dX12_list_48 rfl hw (fun hw => ?_) (fun hw => ?_)
      · refine lv_iload_n hx hb dX12_list_55 rfl (lv_at hl 3 rfl) ?_
        refine lv_iconst (v := 1) hx hb dX12_list_56 (by decide) ?_
        obtain ⟨K17, hK18, hw⟩ := jn_open hw
        refine w_join (K := K17) 70 (fun (x15 : Unit) => [(5, .int z7), (3, .long z6), (2, .int z4), (1, .int z2), (0, .ref h0)]) (fun (x15 : Unit) => []) hl hH (fun x15 σ16 ls H locs hl hw hH => ?_) (fun jn19 => ?_)
        · have hw := hK18 x15 σ16 hw
          have hl : lv_has ls 17 [(5, .int z7), (3, .long z6), (2, .int z4), (1, .int z2), (0, .ref h0)] := hl
          refine lv_aload_n hx hb dX12_list_70 rfl (lv_at hl 4 rfl) ?_
          refine w_getA 44 hF hH fk_X12_148 dX12_list_71 (by decide) rfl ?_
          refine lv_iload hx hb dX12_list_74 (lv_at hl 0 rfl) ?_
          refine w_iald 44 40 hF hH dX12_list_76 (by decide) rfl rfl hw (fun z20 hw => ?_)
          refine lv_iconst (v := 1) hx hb dX12_list_77 (by decide) ?_
          refine lv_iand hx hb dX12_list_78 ?_
          refine w_nmi hw (fun z21 hw => ?_)
          refine w_if_ne (tgt := 86) hF dX12_list_79 rfl hw (fun hw => ?_) (fun hw => ?_)
          · refine lv_aload_n hx hb dX12_list_86 rfl (lv_at hl 4 rfl) ?_
            refine w_getA 51 hF hH fk_X12_169 dX12_list_87 (by decide) rfl ?_
            refine lv_iload hx hb dX12_list_90 (lv_at hl 0 rfl) ?_
            refine w_iald 51 40 hF hH dX12_list_92 (by decide) rfl rfl hw (fun z22 hw => ?_)
            obtain ⟨K25, hK26, hw⟩ := jn_open hw
            refine w_join (K := K25) 107 (fun (x23 : Int32) => [(5, .int z7), (3, .long z6), (2, .int z4), (1, .int z2), (0, .ref h0)]) (fun (x23 : Int32) => [.int x23]) hl hH (fun x23 σ24 ls H locs hl hw hH => ?_) (fun jn27 => ?_)
            · have hw := hK26 x23 σ24 hw
              have hl : lv_has ls 17 [(5, .int z7), (3, .long z6), (2, .int z4), (1, .int z2), (0, .ref h0)] := hl
              refine lv_istore (lv' := [(6, .int x23), (5, .int z7), (3, .long z6), (2, .int z4), (1, .int z2), (0, .ref h0)]) hx hb dX12_list_107 hl (by decide) rfl (fun ls hl => ?_)
              refine lv_iload hx hb dX12_list_109 (lv_at hl 0 rfl) ?_
              obtain ⟨K30, hK31, hw⟩ := jn_open hw
              refine w_join (K := K30) 230 (fun (x28 : Unit) => [(6, .int x23), (5, .int z7), (3, .long z6), (2, .int z4), (1, .int z2), (0, .ref h0)]) (fun (x28 : Unit) => []) hl hH (fun x28 σ29 ls H locs hl hw hH => ?_) (fun jn32 => ?_)
              · have hw := hK31 x28 σ29 hw
                have hl : lv_has ls 17 [(6, .int x23), (5, .int z7), (3, .long z6), (2, .int z4), (1, .int z2), (0, .ref h0)] := hl
                refine lv_iconst (v := 0) hx hb dX12_list_230 (by decide) ?_
                refine lv_istore (lv' := [(7, .int 0), (6, .int x23), (5, .int z7), (3, .long z6), (2, .int z4), (1, .int z2), (0, .ref h0)]) hx hb dX12_list_231 hl (by decide) rfl (fun ls hl => ?_)
                refine lv_bipush (v := 72) hx hb dX12_list_233 (by decide) ?_
                refine lv_istore (lv' := [(8, .int 72), (7, .int 0), (6, .int x23), (5, .int z7), (3, .long z6), (2, .int z4), (1, .int z2), (0, .ref h0)]) hx hb dX12_list_235 hl (by decide) rfl (fun ls hl => ?_)
                refine lv_iconst (v := (-1)) hx hb dX12_list_237 (by decide) ?_
                refine lv_istore (lv' := [(9, .int (-1)), (8, .int 72), (7, .int 0), (6, .int x23), (5, .int z7), (3, .long z6), (2, .int z4), (1, .int z2), (0, .ref h0)]) hx hb dX12_list_238 hl (by decide) rfl (fun ls hl => ?_)
                refine lv_iconst (v := 1) hx hb dX12_list_240 (by decide) ?_
                refine lv_istore (lv' := [(10, .int 1), (9, .int (-1)), (8, .int 72), (7, .int 0), (6, .int x23), (5, .int z7), (3, .long z6), (2, .int z4), (1, .int z2), (0, .ref h0)]) hx hb dX12_list_241 hl (by decide) rfl (fun ls hl => ?_)
                refine lv_iconst (v := 0) hx hb dX12_list_243 (by decide) ?_
                refine lv_istore (lv' := [(11, .int 0), (10, .int 1), (9, .int (-1)), (8, .int 72), (7, .int 0), (6, .int x23), (5, .int z7), (3, .long z6), (2, .int z4), (1, .int z2), (0, .ref h0)]) hx hb dX12_list_244 hl (by decide) rfl (fun ls hl => ?_)
                refine lv_aload_n hx hb dX12_list_246 rfl (lv_at hl 10 rfl) ?_
                refine w_getI hF hH fk_X12_368 dX12_list_247 hw (fun z33 hw => ?_)
                refine lv_istore (lv' := [(12, .int z33), (11, .int 0), (10, .int 1), (9, .int (-1)), (8, .int 72), (7, .int 0), (6, .int x23), (5, .int z7), (3, .long z6), (2, .int z4), (1, .int z2), (0, .ref h0)]) hx hb dX12_list_250 hl (by decide) rfl (fun ls hl => ?_)
                refine w_loop (β := Int32 × Int32 × Int32 × Int32 × Int32) (fun x34 => [(12, .int z33), (11, .int x34.1), (10, .int x34.2.1), (9, .int x34.2.2.1), (8, .int x34.2.2.2.1), (7, .int x34.2.2.2.2), (6, .int x23), (5, .int z7), (3, .long z6), (2, .int z4), (1, .int z2), (0, .ref h0)]) (0, 1, (-1), 72, 0) hl hw hH (fun K36 x34 σ35 ls H locs hl hw hH ih37 => ?_)
                have hl : lv_has ls 17 [(12, .int z33), (11, .int x34.1), (10, .int x34.2.1), (9, .int x34.2.2.1), (8, .int x34.2.2.2.1), (7, .int x34.2.2.2.2), (6, .int x23), (5, .int z7), (3, .long z6), (2, .int z4), (1, .int z2), (0, .ref h0)] := hl
                refine lv_iload hx hb dX12_list_252 (lv_at hl 2 rfl) ?_
                obtain ⟨K40, hK41, hw⟩ := jn_open hw
                refine w_join (K := K40) 451 (fun (x38 : Unit) => [(12, .int z33), (11, .int x34.1), (8, .int x34.2.2.2.1), (7, .int x34.2.2.2.2), (6, .int x23), (0, .ref h0)]) (fun (x38 : Unit) => []) hl hH (fun x38 σ39 ls H locs hl hw hH => ?_) (fun jn42 => ?_)
                · have hw := hK41 x38 σ39 hw
                  have hl : lv_has ls 17 [(12, .int z33), (11, .int x34.1), (8, .int x34.2.2.2.1), (7, .int x34.2.2.2.2), (6, .int x23), (0, .ref h0)] := hl
                  refine lv_aload_n hx hb dX12_list_451 rfl (lv_at hl 5 rfl) ?_
                  refine lv_iload hx hb dX12_list_452 (lv_at hl 0 rfl) ?_
                  refine w_putI hF hH fk_X12_368 dX12_list_454 rfl rfl rfl hw (fun σ43 H locs hw hH => ?_)
                  refine lv_iload hx hb dX12_list_457 (lv_at hl 3 rfl) ?_
                  refine w_if_ne (tgt := 488) hF dX12_list_459 rfl hw (fun hw => ?_) (fun hw => ?_)
                  · refine lv_aload_n hx hb dX12_list_488 rfl (lv_at hl 5 rfl) ?_
                    refine lv_iload hx hb dX12_list_489 (lv_at hl 2 rfl) ?_
                    refine w_putI hF hH fk_X12_371 dX12_list_491 rfl rfl rfl hw (fun σ44 H locs hw hH => ?_)
                    refine lv_bipush (v := 64) hx hb dX12_list_494 (by decide) ?_
                    refine lv_istore (lv' := [(13, .int 64), (12, .int z33), (11, .int x34.1), (8, .int x34.2.2.2.1), (7, .int x34.2.2.2.2), (6, .int x23), (0, .ref h0)]) hx hb dX12_list_496 hl (by decide) rfl (fun ls hl => ?_)
                    have hl : lv_has ls 17 [(13, .int 64), (8, .int x34.2.2.2.1), (0, .ref h0)] := lv_sub hl [0, 3, 6] rfl
                    refine w_loop (β := Int32) (fun x45 => [(13, .int x45), (8, .int x34.2.2.2.1), (0, .ref h0)]) 64 hl hw hH (fun K47 x45 σ46 ls H locs hl hw hH ih48 => ?_)
                    have hl : lv_has ls 17 [(13, .int x45), (8, .int x34.2.2.2.1), (0, .ref h0)] := hl
                    refine lv_iload hx hb dX12_list_498 (lv_at hl 0 rfl) ?_
                    refine lv_bipush (v := 72) hx hb dX12_list_500 (by decide) ?_
                    refine w_icmp_ge (tgt := 519) hF dX12_list_502 rfl hw (fun hw => ?_) (fun hw => ?_)
                    · refine lv_aload_n hx hb dX12_list_519 rfl (lv_at hl 2 rfl) ?_
                      refine lv_bipush (v := 64) hx hb dX12_list_520 (by decide) ?_
                      refine lv_iconst (v := 2) hx hb dX12_list_522 (by decide) ?_
                      refine lv_ldc2 (v := 9) hx hb hF.1.2.2.2.1 (hF.1.2.2.2.2 _ (wc_47 29 rfl)) dX12_list_523 ?_
                      refine w_cVv (As := [.int 64, .int 2, .long 9]) (rest := []) hF hH hA mv_X12_376 (fun sz => c_X12_set l D t h0 L _ hH.2 64 2 9 _ hw sz) dX12_list_526 rfl rfl (by decide) rfl hl.1 (Nat.le_of_ble_eq_true rfl) (by decide) rfl (fun σ49 H locs hw hH => ?_)
                      refine lv_aload_n hx hb dX12_list_529 rfl (lv_at hl 2 rfl) ?_
                      refine lv_bipush (v := 66) hx hb dX12_list_530 (by decide) ?_
                      refine lv_iconst (v := 2) hx hb dX12_list_532 (by decide) ?_
                      refine lv_ldc2 (v := 72) hx hb hF.1.2.2.2.1 (hF.1.2.2.2.2 _ (wc_53 9 rfl)) dX12_list_533 ?_
                      refine w_cVv (As := [.int 66, .int 2, .long 72]) (rest := []) hF hH hA mv_X12_376 (fun sz => c_X12_set l D t h0 L _ hH.2 66 2 72 _ hw sz) dX12_list_536 rfl rfl (by decide) rfl hl.1 (Nat.le_of_ble_eq_true rfl) (by decide) rfl (fun σ51 H locs hw hH => ?_)
                      refine lv_aload_n hx hb dX12_list_539 rfl (lv_at hl 2 rfl) ?_
                      refine lv_bipush (v := 68) hx hb dX12_list_540 (by decide) ?_
                      refine lv_iconst (v := 4) hx hb dX12_list_542 (by decide) ?_
                      refine lv_iload hx hb dX12_list_543 (lv_at hl 1 rfl) ?_
                      refine lv_bipush (v := 72) hx hb dX12_list_545 (by decide) ?_
                      refine lv_isub hx hb dX12_list_547 ?_
                      refine w_nmi hw (fun z53 hw => ?_)
                      refine lv_i2l hx hb dX12_list_548 rfl ?_
                      refine w_nml hw (fun z54 hw => ?_)
                      refine w_cVv (As := [.int 68, .int 4, .long z54]) (rest := []) hF hH hA mv_X12_376 (fun sz => c_X12_set l D t h0 L _ hH.2 68 4 z54 _ hw sz) dX12_list_549 rfl rfl (by decide) rfl hl.1 (Nat.le_of_ble_eq_true rfl) (by decide) rfl (fun σ55 H locs hw hH => ?_)
                      refine lv_lconst (v := 0) hx hb dX12_list_552 (by decide) ?_
                      exact w_retl hF hH hr hlk dX12_list_553 hw
                    · refine lv_aload_n hx hb dX12_list_505 rfl (lv_at hl 2 rfl) ?_
                      refine lv_iload hx hb dX12_list_506 (lv_at hl 0 rfl) ?_
                      refine lv_iconst (v := 1) hx hb dX12_list_508 (by decide) ?_
                      refine lv_lconst (v := 0) hx hb dX12_list_509 (by decide) ?_
                      refine w_cVv (As := [.int x45, .int 1, .long 0]) (rest := []) hF hH hA mv_X12_376 (fun sz => c_X12_set l D t h0 L _ hH.2 x45 1 0 _ hw sz) dX12_list_510 rfl rfl (by decide) rfl hl.1 (Nat.le_of_ble_eq_true rfl) (by decide) rfl (fun σ57 H locs hw hH => ?_)
                      obtain ⟨z59, ez59⟩ : ∃ z : Int32, z = x45 + 1 := ⟨_, rfl⟩
                      have hw := hw z59 ez59
                      refine lv_iinc (lv' := [(13, .int z59), (8, .int x34.2.2.2.1), (0, .ref h0)]) (k := 0) (v := z59) hx hb dX12_list_513 hl rfl ez59.symm (by decide) rfl (fun ls hl => ?_)
                      refine lv_goto (tgt := 498) hx hb dX12_list_516 rfl ?_
                      exact ih48 z59 σ57 ls _ _ hl hw hH
                  · refine lv_iload hx hb dX12_list_462 (lv_at hl 1 rfl) ?_
                    obtain ⟨K62, hK63, hw⟩ := jn_open hw
                    refine w_join (K := K62) 487 (fun (x60 : Int64) => []) (fun (x60 : Int64) => [.long x60]) hl hH (fun x60 σ61 ls H locs hl hw hH => ?_) (fun jn64 => ?_)
                    · have hw := hK63 x60 σ61 hw
                      have hl : lv_has ls 17 [] := hl
                      exact w_retl hF hH hr hlk dX12_list_487 hw
                    · skip
                      refine w_if_eq (tgt := 473) hF dX12_list_464 rfl hw (fun hw => ?_) (fun hw => ?_)
                      · refine lv_iload hx hb dX12_list_473 (lv_at hl 4 rfl) ?_
                        refine w_if_eq (tgt := 484) hF dX12_list_475 rfl hw (fun hw => ?_) (fun hw => ?_)
                        · refine lv_ldc2 (v := 2147483654) hx hb hF.1.2.2.2.1 (hF.1.2.2.2.2 _ (wc_56 36 rfl)) dX12_list_484 ?_
                          have hl : lv_has ls 17 [] := lv_sub hl [] rfl
                          exact jn64 2147483654 σ43 ls _ _ hl hw hH
                        · refine lv_ldc2 (v := 3221225487) hx hb hF.1.2.2.2.1 (hF.1.2.2.2.2 _ (wc_56 35 rfl)) dX12_list_478 ?_
                          refine lv_goto (tgt := 487) hx hb dX12_list_481 rfl ?_
                          have hl : lv_has ls 17 [] := lv_sub hl [] rfl
                          exact jn64 3221225487 σ43 ls _ _ hl hw hH
                      · refine lv_ldc2 (v := 3221225476) hx hb hF.1.2.2.2.1 (hF.1.2.2.2.2 _ (wc_56 34 rfl)) dX12_list_467 ?_
                        refine lv_goto (tgt := 487) hx hb dX12_list_470 rfl ?_
                        have hl : lv_has ls 17 [] := lv_sub hl [] rfl
                        exact jn64 3221225476 σ43 ls _ _ hl hw hH
                · skip
                  refine w_if_eq (tgt := 451) hF dX12_list_254 rfl hw (fun hw => ?_) (fun hw => ?_)
                  · have hl : lv_has ls 17 [(12, .int z33), (11, .int x34.1), (8, .int x34.2.2.2.1), (7, .int x34.2.2.2.2), (6, .int x23), (0, .ref h0)] := lv_sub hl [0, 1, 4, 5, 6, 11] rfl
                    exact jn42 () σ35 ls _ _ hl hw hH
                  · refine lv_aload_n hx hb dX12_list_257 rfl (lv_at hl 11 rfl) ?_
                    refine lv_iload hx hb dX12_list_258 (lv_at hl 7 rfl) ?_
                    refine w_cVi (As := [.int z7]) (rest := []) hF hH hA mv_X12_817 (fun sz => c_X12_findNext l D t h0 L _ hH.2 z7 _ hw sz) dX12_list_260 rfl rfl (by decide) rfl hl.1 (Nat.le_of_ble_eq_true rfl) (by decide) rfl (fun z66 σ65 H locs hw hH => ?_)
                    refine w_if_eq (tgt := 451) hF dX12_list_263 rfl hw (fun hw => ?_) (fun hw => ?_)
                    · have hl : lv_has ls 17 [(12, .int z33), (11, .int x34.1), (8, .int x34.2.2.2.1), (7, .int x34.2.2.2.2), (6, .int x23), (0, .ref h0)] := lv_sub hl [0, 1, 4, 5, 6, 11] rfl
                      exact jn42 () σ65 ls _ _ hl hw hH
                    · refine lv_iconst (v := 1) hx hb dX12_list_266 (by decide) ?_
                      refine lv_istore (lv' := [(11, .int 1), (12, .int z33), (10, .int x34.2.1), (9, .int x34.2.2.1), (8, .int x34.2.2.2.1), (7, .int x34.2.2.2.2), (6, .int x23), (5, .int z7), (3, .long z6), (2, .int z4), (1, .int z2), (0, .ref h0)]) hx hb dX12_list_267 hl (by decide) rfl (fun ls hl => ?_)
                      refine lv_aload_n hx hb dX12_list_269 rfl (lv_at hl 11 rfl) ?_
                      refine w_getI hF hH fk_X12_803 dX12_list_270 hw (fun z67 hw => ?_)
                      refine lv_iconst (v := 3) hx hb dX12_list_273 (by decide) ?_
                      obtain ⟨K70, hK71, hw⟩ := jn_open hw
                      refine w_join (K := K70) 293 (fun (x68 : Int32) => [(12, .int z33), (11, .int 1), (9, .int x34.2.2.1), (8, .int x34.2.2.2.1), (7, .int x34.2.2.2.2), (6, .int x23), (5, .int z7), (3, .long z6), (2, .int z4), (1, .int z2), (0, .ref h0)]) (fun (x68 : Int32) => [.int x68]) hl hH (fun x68 σ69 ls H locs hl hw hH => ?_) (fun jn72 => ?_)
                      · have hw := hK71 x68 σ69 hw
                        have hl : lv_has ls 17 [(12, .int z33), (11, .int 1), (9, .int x34.2.2.1), (8, .int x34.2.2.2.1), (7, .int x34.2.2.2.2), (6, .int x23), (5, .int z7), (3, .long z6), (2, .int z4), (1, .int z2), (0, .ref h0)] := hl
                        refine lv_istore (lv' := [(13, .int x68), (12, .int z33), (11, .int 1), (9, .int x34.2.2.1), (8, .int x34.2.2.2.1), (7, .int x34.2.2.2.2), (6, .int x23), (5, .int z7), (3, .long z6), (2, .int z4), (1, .int z2), (0, .ref h0)]) hx hb dX12_list_293 hl (by decide) rfl (fun ls hl => ?_)
                        refine lv_iload_n hx hb dX12_list_295 rfl (lv_at hl 10 rfl) ?_
                        refine lv_iconst (v := 1) hx hb dX12_list_296 (by decide) ?_
                        obtain ⟨K75, hK76, hw⟩ := jn_open hw
                        refine w_join (K := K75) 307 (fun (x73 : Int32) => [(13, .int x68), (12, .int z33), (11, .int 1), (9, .int x34.2.2.1), (8, .int x34.2.2.2.1), (7, .int x34.2.2.2.2), (6, .int x23), (5, .int z7), (3, .long z6), (2, .int z4), (1, .int z2), (0, .ref h0)]) (fun (x73 : Int32) => [.int x73]) hl hH (fun x73 σ74 ls H locs hl hw hH => ?_) (fun jn77 => ?_)
                        · have hw := hK76 x73 σ74 hw
                          have hl : lv_has ls 17 [(13, .int x68), (12, .int z33), (11, .int 1), (9, .int x34.2.2.1), (8, .int x34.2.2.2.1), (7, .int x34.2.2.2.2), (6, .int x23), (5, .int z7), (3, .long z6), (2, .int z4), (1, .int z2), (0, .ref h0)] := hl
                          refine lv_iconst (v := 2) hx hb dX12_list_307 (by decide) ?_
                          refine lv_iload hx hb dX12_list_308 (lv_at hl 0 rfl) ?_
                          refine lv_imul hx hb dX12_list_310 ?_
                          refine w_nmi hw (fun z78 hw => ?_)
                          refine lv_iadd hx hb dX12_list_311 ?_
                          refine w_nmi hw (fun z79 hw => ?_)
                          refine lv_istore (lv' := [(14, .int z79), (13, .int x68), (12, .int z33), (11, .int 1), (9, .int x34.2.2.1), (8, .int x34.2.2.2.1), (7, .int x34.2.2.2.2), (6, .int x23), (5, .int z7), (3, .long z6), (2, .int z4), (1, .int z2), (0, .ref h0)]) hx hb dX12_list_312 hl (by decide) rfl (fun ls hl => ?_)
                          refine lv_iload hx hb dX12_list_314 (lv_at hl 4 rfl) ?_
                          obtain ⟨K82, hK83, hw⟩ := jn_open hw
                          refine w_join (K := K82) 335 (fun (x80 : Int32) => [(14, .int z79), (13, .int x68), (12, .int z33), (11, .int 1), (9, .int x34.2.2.1), (8, .int x34.2.2.2.1), (7, .int x34.2.2.2.2), (6, .int x23), (5, .int z7), (3, .long z6), (2, .int z4), (1, .int z2), (0, .ref h0)]) (fun (x80 : Int32) => [.int x80]) hl hH (fun x80 σ81 ls H locs hl hw hH => ?_) (fun jn84 => ?_)
                          · have hw := hK83 x80 σ81 hw
                            have hl : lv_has ls 17 [(14, .int z79), (13, .int x68), (12, .int z33), (11, .int 1), (9, .int x34.2.2.1), (8, .int x34.2.2.2.1), (7, .int x34.2.2.2.2), (6, .int x23), (5, .int z7), (3, .long z6), (2, .int z4), (1, .int z2), (0, .ref h0)] := hl
                            refine lv_istore (lv' := [(15, .int x80), (14, .int z79), (13, .int x68), (12, .int z33), (11, .int 1), (9, .int x34.2.2.1), (8, .int x34.2.2.2.1), (7, .int x34.2.2.2.2), (6, .int x23), (5, .int z7), (3, .long z6), (2, .int z4), (1, .int z2), (0, .ref h0)]) hx hb dX12_list_335 hl (by decide) rfl (fun ls hl => ?_)
                            refine lv_iload hx hb dX12_list_337 (lv_at hl 0 rfl) ?_
                            refine lv_bipush (v := 72) hx hb dX12_list_339 (by decide) ?_
                            refine lv_isub hx hb dX12_list_341 ?_
                            refine w_nmi hw (fun z85 hw => ?_)
                            refine lv_iload hx hb dX12_list_342 (lv_at hl 1 rfl) ?_
                            refine lv_iadd hx hb dX12_list_344 ?_
                            refine w_nmi hw (fun z86 hw => ?_)
                            refine lv_i2l hx hb dX12_list_345 rfl ?_
                            refine w_nml hw (fun z87 hw => ?_)
                            refine lv_lload_n hx hb dX12_list_346 rfl (lv_at hl 10 rfl) ?_
                            obtain ⟨K90, hK91, hw⟩ := jn_open hw
                            refine w_join (K := K90) 356 (fun (x88 : Int32) => [(15, .int x80), (14, .int z79), (13, .int x68), (12, .int z33), (11, .int 1), (9, .int x34.2.2.1), (8, .int x34.2.2.2.1), (7, .int x34.2.2.2.2), (6, .int x23), (5, .int z7), (3, .long z6), (2, .int z4), (1, .int z2), (0, .ref h0)]) (fun (x88 : Int32) => [.int x88]) hl hH (fun x88 σ89 ls H locs hl hw hH => ?_) (fun jn92 => ?_)
                            · have hw := hK91 x88 σ89 hw
                              have hl : lv_has ls 17 [(15, .int x80), (14, .int z79), (13, .int x68), (12, .int z33), (11, .int 1), (9, .int x34.2.2.1), (8, .int x34.2.2.2.1), (7, .int x34.2.2.2.2), (6, .int x23), (5, .int z7), (3, .long z6), (2, .int z4), (1, .int z2), (0, .ref h0)] := hl
                              refine lv_istore (lv' := [(10, .int x88), (15, .int x80), (14, .int z79), (13, .int x68), (12, .int z33), (11, .int 1), (9, .int x34.2.2.1), (8, .int x34.2.2.2.1), (7, .int x34.2.2.2.2), (6, .int x23), (5, .int z7), (3, .long z6), (2, .int z4), (1, .int z2), (0, .ref h0)]) hx hb dX12_list_356 hl (by decide) rfl (fun ls hl => ?_)
                              refine lv_iload hx hb dX12_list_358 (lv_at hl 0 rfl) ?_
                              obtain ⟨K95, hK96, hw⟩ := jn_open hw
                              refine w_join (K := K95) 448 (fun (x93 : Int32 × Int32 × Int32 × Int32) => [(12, .int z33), (11, .int 1), (10, .int x93.1), (9, .int x93.2.1), (8, .int x93.2.2.1), (7, .int x93.2.2.2), (6, .int x23), (5, .int z7), (3, .long z6), (2, .int z4), (1, .int z2), (0, .ref h0)]) (fun (x93 : Int32 × Int32 × Int32 × Int32) => []) hl hH (fun x93 σ94 ls H locs hl hw hH => ?_) (fun jn97 => ?_)
                              · have hw := hK96 x93 σ94 hw
                                have hl : lv_has ls 17 [(12, .int z33), (11, .int 1), (10, .int x93.1), (9, .int x93.2.1), (8, .int x93.2.2.1), (7, .int x93.2.2.2), (6, .int x23), (5, .int z7), (3, .long z6), (2, .int z4), (1, .int z2), (0, .ref h0)] := hl
                                refine lv_goto (tgt := 252) hx hb dX12_list_448 rfl ?_
                                exact ih37 (1, x93.1, x93.2.1, x93.2.2.1, x93.2.2.2) σ94 ls _ _ hl hw hH
                              · skip
                                refine w_if_eq (tgt := 448) hF dX12_list_360 rfl hw (fun hw => ?_) (fun hw => ?_)
                                · have hl : lv_has ls 17 [(12, .int z33), (11, .int 1), (10, .int x88), (9, .int x34.2.2.1), (8, .int x34.2.2.2.1), (7, .int x34.2.2.2.2), (6, .int x23), (5, .int z7), (3, .long z6), (2, .int z4), (1, .int z2), (0, .ref h0)] := lv_sub hl [4, 5, 0, 6, 7, 8, 9, 10, 11, 12, 13, 14] rfl
                                  exact jn97 (x88, x34.2.2.1, x34.2.2.2.1, x34.2.2.2.2) σ89 ls _ _ hl hw hH
                                · refine lv_iload hx hb dX12_list_363 (lv_at hl 6 rfl) ?_
                                  obtain ⟨K100, hK101, hw⟩ := jn_open hw
                                  refine w_join (K := K100) 406 (fun (x98 : Unit) => [(15, .int x80), (14, .int z79), (13, .int x68), (12, .int z33), (11, .int 1), (7, .int x34.2.2.2.2), (6, .int x23), (5, .int z7), (3, .long z6), (2, .int z4), (1, .int z2), (0, .ref h0)]) (fun (x98 : Unit) => []) hl hH (fun x98 σ99 ls H locs hl hw hH => ?_) (fun jn102 => ?_)
                                  · have hw := hK101 x98 σ99 hw
                                    have hl : lv_has ls 17 [(15, .int x80), (14, .int z79), (13, .int x68), (12, .int z33), (11, .int 1), (7, .int x34.2.2.2.2), (6, .int x23), (5, .int z7), (3, .long z6), (2, .int z4), (1, .int z2), (0, .ref h0)] := hl
                                    refine lv_aload_n hx hb dX12_list_406 rfl (lv_at hl 11 rfl) ?_
                                    refine lv_iload hx hb dX12_list_407 (lv_at hl 0 rfl) ?_
                                    refine lv_iload_n hx hb dX12_list_409 rfl (lv_at hl 10 rfl) ?_
                                    refine lv_iload hx hb dX12_list_410 (lv_at hl 2 rfl) ?_
                                    refine w_cVv (As := [.int x80, .int z2, .int x68]) (rest := []) hF hH hA mv_X12_820 (fun sz => c_X12_entryAt l D t h0 L _ hH.2 x80 z2 x68 _ hw sz) dX12_list_412 rfl rfl (by decide) rfl hl.1 (Nat.le_of_ble_eq_true rfl) (by decide) rfl (fun σ103 H locs hw hH => ?_)
                                    refine lv_iload hx hb dX12_list_415 (lv_at hl 0 rfl) ?_
                                    refine lv_istore (lv' := [(9, .int x80), (15, .int x80), (14, .int z79), (13, .int x68), (12, .int z33), (11, .int 1), (7, .int x34.2.2.2.2), (6, .int x23), (5, .int z7), (3, .long z6), (2, .int z4), (1, .int z2), (0, .ref h0)]) hx hb dX12_list_417 hl (by decide) rfl (fun ls hl => ?_)
                                    refine lv_iload hx hb dX12_list_419 (lv_at hl 1 rfl) ?_
                                    refine lv_iload hx hb dX12_list_421 (lv_at hl 2 rfl) ?_
                                    refine lv_iadd hx hb dX12_list_423 ?_
                                    refine w_nmi hw (fun z105 hw => ?_)
                                    refine lv_istore (lv' := [(8, .int z105), (9, .int x80), (15, .int x80), (14, .int z79), (13, .int x68), (12, .int z33), (11, .int 1), (7, .int x34.2.2.2.2), (6, .int x23), (5, .int z7), (3, .long z6), (2, .int z4), (1, .int z2), (0, .ref h0)]) hx hb dX12_list_424 hl (by decide) rfl (fun ls hl => ?_)
                                    obtain ⟨z106, ez106⟩ : ∃ z : Int32, z = x34.2.2.2.2 + 1 := ⟨_, rfl⟩
                                    have hw := hw z106 ez106
                                    refine lv_iinc (lv' := [(7, .int z106), (8, .int z105), (9, .int x80), (15, .int x80), (14, .int z79), (13, .int x68), (12, .int z33), (11, .int 1), (6, .int x23), (5, .int z7), (3, .long z6), (2, .int z4), (1, .int z2), (0, .ref h0)]) (k := 7) (v := z106) hx hb dX12_list_426 hl rfl ez106.symm (by decide) rfl (fun ls hl => ?_)
                                    refine lv_aload_n hx hb dX12_list_429 rfl (lv_at hl 13 rfl) ?_
                                    refine lv_iload hx hb dX12_list_430 (lv_at hl 9 rfl) ?_
                                    refine w_cVv (As := [.int z7]) (rest := []) hF hH hA mv_X12_823 (fun sz => c_X12_remember l D t h0 L _ hH.2 z7 _ hw sz) dX12_list_432 rfl rfl (by decide) rfl hl.1 (Nat.le_of_ble_eq_true rfl) (by decide) rfl (fun σ107 H locs hw hH => ?_)
                                    refine lv_iload_n hx hb dX12_list_435 rfl (lv_at hl 11 rfl) ?_
                                    refine lv_iconst (v := 2) hx hb dX12_list_436 (by decide) ?_
                                    refine lv_iand hx hb dX12_list_437 ?_
                                    refine w_nmi hw (fun z109 hw => ?_)
                                    obtain ⟨K112, hK113, hw⟩ := jn_open hw
                                    refine w_join (K := K112) 446 (fun (x110 : Int32) => [(12, .int z33), (11, .int 1), (9, .int x80), (8, .int z105), (7, .int z106), (6, .int x23), (5, .int z7), (3, .long z6), (2, .int z4), (1, .int z2), (0, .ref h0)]) (fun (x110 : Int32) => [.int x110]) hl hH (fun x110 σ111 ls H locs hl hw hH => ?_) (fun jn114 => ?_)
                                    · have hw := hK113 x110 σ111 hw
                                      have hl : lv_has ls 17 [(12, .int z33), (11, .int 1), (9, .int x80), (8, .int z105), (7, .int z106), (6, .int x23), (5, .int z7), (3, .long z6), (2, .int z4), (1, .int z2), (0, .ref h0)] := hl
                                      refine lv_istore (lv' := [(10, .int x110), (12, .int z33), (11, .int 1), (9, .int x80), (8, .int z105), (7, .int z106), (6, .int x23), (5, .int z7), (3, .long z6), (2, .int z4), (1, .int z2), (0, .ref h0)]) hx hb dX12_list_446 hl (by decide) rfl (fun ls hl => ?_)
                                      have hl : lv_has ls 17 [(12, .int z33), (11, .int 1), (10, .int x110), (9, .int x80), (8, .int z105), (7, .int z106), (6, .int x23), (5, .int z7), (3, .long z6), (2, .int z4), (1, .int z2), (0, .ref h0)] := lv_sub hl [1, 2, 0, 3, 4, 5, 6, 7, 8, 9, 10, 11] rfl
                                      exact jn97 (x110, x80, z105, z106) σ111 ls _ _ hl hw hH
                                    · skip
                                      refine w_if_ne (tgt := 445) hF dX12_list_438 rfl hw (fun hw => ?_) (fun hw => ?_)
                                      · refine lv_iconst (v := 0) hx hb dX12_list_445 (by decide) ?_
                                        have hl : lv_has ls 17 [(12, .int z33), (11, .int 1), (9, .int x80), (8, .int z105), (7, .int z106), (6, .int x23), (5, .int z7), (3, .long z6), (2, .int z4), (1, .int z2), (0, .ref h0)] := lv_sub hl [6, 7, 2, 1, 0, 8, 9, 10, 11, 12, 13] rfl
                                        exact jn114 0 σ107 ls _ _ hl hw hH
                                      · refine lv_iconst (v := 1) hx hb dX12_list_441 (by decide) ?_
                                        refine lv_goto (tgt := 446) hx hb dX12_list_442 rfl ?_
                                        have hl : lv_has ls 17 [(12, .int z33), (11, .int 1), (9, .int x80), (8, .int z105), (7, .int z106), (6, .int x23), (5, .int z7), (3, .long z6), (2, .int z4), (1, .int z2), (0, .ref h0)] := lv_sub hl [6, 7, 2, 1, 0, 8, 9, 10, 11, 12, 13] rfl
                                        exact jn114 1 σ107 ls _ _ hl hw hH
                                  · skip
                                    refine w_if_lt (tgt := 406) hF dX12_list_365 rfl hw (fun hw => ?_) (fun hw => ?_)
                                    · have hl : lv_has ls 17 [(15, .int x80), (14, .int z79), (13, .int x68), (12, .int z33), (11, .int 1), (7, .int x34.2.2.2.2), (6, .int x23), (5, .int z7), (3, .long z6), (2, .int z4), (1, .int z2), (0, .ref h0)] := lv_sub hl [1, 2, 3, 4, 5, 8, 9, 10, 11, 12, 13, 14] rfl
                                      exact jn102 () σ89 ls _ _ hl hw hH
                                    · refine lv_iload hx hb dX12_list_368 (lv_at hl 7 rfl) ?_
                                      refine lv_istore (lv' := [(16, .int x34.2.2.2.1), (10, .int x88), (15, .int x80), (14, .int z79), (13, .int x68), (12, .int z33), (11, .int 1), (9, .int x34.2.2.1), (8, .int x34.2.2.2.1), (7, .int x34.2.2.2.2), (6, .int x23), (5, .int z7), (3, .long z6), (2, .int z4), (1, .int z2), (0, .ref h0)]) hx hb dX12_list_370 hl (by decide) rfl (fun ls hl => ?_)
                                      have hl : lv_has ls 17 [(16, .int x34.2.2.2.1), (15, .int x80), (14, .int z79), (13, .int x68), (12, .int z33), (11, .int 1), (9, .int x34.2.2.1), (7, .int x34.2.2.2.2), (6, .int x23), (5, .int z7), (3, .long z6), (2, .int z4), (1, .int z2), (0, .ref h0)] := lv_sub hl [0, 2, 3, 4, 5, 6, 7, 9, 10, 11, 12, 13, 14, 15] rfl
                                      refine w_loop (β := Int32) (fun x115 => [(16, .int x115), (15, .int x80), (14, .int z79), (13, .int x68), (12, .int z33), (11, .int 1), (9, .int x34.2.2.1), (7, .int x34.2.2.2.2), (6, .int x23), (5, .int z7), (3, .long z6), (2, .int z4), (1, .int z2), (0, .ref h0)]) x34.2.2.2.1 hl hw hH (fun K117 x115 σ116 ls H locs hl hw hH ih118 => ?_)
                                      have hl : lv_has ls 17 [(16, .int x115), (15, .int x80), (14, .int z79), (13, .int x68), (12, .int z33), (11, .int 1), (9, .int x34.2.2.1), (7, .int x34.2.2.2.2), (6, .int x23), (5, .int z7), (3, .long z6), (2, .int z4), (1, .int z2), (0, .ref h0)] := hl
                                      refine lv_iload hx hb dX12_list_372 (lv_at hl 0 rfl) ?_
                                      refine lv_iload hx hb dX12_list_374 (lv_at hl 1 rfl) ?_
                                      refine w_icmp_ge (tgt := 393) hF dX12_list_376 rfl hw (fun hw => ?_) (fun hw => ?_)
                                      · refine lv_aload_n hx hb dX12_list_393 rfl (lv_at hl 13 rfl) ?_
                                        refine lv_iload hx hb dX12_list_394 (lv_at hl 6 rfl) ?_
                                        refine lv_iconst (v := 4) hx hb dX12_list_396 (by decide) ?_
                                        refine lv_iload hx hb dX12_list_397 (lv_at hl 1 rfl) ?_
                                        refine lv_iload hx hb dX12_list_399 (lv_at hl 6 rfl) ?_
                                        refine lv_isub hx hb dX12_list_401 ?_
                                        refine w_nmi hw (fun z119 hw => ?_)
                                        refine lv_i2l hx hb dX12_list_402 rfl ?_
                                        refine w_nml hw (fun z120 hw => ?_)
                                        refine w_cVv (As := [.int x34.2.2.1, .int 4, .long z120]) (rest := []) hF hH hA mv_X12_376 (fun sz => c_X12_set l D t h0 L _ hH.2 x34.2.2.1 4 z120 _ hw sz) dX12_list_403 rfl rfl (by decide) rfl hl.1 (Nat.le_of_ble_eq_true rfl) (by decide) rfl (fun σ121 H locs hw hH => ?_)
                                        have hl : lv_has ls 17 [(15, .int x80), (14, .int z79), (13, .int x68), (12, .int z33), (11, .int 1), (7, .int x34.2.2.2.2), (6, .int x23), (5, .int z7), (3, .long z6), (2, .int z4), (1, .int z2), (0, .ref h0)] := lv_sub hl [1, 2, 3, 4, 5, 7, 8, 9, 10, 11, 12, 13] rfl
                                        exact jn102 () σ121 ls _ _ hl hw hH
                                      · refine lv_aload_n hx hb dX12_list_379 rfl (lv_at hl 13 rfl) ?_
                                        refine lv_iload hx hb dX12_list_380 (lv_at hl 0 rfl) ?_
                                        refine lv_iconst (v := 1) hx hb dX12_list_382 (by decide) ?_
                                        refine lv_lconst (v := 0) hx hb dX12_list_383 (by decide) ?_
                                        refine w_cVv (As := [.int x115, .int 1, .long 0]) (rest := []) hF hH hA mv_X12_376 (fun sz => c_X12_set l D t h0 L _ hH.2 x115 1 0 _ hw sz) dX12_list_384 rfl rfl (by decide) rfl hl.1 (Nat.le_of_ble_eq_true rfl) (by decide) rfl (fun σ123 H locs hw hH => ?_)
                                        obtain ⟨z125, ez125⟩ : ∃ z : Int32, z = x115 + 1 := ⟨_, rfl⟩
                                        have hw := hw z125 ez125
                                        refine lv_iinc (lv' := [(16, .int z125), (15, .int x80), (14, .int z79), (13, .int x68), (12, .int z33), (11, .int 1), (9, .int x34.2.2.1), (7, .int x34.2.2.2.2), (6, .int x23), (5, .int z7), (3, .long z6), (2, .int z4), (1, .int z2), (0, .ref h0)]) (k := 0) (v := z125) hx hb dX12_list_387 hl rfl ez125.symm (by decide) rfl (fun ls hl => ?_)
                                        refine lv_goto (tgt := 372) hx hb dX12_list_390 rfl ?_
                                        exact ih118 z125 σ123 ls _ _ hl hw hH
                            · skip
                              refine w_lif_gt (tgt := 355) hF dX12_list_347 dX12_list_348 rfl hw (fun hw => ?_) (fun hw => ?_)
                              · refine lv_iconst (v := 0) hx hb dX12_list_355 (by decide) ?_
                                exact jn92 0 σ81 ls _ _ hl hw hH
                              · refine lv_iconst (v := 1) hx hb dX12_list_351 (by decide) ?_
                                refine lv_goto (tgt := 356) hx hb dX12_list_352 rfl ?_
                                exact jn92 1 σ81 ls _ _ hl hw hH
                          · skip
                            refine w_if_ge (tgt := 324) hF dX12_list_316 rfl hw (fun hw => ?_) (fun hw => ?_)
                            · refine lv_iload hx hb dX12_list_324 (lv_at hl 5 rfl) ?_
                              refine lv_bipush (v := 7) hx hb dX12_list_326 (by decide) ?_
                              refine lv_iadd hx hb dX12_list_328 ?_
                              refine w_nmi hw (fun z126 hw => ?_)
                              refine lv_bipush (v := 8) hx hb dX12_list_329 (by decide) ?_
                              refine lv_idiv hx hb dX12_list_331 (by decide) ?_
                              refine w_nmi hw (fun z127 hw => ?_)
                              refine lv_bipush (v := 8) hx hb dX12_list_332 (by decide) ?_
                              refine lv_imul hx hb dX12_list_334 ?_
                              refine w_nmi hw (fun z128 hw => ?_)
                              exact jn84 z128 σ74 ls _ _ hl hw hH
                            · refine lv_bipush (v := 72) hx hb dX12_list_319 (by decide) ?_
                              refine lv_goto (tgt := 335) hx hb dX12_list_321 rfl ?_
                              exact jn84 72 σ74 ls _ _ hl hw hH
                        · skip
                          refine w_icmp_ne (tgt := 305) hF dX12_list_297 rfl hw (fun hw => ?_) (fun hw => ?_)
                          · refine lv_bipush (v := 12) hx hb dX12_list_305 (by decide) ?_
                            exact jn77 12 σ69 ls _ _ hl hw hH
                          · refine lv_bipush (v := 64) hx hb dX12_list_300 (by decide) ?_
                            refine lv_goto (tgt := 307) hx hb dX12_list_302 rfl ?_
                            exact jn77 64 σ69 ls _ _ hl hw hH
                      · skip
                        refine w_icmp_ge (tgt := 284) hF dX12_list_274 rfl hw (fun hw => ?_) (fun hw => ?_)
                        · refine lv_aload_n hx hb dX12_list_284 rfl (lv_at hl 11 rfl) ?_
                          refine w_getA 5 hF hH fk_X12_27 dX12_list_285 (by decide) rfl ?_
                          refine lv_aload_n hx hb dX12_list_288 rfl (lv_at hl 11 rfl) ?_
                          refine w_getI hF hH fk_X12_806 dX12_list_289 hw (fun z129 hw => ?_)
                          refine w_iald 5 160 hF hH dX12_list_292 (by decide) rfl rfl hw (fun z130 hw => ?_)
                          have hl : lv_has ls 17 [(12, .int z33), (11, .int 1), (9, .int x34.2.2.1), (8, .int x34.2.2.2.1), (7, .int x34.2.2.2.2), (6, .int x23), (5, .int z7), (3, .long z6), (2, .int z4), (1, .int z2), (0, .ref h0)] := lv_sub hl [1, 0, 3, 4, 5, 6, 7, 8, 9, 10, 11] rfl
                          exact jn72 z130 σ65 ls _ _ hl hw hH
                        · refine lv_aload_n hx hb dX12_list_277 rfl (lv_at hl 11 rfl) ?_
                          refine w_getI hF hH fk_X12_803 dX12_list_278 hw (fun z131 hw => ?_)
                          refine lv_goto (tgt := 293) hx hb dX12_list_281 rfl ?_
                          have hl : lv_has ls 17 [(12, .int z33), (11, .int 1), (9, .int x34.2.2.1), (8, .int x34.2.2.2.1), (7, .int x34.2.2.2.2), (6, .int x23), (5, .int z7), (3, .long z6), (2, .int z4), (1, .int z2), (0, .ref h0)] := lv_sub hl [1, 0, 3, 4, 5, 6, 7, 8, 9, 10, 11] rfl
                          exact jn72 z131 σ65 ls _ _ hl hw hH
              · skip
                refine w_if_eq (tgt := 230) hF dX12_list_111 rfl hw (fun hw => ?_) (fun hw => ?_)
                · exact jn32 () σ24 ls _ _ hl hw hH
                · refine lv_aload_n hx hb dX12_list_114 rfl (lv_at hl 5 rfl) ?_
                  refine lv_bipush (v := 88) hx hb dX12_list_115 (by decide) ?_
                  refine w_cVi (As := [.int 88]) (rest := []) hF hH hA mv_X12_415 (fun sz => c_X12_number2 l D t h0 L _ hH.2 88 _ hw sz) dX12_list_117 rfl rfl (by decide) rfl hl.1 (Nat.le_of_ble_eq_true rfl) (by decide) rfl (fun z133 σ132 H locs hw hH => ?_)
                  refine lv_istore (lv' := [(7, .int z133), (6, .int x23), (5, .int z7), (3, .long z6), (2, .int z4), (1, .int z2), (0, .ref h0)]) hx hb dX12_list_120 hl (by decide) rfl (fun ls hl => ?_)
                  refine lv_aload_n hx hb dX12_list_122 rfl (lv_at hl 6 rfl) ?_
                  refine lv_bipush (v := 90) hx hb dX12_list_123 (by decide) ?_
                  refine w_cVi (As := [.int 90]) (rest := []) hF hH hA mv_X12_415 (fun sz => c_X12_number2 l D t h0 L _ hH.2 90 _ hw sz) dX12_list_125 rfl rfl (by decide) rfl hl.1 (Nat.le_of_ble_eq_true rfl) (by decide) rfl (fun z135 σ134 H locs hw hH => ?_)
                  refine lv_istore (lv' := [(8, .int z135), (7, .int z133), (6, .int x23), (5, .int z7), (3, .long z6), (2, .int z4), (1, .int z2), (0, .ref h0)]) hx hb dX12_list_128 hl (by decide) rfl (fun ls hl => ?_)
                  refine lv_iload hx hb dX12_list_130 (lv_at hl 0 rfl) ?_
                  refine lv_iconst (v := 2) hx hb dX12_list_132 (by decide) ?_
                  refine lv_irem hx hb dX12_list_133 (by decide) ?_
                  refine w_nmi hw (fun z136 hw => ?_)
                  obtain ⟨K139, hK140, hw⟩ := jn_open hw
                  refine w_join (K := K139) 144 (fun (x137 : Unit) => []) (fun (x137 : Unit) => []) hl hH (fun x137 σ138 ls H locs hl hw hH => ?_) (fun jn141 => ?_)
                  · have hw := hK140 x137 σ138 hw
                    have hl : lv_has ls 17 [] := hl
                    refine lv_ldc2 (v := 3221225523) hx hb hF.1.2.2.2.1 (hF.1.2.2.2.2 _ (wc_53 39 rfl)) dX12_list_144 ?_
                    exact w_retl hF hH hr hlk dX12_list_147 hw
                  · skip
                    refine w_if_ne (tgt := 144) hF dX12_list_134 rfl hw (fun hw => ?_) (fun hw => ?_)
                    · have hl : lv_has ls 17 [] := lv_sub hl [] rfl
                      exact jn141 () σ134 ls _ _ hl hw hH
                    · refine lv_iload hx hb dX12_list_137 (lv_at hl 0 rfl) ?_
                      refine lv_bipush (v := 40) hx hb dX12_list_139 (by decide) ?_
                      refine w_icmp_le (tgt := 148) hF dX12_list_141 rfl hw (fun hw => ?_) (fun hw => ?_)
                      · refine lv_aload_n hx hb dX12_list_148 rfl (lv_at hl 7 rfl) ?_
                        refine w_getA 51 hF hH fk_X12_169 dX12_list_149 (by decide) rfl ?_
                        refine lv_iload hx hb dX12_list_152 (lv_at hl 3 rfl) ?_
                        refine lv_iload hx hb dX12_list_154 (lv_at hl 0 rfl) ?_
                        obtain ⟨K144, hK145, hw⟩ := jn_open hw
                        refine w_join (K := K144) 167 (fun (x142 : Int32) => [(8, .int z135), (7, .int z133), (6, .int x23), (5, .int z7), (3, .long z6), (2, .int z4), (1, .int z2), (0, .ref h0)]) (fun (x142 : Int32) => [.int x142, .int z7, .ref (L 51)]) hl hH (fun x142 σ143 ls H locs hl hw hH => ?_) (fun jn146 => ?_)
                        · have hw := hK145 x142 σ143 hw
                          have hl : lv_has ls 17 [(8, .int z135), (7, .int z133), (6, .int x23), (5, .int z7), (3, .long z6), (2, .int z4), (1, .int z2), (0, .ref h0)] := hl
                          refine w_iast 51 40 hF hH dX12_list_167 (by decide) rfl rfl hw (fun σ147 H locs hw hH => ?_)
                          refine lv_aload_n hx hb dX12_list_168 rfl (lv_at hl 7 rfl) ?_
                          refine w_getA 52 hF hH fk_X12_172 dX12_list_169 (by decide) rfl ?_
                          refine lv_bipush (v := 20) hx hb dX12_list_172 (by decide) ?_
                          refine lv_iload hx hb dX12_list_174 (lv_at hl 3 rfl) ?_
                          refine lv_imul hx hb dX12_list_176 ?_
                          refine w_nmi hw (fun z148 hw => ?_)
                          refine lv_bipush (v := 42) hx hb dX12_list_177 (by decide) ?_
                          refine w_iast 52 800 hF hH dX12_list_179 (by decide) rfl rfl hw (fun σ149 H locs hw hH => ?_)
                          refine lv_iconst (v := 0) hx hb dX12_list_180 (by decide) ?_
                          refine lv_istore (lv' := [(9, .int 0), (8, .int z135), (7, .int z133), (6, .int x23), (5, .int z7), (3, .long z6), (2, .int z4), (1, .int z2), (0, .ref h0)]) hx hb dX12_list_181 hl (by decide) rfl (fun ls hl => ?_)
                          refine w_loop (β := Int32) (fun x150 => [(9, .int x150), (8, .int z135), (7, .int z133), (6, .int x23), (5, .int z7), (3, .long z6), (2, .int z4), (1, .int z2), (0, .ref h0)]) 0 hl hw hH (fun K152 x150 σ151 ls H locs hl hw hH ih153 => ?_)
                          have hl : lv_has ls 17 [(9, .int x150), (8, .int z135), (7, .int z133), (6, .int x23), (5, .int z7), (3, .long z6), (2, .int z4), (1, .int z2), (0, .ref h0)] := hl
                          refine lv_iload hx hb dX12_list_183 (lv_at hl 0 rfl) ?_
                          refine lv_iload hx hb dX12_list_185 (lv_at hl 1 rfl) ?_
                          refine lv_iconst (v := 2) hx hb dX12_list_187 (by decide) ?_
                          refine lv_idiv hx hb dX12_list_188 (by decide) ?_
                          refine w_nmi hw (fun z154 hw => ?_)
                          refine w_icmp_ge (tgt := 222) hF dX12_list_189 rfl hw (fun hw => ?_) (fun hw => ?_)
                          · refine lv_aload_n hx hb dX12_list_222 rfl (lv_at hl 8 rfl) ?_
                            refine w_getA 53 hF hH fk_X12_175 dX12_list_223 (by decide) rfl ?_
                            refine lv_iload hx hb dX12_list_226 (lv_at hl 4 rfl) ?_
                            refine lv_iconst (v := 0) hx hb dX12_list_228 (by decide) ?_
                            refine w_iast 53 40 hF hH dX12_list_229 (by decide) rfl rfl hw (fun σ155 H locs hw hH => ?_)
                            have hl : lv_has ls 17 [(6, .int x23), (5, .int z7), (3, .long z6), (2, .int z4), (1, .int z2), (0, .ref h0)] := lv_sub hl [3, 4, 5, 6, 7, 8] rfl
                            exact jn32 () σ155 ls _ _ hl hw hH
                          · refine lv_aload_n hx hb dX12_list_192 rfl (lv_at hl 8 rfl) ?_
                            refine w_getA 52 hF hH fk_X12_172 dX12_list_193 (by decide) rfl ?_
                            refine lv_bipush (v := 20) hx hb dX12_list_196 (by decide) ?_
                            refine lv_iload hx hb dX12_list_198 (lv_at hl 4 rfl) ?_
                            refine lv_imul hx hb dX12_list_200 ?_
                            refine w_nmi hw (fun z156 hw => ?_)
                            refine lv_iload hx hb dX12_list_201 (lv_at hl 0 rfl) ?_
                            refine lv_iadd hx hb dX12_list_203 ?_
                            refine w_nmi hw (fun z157 hw => ?_)
                            refine lv_aload_n hx hb dX12_list_204 rfl (lv_at hl 8 rfl) ?_
                            refine lv_iload hx hb dX12_list_205 (lv_at hl 2 rfl) ?_
                            refine lv_iconst (v := 2) hx hb dX12_list_207 (by decide) ?_
                            refine lv_iload hx hb dX12_list_208 (lv_at hl 0 rfl) ?_
                            refine lv_imul hx hb dX12_list_210 ?_
                            refine w_nmi hw (fun z158 hw => ?_)
                            refine lv_iadd hx hb dX12_list_211 ?_
                            refine w_nmi hw (fun z159 hw => ?_)
                            refine w_cVi (As := [.int z159]) (rest := [.int z157, .ref (L 52)]) hF hH hA mv_X12_415 (fun sz => c_X12_number2 l D t h0 L _ hH.2 z159 _ hw sz) dX12_list_212 rfl rfl (by decide) rfl hl.1 (Nat.le_of_ble_eq_true rfl) (by decide) rfl (fun z161 σ160 H locs hw hH => ?_)
                            refine w_iast 52 800 hF hH dX12_list_215 (by decide) rfl rfl hw (fun σ162 H locs hw hH => ?_)
                            obtain ⟨z163, ez163⟩ : ∃ z : Int32, z = x150 + 1 := ⟨_, rfl⟩
                            have hw := hw z163 ez163
                            refine lv_iinc (lv' := [(9, .int z163), (8, .int z135), (7, .int z133), (6, .int x23), (5, .int z7), (3, .long z6), (2, .int z4), (1, .int z2), (0, .ref h0)]) (k := 0) (v := z163) hx hb dX12_list_216 hl rfl ez163.symm (by decide) rfl (fun ls hl => ?_)
                            refine lv_goto (tgt := 183) hx hb dX12_list_219 rfl ?_
                            exact ih153 z163 σ162 ls _ _ hl hw hH
                        · skip
                          refine w_if_ne (tgt := 163) hF dX12_list_156 rfl hw (fun hw => ?_) (fun hw => ?_)
                          · refine lv_iload hx hb dX12_list_163 (lv_at hl 0 rfl) ?_
                            refine lv_iconst (v := 2) hx hb dX12_list_165 (by decide) ?_
                            refine lv_idiv hx hb dX12_list_166 (by decide) ?_
                            refine w_nmi hw (fun z164 hw => ?_)
                            exact jn146 z164 σ134 ls _ _ hl hw hH
                          · refine lv_iconst (v := 1) hx hb dX12_list_159 (by decide) ?_
                            refine lv_goto (tgt := 167) hx hb dX12_list_160 rfl ?_
                            exact jn146 1 σ134 ls _ _ hl hw hH
                      · have hl : lv_has ls 17 [] := lv_sub hl [] rfl
                        exact jn141 () σ134 ls _ _ hl hw hH
            · skip
              obtain ⟨K167, hK168, hw⟩ := jn_open hw
              refine w_join (K := K167) 102 (fun (x165 : Unit) => [(5, .int z7), (3, .long z6), (2, .int z4), (1, .int z2), (0, .ref h0)]) (fun (x165 : Unit) => []) hl hH (fun x165 σ166 ls H locs hl hw hH => ?_) (fun jn169 => ?_)
              · have hw := hK168 x165 σ166 hw
                have hl : lv_has ls 17 [(5, .int z7), (3, .long z6), (2, .int z4), (1, .int z2), (0, .ref h0)] := hl
                refine lv_iconst (v := 1) hx hb dX12_list_102 (by decide) ?_
                refine lv_goto (tgt := 107) hx hb dX12_list_103 rfl ?_
                exact jn27 1 σ166 ls _ _ hl hw hH
              · skip
                refine w_if_lt (tgt := 102) hF dX12_list_93 rfl hw (fun hw => ?_) (fun hw => ?_)
                · exact jn169 () σ16 ls _ _ hl hw hH
                · refine lv_iload_n hx hb dX12_list_96 rfl (lv_at hl 2 rfl) ?_
                  refine lv_iconst (v := 1) hx hb dX12_list_97 (by decide) ?_
                  refine lv_iand hx hb dX12_list_98 ?_
                  refine w_nmi hw (fun z170 hw => ?_)
                  refine w_if_eq (tgt := 106) hF dX12_list_99 rfl hw (fun hw => ?_) (fun hw => ?_)
                  · refine lv_iconst (v := 0) hx hb dX12_list_106 (by decide) ?_
                    exact jn27 0 σ16 ls _ _ hl hw hH
                  · exact jn169 () σ16 ls _ _ hl hw hH
          · refine lv_ldc2 (v := 3221225506) hx hb hF.1.2.2.2.1 (hF.1.2.2.2.2 _ (wc_53 35 rfl)) dX12_list_82 ?_
            exact w_retl hF hH hr hlk dX12_list_85 hw
        · skip
          refine w_icmp_eq (tgt := 70) hF dX12_list_57 rfl hw (fun hw => ?_) (fun hw => ?_)
          · exact jn19 () σ5 ls _ _ hl hw hH
          · refine lv_iload_n hx hb dX12_list_60 rfl (lv_at hl 3 rfl) ?_
            refine lv_bipush (v := 12) hx hb dX12_list_61 (by decide) ?_
            refine w_icmp_eq (tgt := 70) hF dX12_list_63 rfl hw (fun hw => ?_) (fun hw => ?_)
            · exact jn19 () σ5 ls _ _ hl hw hH
            · refine lv_ldc2 (v := 3221225475) hx hb hF.1.2.2.2.1 (hF.1.2.2.2.2 _ (wc_56 24 rfl)) dX12_list_66 ?_
              exact w_retl hF hH hr hlk dX12_list_69 hw
      · have hl : lv_has ls 17 [] := lv_sub hl [] rfl
        exact jn12 () σ5 ls _ _ hl hw hH

/-! the reference, lifted: 12 -/
def F_X12_setInfo (h0 : Nat) (L : Nat → Nat)  (post : Int64 → HS → Prop) (σ : HS) : Prop := F_X12_number1 h0 L 66 (fun (z2 : Int32) (σ1 : HS) => F_X12_number1 h0 L 67 (fun (z4 : Int32) (σ3 : HS) => F_X12_number h0 L 68 4 (fun (z6 : Int64) (σ5 : HS) => F_X12_number2 h0 L 72 (fun (z8 : Int32) (σ7 : HS) => ∀ z9 : Int32, z9 = sI σ7 h0 100 → (0 ≤ z9.toInt ∧ z9.toInt < 40) ∧ ∀ z10 : Int32, z10 = sI σ7 (L 43) z9.toInt.toNat → jn (fun (K13 : Unit → HS → Prop) => ((¬ z2.toInt = (1 : Int32).toInt) → K13 () σ7) ∧ ((z2.toInt = (1 : Int32).toInt) → jn (fun (K18 : Unit → HS → Prop) => ((z4.toInt = (4 : Int32).toInt) → K18 () σ7) ∧ ((¬ z4.toInt = (4 : Int32).toInt) → ((z4.toInt = (20 : Int32).toInt) → K18 () σ7) ∧ ((¬ z4.toInt = (20 : Int32).toInt) → ((z4.toInt = (13 : Int32).toInt) → K18 () σ7) ∧ ((¬ z4.toInt = (13 : Int32).toInt) → ((z4.toInt = (10 : Int32).toInt) → K18 () σ7) ∧ ((¬ z4.toInt = (10 : Int32).toInt) → K13 () σ7))))) (fun (x16 : Unit) (σ17 : HS) => jn (fun (K23 : Int32 → HS → Prop) => ((¬ z4.toInt = (4 : Int32).toInt) → ((¬ z4.toInt = (20 : Int32).toInt) → ((¬ z4.toInt = (13 : Int32).toInt) → K23 20 σ17) ∧ ((z4.toInt = (13 : Int32).toInt) → K23 1 σ17)) ∧ ((z4.toInt = (20 : Int32).toInt) → K23 8 σ17)) ∧ ((z4.toInt = (4 : Int32).toInt) → K23 40 σ17)) (fun (x21 : Int32) (σ22 : HS) => ∀ z26 : Int64, z26 = (x21 : Int32).toInt64 → ((z26.toInt ≤ z6.toInt) → jn (fun (K29 : Int32 → HS → Prop) => ((¬ z4.toInt = (4 : Int32).toInt) → ((¬ z4.toInt = (20 : Int32).toInt) → K29 65536 σ22) ∧ ((z4.toInt = (20 : Int32).toInt) → K29 2 σ22)) ∧ ((z4.toInt = (4 : Int32).toInt) → K29 256 σ22)) (fun (x27 : Int32) (σ28 : HS) => ∀ z32 : Int32, z32 = sI σ28 h0 100 → (0 ≤ z32.toInt ∧ z32.toInt < 40) ∧ ∀ z33 : Int32, z33 = sI σ28 (L 44) z32.toInt.toNat → ∀ z34 : Int32, z34 = z33 &&& x27 → ((¬ z34.toInt = 0) → jn (fun (K37 : Int64 → HS → Prop) => ((¬ z4.toInt = (4 : Int32).toInt) → ((¬ z4.toInt = (20 : Int32).toInt) → ((¬ z4.toInt = (13 : Int32).toInt) → F_X12_rename h0 L z10 z8 z6 (fun (z43 : Int64) (σ42 : HS) => K37 z43 σ42) σ28) ∧ ((z4.toInt = (13 : Int32).toInt) → F_X12_setToGo h0 L z10 z8 (fun (z45 : Int64) (σ44 : HS) => K37 z45 σ44) σ28)) ∧ ((z4.toInt = (20 : Int32).toInt) → F_X12_setSize h0 L z10 z8 (fun (z47 : Int64) (σ46 : HS) => K37 z47 σ46) σ28)) ∧ ((z4.toInt = (4 : Int32).toInt) → F_X12_setBasic h0 L z10 z8 (fun (z49 : Int64) (σ48 : HS) => K37 z49 σ48) σ28)) (fun (x35 : Int64) (σ36 : HS) => ((x35.toInt = (0 : Int64).toInt) → F_X12_small h0 L 2 (fun (z41 : Int64) (σ40 : HS) => post z41 σ40) σ36) ∧ ((¬ x35.toInt = (0 : Int64).toInt) → post x35 σ36))) ∧ ((z34.toInt = 0) → post 3221225506 σ28))) ∧ ((z6.toInt < z26.toInt) → post 3221225476 σ22))))) (fun (x11 : Unit) (σ12 : HS) => post 3221225475 σ12)) σ5) σ3) σ1) σ
theorem dX12_setInfo_0 : decode cX12_setInfo 0 = .ok (.aload_n 0, 1) := by decide +kernel
theorem dX12_setInfo_1 : decode cX12_setInfo 1 = .ok (.bipush 66, 2) := by decide +kernel
theorem dX12_setInfo_3 : decode cX12_setInfo 3 = .ok (.invokevirtual 600, 3) := by decide +kernel
theorem dX12_setInfo_6 : decode cX12_setInfo 6 = .ok (.istore_n 1, 1) := by decide +kernel
theorem dX12_setInfo_7 : decode cX12_setInfo 7 = .ok (.aload_n 0, 1) := by decide +kernel
theorem dX12_setInfo_8 : decode cX12_setInfo 8 = .ok (.bipush 67, 2) := by decide +kernel
theorem dX12_setInfo_10 : decode cX12_setInfo 10 = .ok (.invokevirtual 600, 3) := by decide +kernel
theorem dX12_setInfo_13 : decode cX12_setInfo 13 = .ok (.istore_n 2, 1) := by decide +kernel
theorem dX12_setInfo_14 : decode cX12_setInfo 14 = .ok (.aload_n 0, 1) := by decide +kernel
theorem dX12_setInfo_15 : decode cX12_setInfo 15 = .ok (.bipush 68, 2) := by decide +kernel
theorem dX12_setInfo_17 : decode cX12_setInfo 17 = .ok (.iconst 4, 1) := by decide +kernel
theorem dX12_setInfo_18 : decode cX12_setInfo 18 = .ok (.invokevirtual 364, 3) := by decide +kernel
theorem dX12_setInfo_21 : decode cX12_setInfo 21 = .ok (.lstore_n 3, 1) := by decide +kernel
theorem dX12_setInfo_22 : decode cX12_setInfo 22 = .ok (.aload_n 0, 1) := by decide +kernel
theorem dX12_setInfo_23 : decode cX12_setInfo 23 = .ok (.bipush 72, 2) := by decide +kernel
theorem dX12_setInfo_25 : decode cX12_setInfo 25 = .ok (.invokevirtual 415, 3) := by decide +kernel
theorem dX12_setInfo_28 : decode cX12_setInfo 28 = .ok (.istore 5, 2) := by decide +kernel
theorem dX12_setInfo_30 : decode cX12_setInfo 30 = .ok (.aload_n 0, 1) := by decide +kernel
theorem dX12_setInfo_31 : decode cX12_setInfo 31 = .ok (.getfield 145, 3) := by decide +kernel
theorem dX12_setInfo_34 : decode cX12_setInfo 34 = .ok (.aload_n 0, 1) := by decide +kernel
theorem dX12_setInfo_35 : decode cX12_setInfo 35 = .ok (.getfield 525, 3) := by decide +kernel
theorem dX12_setInfo_38 : decode cX12_setInfo 38 = .ok (.iaload, 1) := by decide +kernel
theorem dX12_setInfo_39 : decode cX12_setInfo 39 = .ok (.istore 6, 2) := by decide +kernel
theorem dX12_setInfo_41 : decode cX12_setInfo 41 = .ok (.iload_n 1, 1) := by decide +kernel
theorem dX12_setInfo_42 : decode cX12_setInfo 42 = .ok (.iconst 1, 1) := by decide +kernel
theorem dX12_setInfo_43 : decode cX12_setInfo 43 = .ok (.if_icmp .ne 26, 3) := by decide +kernel
theorem dX12_setInfo_46 : decode cX12_setInfo 46 = .ok (.iload_n 2, 1) := by decide +kernel
theorem dX12_setInfo_47 : decode cX12_setInfo 47 = .ok (.iconst 4, 1) := by decide +kernel
theorem dX12_setInfo_48 : decode cX12_setInfo 48 = .ok (.if_icmp .eq 25, 3) := by decide +kernel
theorem dX12_setInfo_51 : decode cX12_setInfo 51 = .ok (.iload_n 2, 1) := by decide +kernel
theorem dX12_setInfo_52 : decode cX12_setInfo 52 = .ok (.bipush 20, 2) := by decide +kernel
theorem dX12_setInfo_54 : decode cX12_setInfo 54 = .ok (.if_icmp .eq 19, 3) := by decide +kernel
theorem dX12_setInfo_57 : decode cX12_setInfo 57 = .ok (.iload_n 2, 1) := by decide +kernel
theorem dX12_setInfo_58 : decode cX12_setInfo 58 = .ok (.bipush 13, 2) := by decide +kernel
theorem dX12_setInfo_60 : decode cX12_setInfo 60 = .ok (.if_icmp .eq 13, 3) := by decide +kernel
theorem dX12_setInfo_63 : decode cX12_setInfo 63 = .ok (.iload_n 2, 1) := by decide +kernel
theorem dX12_setInfo_64 : decode cX12_setInfo 64 = .ok (.bipush 10, 2) := by decide +kernel
theorem dX12_setInfo_66 : decode cX12_setInfo 66 = .ok (.if_icmp .eq 7, 3) := by decide +kernel
theorem dX12_setInfo_69 : decode cX12_setInfo 69 = .ok (.ldc2_w 815, 3) := by decide +kernel
theorem dX12_setInfo_72 : decode cX12_setInfo 72 = .ok (.lreturn, 1) := by decide +kernel
theorem dX12_setInfo_73 : decode cX12_setInfo 73 = .ok (.iload_n 2, 1) := by decide +kernel
theorem dX12_setInfo_74 : decode cX12_setInfo 74 = .ok (.iconst 4, 1) := by decide +kernel
theorem dX12_setInfo_75 : decode cX12_setInfo 75 = .ok (.if_icmp .ne 8, 3) := by decide +kernel
theorem dX12_setInfo_78 : decode cX12_setInfo 78 = .ok (.bipush 40, 2) := by decide +kernel
theorem dX12_setInfo_80 : decode cX12_setInfo 80 = .ok (.goto 26, 3) := by decide +kernel
theorem dX12_setInfo_83 : decode cX12_setInfo 83 = .ok (.iload_n 2, 1) := by decide +kernel
theorem dX12_setInfo_84 : decode cX12_setInfo 84 = .ok (.bipush 20, 2) := by decide +kernel
theorem dX12_setInfo_86 : decode cX12_setInfo 86 = .ok (.if_icmp .ne 8, 3) := by decide +kernel
theorem dX12_setInfo_89 : decode cX12_setInfo 89 = .ok (.bipush 8, 2) := by decide +kernel
theorem dX12_setInfo_91 : decode cX12_setInfo 91 = .ok (.goto 15, 3) := by decide +kernel
theorem dX12_setInfo_94 : decode cX12_setInfo 94 = .ok (.iload_n 2, 1) := by decide +kernel
theorem dX12_setInfo_95 : decode cX12_setInfo 95 = .ok (.bipush 13, 2) := by decide +kernel
theorem dX12_setInfo_97 : decode cX12_setInfo 97 = .ok (.if_icmp .ne 7, 3) := by decide +kernel
theorem dX12_setInfo_100 : decode cX12_setInfo 100 = .ok (.iconst 1, 1) := by decide +kernel
theorem dX12_setInfo_101 : decode cX12_setInfo 101 = .ok (.goto 5, 3) := by decide +kernel
theorem dX12_setInfo_104 : decode cX12_setInfo 104 = .ok (.bipush 20, 2) := by decide +kernel
theorem dX12_setInfo_106 : decode cX12_setInfo 106 = .ok (.istore 7, 2) := by decide +kernel
theorem dX12_setInfo_108 : decode cX12_setInfo 108 = .ok (.lload_n 3, 1) := by decide +kernel
theorem dX12_setInfo_109 : decode cX12_setInfo 109 = .ok (.iload 7, 2) := by decide +kernel
theorem dX12_setInfo_111 : decode cX12_setInfo 111 = .ok (.i2l, 1) := by decide +kernel
theorem dX12_setInfo_112 : decode cX12_setInfo 112 = .ok (.lcmp, 1) := by decide +kernel
theorem dX12_setInfo_113 : decode cX12_setInfo 113 = .ok (.ifCond .ge 7, 3) := by decide +kernel
theorem dX12_setInfo_116 : decode cX12_setInfo 116 = .ok (.ldc2_w 826, 3) := by decide +kernel
theorem dX12_setInfo_119 : decode cX12_setInfo 119 = .ok (.lreturn, 1) := by decide +kernel
theorem dX12_setInfo_120 : decode cX12_setInfo 120 = .ok (.iload_n 2, 1) := by decide +kernel
theorem dX12_setInfo_121 : decode cX12_setInfo 121 = .ok (.iconst 4, 1) := by decide +kernel
theorem dX12_setInfo_122 : decode cX12_setInfo 122 = .ok (.if_icmp .ne 9, 3) := by decide +kernel
theorem dX12_setInfo_125 : decode cX12_setInfo 125 = .ok (.sipush 256, 3) := by decide +kernel
theorem dX12_setInfo_128 : decode cX12_setInfo 128 = .ok (.goto 16, 3) := by decide +kernel
theorem dX12_setInfo_131 : decode cX12_setInfo 131 = .ok (.iload_n 2, 1) := by decide +kernel
theorem dX12_setInfo_132 : decode cX12_setInfo 132 = .ok (.bipush 20, 2) := by decide +kernel
theorem dX12_setInfo_134 : decode cX12_setInfo 134 = .ok (.if_icmp .ne 7, 3) := by decide +kernel
theorem dX12_setInfo_137 : decode cX12_setInfo 137 = .ok (.iconst 2, 1) := by decide +kernel
theorem dX12_setInfo_138 : decode cX12_setInfo 138 = .ok (.goto 6, 3) := by decide +kernel
theorem dX12_setInfo_141 : decode cX12_setInfo 141 = .ok (.ldc_w 648, 3) := by decide +kernel
theorem dX12_setInfo_144 : decode cX12_setInfo 144 = .ok (.istore 8, 2) := by decide +kernel
theorem dX12_setInfo_146 : decode cX12_setInfo 146 = .ok (.aload_n 0, 1) := by decide +kernel
theorem dX12_setInfo_147 : decode cX12_setInfo 147 = .ok (.getfield 148, 3) := by decide +kernel
theorem dX12_setInfo_150 : decode cX12_setInfo 150 = .ok (.aload_n 0, 1) := by decide +kernel
theorem dX12_setInfo_151 : decode cX12_setInfo 151 = .ok (.getfield 525, 3) := by decide +kernel
theorem dX12_setInfo_154 : decode cX12_setInfo 154 = .ok (.iaload, 1) := by decide +kernel
theorem dX12_setInfo_155 : decode cX12_setInfo 155 = .ok (.iload 8, 2) := by decide +kernel
theorem dX12_setInfo_157 : decode cX12_setInfo 157 = .ok (.iand, 1) := by decide +kernel
theorem dX12_setInfo_158 : decode cX12_setInfo 158 = .ok (.ifCond .ne 7, 3) := by decide +kernel
theorem dX12_setInfo_161 : decode cX12_setInfo 161 = .ok (.ldc2_w 667, 3) := by decide +kernel
theorem dX12_setInfo_164 : decode cX12_setInfo 164 = .ok (.lreturn, 1) := by decide +kernel
theorem dX12_setInfo_165 : decode cX12_setInfo 165 = .ok (.iload_n 2, 1) := by decide +kernel
theorem dX12_setInfo_166 : decode cX12_setInfo 166 = .ok (.iconst 4, 1) := by decide +kernel
theorem dX12_setInfo_167 : decode cX12_setInfo 167 = .ok (.if_icmp .ne 14, 3) := by decide +kernel
theorem dX12_setInfo_170 : decode cX12_setInfo 170 = .ok (.aload_n 0, 1) := by decide +kernel
theorem dX12_setInfo_171 : decode cX12_setInfo 171 = .ok (.iload 6, 2) := by decide +kernel
theorem dX12_setInfo_173 : decode cX12_setInfo 173 = .ok (.iload 5, 2) := by decide +kernel
theorem dX12_setInfo_175 : decode cX12_setInfo 175 = .ok (.invokevirtual 842, 3) := by decide +kernel
theorem dX12_setInfo_178 : decode cX12_setInfo 178 = .ok (.goto 46, 3) := by decide +kernel
theorem dX12_setInfo_181 : decode cX12_setInfo 181 = .ok (.iload_n 2, 1) := by decide +kernel
theorem dX12_setInfo_182 : decode cX12_setInfo 182 = .ok (.bipush 20, 2) := by decide +kernel
theorem dX12_setInfo_184 : decode cX12_setInfo 184 = .ok (.if_icmp .ne 14, 3) := by decide +kernel
theorem dX12_setInfo_187 : decode cX12_setInfo 187 = .ok (.aload_n 0, 1) := by decide +kernel
theorem dX12_setInfo_188 : decode cX12_setInfo 188 = .ok (.iload 6, 2) := by decide +kernel
theorem dX12_setInfo_190 : decode cX12_setInfo 190 = .ok (.iload 5, 2) := by decide +kernel
theorem dX12_setInfo_192 : decode cX12_setInfo 192 = .ok (.invokevirtual 845, 3) := by decide +kernel
theorem dX12_setInfo_195 : decode cX12_setInfo 195 = .ok (.goto 29, 3) := by decide +kernel
theorem dX12_setInfo_198 : decode cX12_setInfo 198 = .ok (.iload_n 2, 1) := by decide +kernel
theorem dX12_setInfo_199 : decode cX12_setInfo 199 = .ok (.bipush 13, 2) := by decide +kernel
theorem dX12_setInfo_201 : decode cX12_setInfo 201 = .ok (.if_icmp .ne 14, 3) := by decide +kernel
theorem dX12_setInfo_204 : decode cX12_setInfo 204 = .ok (.aload_n 0, 1) := by decide +kernel
theorem dX12_setInfo_205 : decode cX12_setInfo 205 = .ok (.iload 6, 2) := by decide +kernel
theorem dX12_setInfo_207 : decode cX12_setInfo 207 = .ok (.iload 5, 2) := by decide +kernel
theorem dX12_setInfo_209 : decode cX12_setInfo 209 = .ok (.invokevirtual 848, 3) := by decide +kernel
theorem dX12_setInfo_212 : decode cX12_setInfo 212 = .ok (.goto 12, 3) := by decide +kernel
theorem dX12_setInfo_215 : decode cX12_setInfo 215 = .ok (.aload_n 0, 1) := by decide +kernel
theorem dX12_setInfo_216 : decode cX12_setInfo 216 = .ok (.iload 6, 2) := by decide +kernel
theorem dX12_setInfo_218 : decode cX12_setInfo 218 = .ok (.iload 5, 2) := by decide +kernel
theorem dX12_setInfo_220 : decode cX12_setInfo 220 = .ok (.lload_n 3, 1) := by decide +kernel
theorem dX12_setInfo_221 : decode cX12_setInfo 221 = .ok (.invokevirtual 851, 3) := by decide +kernel
theorem dX12_setInfo_224 : decode cX12_setInfo 224 = .ok (.lstore 9, 2) := by decide +kernel
theorem dX12_setInfo_226 : decode cX12_setInfo 226 = .ok (.lload 9, 2) := by decide +kernel
theorem dX12_setInfo_228 : decode cX12_setInfo 228 = .ok (.lconst 0, 1) := by decide +kernel
theorem dX12_setInfo_229 : decode cX12_setInfo 229 = .ok (.lcmp, 1) := by decide +kernel
theorem dX12_setInfo_230 : decode cX12_setInfo 230 = .ok (.ifCond .eq 6, 3) := by decide +kernel
theorem dX12_setInfo_233 : decode cX12_setInfo 233 = .ok (.lload 9, 2) := by decide +kernel
theorem dX12_setInfo_235 : decode cX12_setInfo 235 = .ok (.lreturn, 1) := by decide +kernel
theorem dX12_setInfo_236 : decode cX12_setInfo 236 = .ok (.aload_n 0, 1) := by decide +kernel
theorem dX12_setInfo_237 : decode cX12_setInfo 237 = .ok (.iconst 2, 1) := by decide +kernel
theorem dX12_setInfo_238 : decode cX12_setInfo 238 = .ok (.invokevirtual 536, 3) := by decide +kernel
theorem dX12_setInfo_241 : decode cX12_setInfo 241 = .ok (.lreturn, 1) := by decide +kernel
set_option maxRecDepth 100000 in
set_option maxHeartbeats 4000000 in
theorem c_X12_setInfo (l : Launch) (D : va_G) (t : Nat → ClassId) (h0 : Nat) (L : Nat → Nat) (σ : HS) (hM : MdI h0 L σ)  (post : Int64 → HS → Prop) (hw : F_X12_setInfo h0 L  post σ) (sz : Nat) : RMl l D t yX12_setInfo cX12_setInfo 11 (some .long) ({ frames := 6, cells := 0, slots := 0, locals := 140 }) h0 L σ sz [.ref h0] post := by
  refine h_go (τ := τT) okT (by decide) (Nat.le_of_ble_eq_true rfl) ?_
  intro p e s m below meth c ls A hF hr hlk hAe hH0 hA hl
  unfold hB
  rw [hAe]
  clear hAe
  have hF : FX p m c cX12_setInfo 11 s _ RX12 D t := hF
  have hx := hF.1.1
  have hb := hF.1.2.1
  have hH : RT D t A s.heap h0 L σ s.heap [] := ⟨hH0, hM⟩
  have hl : lv_has ls 11 [(0, .ref h0)] := hl
  unfold F_X12_setInfo at hw
  refine lv_aload_n hx hb dX12_setInfo_0 rfl (lv_at hl 0 rfl) ?_
  refine lv_bipush (v := 66) hx hb dX12_setInfo_1 (by decide) ?_
  refine w_cVi (As := [.int 66]) (rest := []) hF hH hA mv_X12_600 (fun sz => c_X12_number1 l D t h0 L _ hH.2 66 _ hw sz) dX12_setInfo_3 rfl rfl (by decide) rfl hl.1 (Nat.le_of_ble_eq_true rfl) (by decide) rfl (fun z2 σ1 H locs hw hH => ?_)
  refine lv_istore_n (lv' := [(1, .int z2), (0, .ref h0)]) hx hb dX12_setInfo_6 rfl hl (by decide) rfl (fun ls hl => ?_)
  refine lv_aload_n hx hb dX12_setInfo_7 rfl (lv_at hl 1 rfl) ?_
  refine lv_bipush (v := 67) hx hb dX12_setInfo_8 (by decide) ?_
  refine w_cVi (As := [.int 67]) (rest := []) hF hH hA mv_X12_600 (fun sz => c_X12_number1 l D t h0 L _ hH.2 67 _ hw sz) dX12_setInfo_10 rfl rfl (by decide) rfl hl.1 (Nat.le_of_ble_eq_true rfl) (by decide) rfl (fun z4 σ3 H locs hw hH => ?_)
  refine lv_istore_n (lv' := [(2, .int z4), (1, .int z2), (0, .ref h0)]) hx hb dX12_setInfo_13 rfl hl (by decide) rfl (fun ls hl => ?_)
  refine lv_aload_n hx hb dX12_setInfo_14 rfl (lv_at hl 2 rfl) ?_
  refine lv_bipush (v := 68) hx hb dX12_setInfo_15 (by decide) ?_
  refine lv_iconst (v := 4) hx hb dX12_setInfo_17 (by decide) ?_
  refine w_cVl (As := [.int 68, .int 4]) (rest := []) hF hH hA mv_X12_364 (fun sz => c_X12_number l D t h0 L _ hH.2 68 4 _ hw sz) dX12_setInfo_18 rfl rfl (by decide) rfl hl.1 (Nat.le_of_ble_eq_true rfl) (by decide) rfl (fun z6 σ5 H locs hw hH => ?_)
  refine lv_lstore_n (lv' := [(3, .long z6), (2, .int z4), (1, .int z2), (0, .ref h0)]) hx hb dX12_setInfo_21 rfl hl (by decide) rfl (fun ls hl => ?_)
  refine lv_aload_n hx hb dX12_setInfo_22 rfl (lv_at hl 3 rfl) ?_
  refine lv_bipush (v := 72) hx hb dX12_setInfo_23 (by decide) ?_
  refine w_cVi (As := [.int 72]) (rest := []) hF hH hA mv_X12_415 (fun sz => c_X12_number2 l D t h0 L _ hH.2 72 _ hw sz) dX12_setInfo_25 rfl rfl (by decide) rfl hl.1 (Nat.le_of_ble_eq_true rfl) (by decide) rfl (fun z8 σ7 H locs hw hH => ?_)
  refine lv_istore (lv' := [(5, .int z8), (3, .long z6), (2, .int z4), (1, .int z2), (0, .ref h0)]) hx hb dX12_setInfo_28 hl (by decide) rfl (fun ls hl => ?_)
  refine lv_aload_n hx hb dX12_setInfo_30 rfl (lv_at hl 4 rfl) ?_
  refine w_getA 43 hF hH fk_X12_145 dX12_setInfo_31 (by decide) rfl ?_
  refine lv_aload_n hx hb dX12_setInfo_34 rfl (lv_at hl 4 rfl) ?_
  refine w_getI hF hH fk_X12_525 dX12_setInfo_35 hw (fun z9 hw => ?_)
  refine w_iald 43 40 hF hH dX12_setInfo_38 (by decide) rfl rfl hw (fun z10 hw => ?_)
  refine lv_istore (lv' := [(6, .int z10), (5, .int z8), (3, .long z6), (2, .int z4), (1, .int z2), (0, .ref h0)]) hx hb dX12_setInfo_39 hl (by decide) rfl (fun ls hl => ?_)
  refine lv_iload_n hx hb dX12_setInfo_41 rfl (lv_at hl 4 rfl) ?_
  refine lv_iconst (v := 1) hx hb dX12_setInfo_42 (by decide) ?_
  obtain ⟨K13, hK14, hw⟩ := jn_open hw
  refine w_join (K := K13) 69 (fun (x11 : Unit) => []) (fun (x11 : Unit) => []) hl hH (fun x11 σ12 ls H locs hl hw hH => ?_) (fun jn15 => ?_)
  · have hw := hK14 x11 σ12 hw
    have hl : lv_has ls 11 [] := hl
    refine lv_ldc2 (v := 3221225475) hx hb hF.1.2.2.2.1 (hF.1.2.2.2.2 _ (wc_56 24 rfl)) dX12_setInfo_69 ?_
    exact w_retl hF hH hr hlk dX12_setInfo_72 hw
  · skip
    refine w_icmp_ne (tgt := 69) hF dX12_setInfo_43 rfl hw (fun hw => ?_) (fun hw => ?_)
    · have hl : lv_has ls 11 [] := lv_sub hl [] rfl
      exact jn15 () σ7 ls _ _ hl hw hH
    · refine lv_iload_n hx hb dX12_setInfo_46 rfl (lv_at hl 3 rfl) ?_
      refine lv_iconst (v := 4) hx hb dX12_setInfo_47 (by decide) ?_
      obtain ⟨K18, hK19, hw⟩ := jn_open hw
      refine w_join (K := K18) 73 (fun (x16 : Unit) => [(6, .int z10), (5, .int z8), (3, .long z6), (2, .int z4), (0, .ref h0)]) (fun (x16 : Unit) => []) hl hH (fun x16 σ17 ls H locs hl hw hH => ?_) (fun jn20 => ?_)
      · have hw := hK19 x16 σ17 hw
        have hl : lv_has ls 11 [(6, .int z10), (5, .int z8), (3, .long z6), (2, .int z4), (0, .ref h0)] := hl
        refine lv_iload_n hx hb dX12_setInfo_73 rfl (lv_at hl 3 rfl) ?_
        refine lv_iconst (v := 4) hx hb dX12_setInfo_74 (by decide) ?_
        obtain ⟨K23, hK24, hw⟩ := jn_open hw
        refine w_join (K := K23) 106 (fun (x21 : Int32) => [(6, .int z10), (5, .int z8), (3, .long z6), (2, .int z4), (0, .ref h0)]) (fun (x21 : Int32) => [.int x21]) hl hH (fun x21 σ22 ls H locs hl hw hH => ?_) (fun jn25 => ?_)
        · have hw := hK24 x21 σ22 hw
          have hl : lv_has ls 11 [(6, .int z10), (5, .int z8), (3, .long z6), (2, .int z4), (0, .ref h0)] := hl
          refine lv_istore (lv' := [(7, .int x21), (6, .int z10), (5, .int z8), (3, .long z6), (2, .int z4), (0, .ref h0)]) hx hb dX12_setInfo_106 hl (by decide) rfl (fun ls hl => ?_)
          refine lv_lload_n hx hb dX12_setInfo_108 rfl (lv_at hl 3 rfl) ?_
          refine lv_iload hx hb dX12_setInfo_109 (lv_at hl 0 rfl) ?_
          refine lv_i2l hx hb dX12_setInfo_111 rfl ?_
          refine w_nml hw (fun z26 hw => ?_)
          refine w_lif_ge (tgt := 120) hF dX12_setInfo_112 dX12_setInfo_113 rfl hw (fun hw => ?_) (fun hw => ?_)
          · refine lv_iload_n hx hb dX12_setInfo_120 rfl (lv_at hl 4 rfl) ?_
            refine lv_iconst (v := 4) hx hb dX12_setInfo_121 (by decide) ?_
            obtain ⟨K29, hK30, hw⟩ := jn_open hw
            refine w_join (K := K29) 144 (fun (x27 : Int32) => [(6, .int z10), (5, .int z8), (3, .long z6), (2, .int z4), (0, .ref h0)]) (fun (x27 : Int32) => [.int x27]) hl hH (fun x27 σ28 ls H locs hl hw hH => ?_) (fun jn31 => ?_)
            · have hw := hK30 x27 σ28 hw
              have hl : lv_has ls 11 [(6, .int z10), (5, .int z8), (3, .long z6), (2, .int z4), (0, .ref h0)] := hl
              refine lv_istore (lv' := [(8, .int x27), (6, .int z10), (5, .int z8), (3, .long z6), (2, .int z4), (0, .ref h0)]) hx hb dX12_setInfo_144 hl (by decide) rfl (fun ls hl => ?_)
              refine lv_aload_n hx hb dX12_setInfo_146 rfl (lv_at hl 5 rfl) ?_
              refine w_getA 44 hF hH fk_X12_148 dX12_setInfo_147 (by decide) rfl ?_
              refine lv_aload_n hx hb dX12_setInfo_150 rfl (lv_at hl 5 rfl) ?_
              refine w_getI hF hH fk_X12_525 dX12_setInfo_151 hw (fun z32 hw => ?_)
              refine w_iald 44 40 hF hH dX12_setInfo_154 (by decide) rfl rfl hw (fun z33 hw => ?_)
              refine lv_iload hx hb dX12_setInfo_155 (lv_at hl 0 rfl) ?_
              refine lv_iand hx hb dX12_setInfo_157 ?_
              refine w_nmi hw (fun z34 hw => ?_)
              refine w_if_ne (tgt := 165) hF dX12_setInfo_158 rfl hw (fun hw => ?_) (fun hw => ?_)
              · refine lv_iload_n hx hb dX12_setInfo_165 rfl (lv_at hl 4 rfl) ?_
                refine lv_iconst (v := 4) hx hb dX12_setInfo_166 (by decide) ?_
                obtain ⟨K37, hK38, hw⟩ := jn_open hw
                refine w_join (K := K37) 224 (fun (x35 : Int64) => [(0, .ref h0)]) (fun (x35 : Int64) => [.long x35]) hl hH (fun x35 σ36 ls H locs hl hw hH => ?_) (fun jn39 => ?_)
                · have hw := hK38 x35 σ36 hw
                  have hl : lv_has ls 11 [(0, .ref h0)] := hl
                  refine lv_lstore (lv' := [(9, .long x35), (0, .ref h0)]) hx hb dX12_setInfo_224 hl (by decide) rfl (fun ls hl => ?_)
                  refine lv_lload hx hb dX12_setInfo_226 (lv_at hl 0 rfl) ?_
                  refine lv_lconst (v := 0) hx hb dX12_setInfo_228 (by decide) ?_
                  refine w_lif_eq (tgt := 236) hF dX12_setInfo_229 dX12_setInfo_230 rfl hw (fun hw => ?_) (fun hw => ?_)
                  · refine lv_aload_n hx hb dX12_setInfo_236 rfl (lv_at hl 1 rfl) ?_
                    refine lv_iconst (v := 2) hx hb dX12_setInfo_237 (by decide) ?_
                    refine w_cVl (As := [.int 2]) (rest := []) hF hH hA mv_X12_536 (fun sz => c_X12_small l D t h0 L _ hH.2 2 _ hw sz) dX12_setInfo_238 rfl rfl (by decide) rfl hl.1 (Nat.le_of_ble_eq_true rfl) (by decide) rfl (fun z41 σ40 H locs hw hH => ?_)
                    exact w_retl hF hH hr hlk dX12_setInfo_241 hw
                  · refine lv_lload hx hb dX12_setInfo_233 (lv_at hl 0 rfl) ?_
                    exact w_retl hF hH hr hlk dX12_setInfo_235 hw
                · skip
                  refine w_icmp_ne (tgt := 181) hF dX12_setInfo_167 rfl hw (fun hw => ?_) (fun hw => ?_)
                  · refine lv_iload_n hx hb dX12_setInfo_181 rfl (lv_at hl 4 rfl) ?_
                    refine lv_bipush (v := 20) hx hb dX12_setInfo_182 (by decide) ?_
                    refine w_icmp_ne (tgt := 198) hF dX12_setInfo_184 rfl hw (fun hw => ?_) (fun hw => ?_)
                    · refine lv_iload_n hx hb dX12_setInfo_198 rfl (lv_at hl 4 rfl) ?_
                      refine lv_bipush (v := 13) hx hb dX12_setInfo_199 (by decide) ?_
                      refine w_icmp_ne (tgt := 215) hF dX12_setInfo_201 rfl hw (fun hw => ?_) (fun hw => ?_)
                      · refine lv_aload_n hx hb dX12_setInfo_215 rfl (lv_at hl 5 rfl) ?_
                        refine lv_iload hx hb dX12_setInfo_216 (lv_at hl 1 rfl) ?_
                        refine lv_iload hx hb dX12_setInfo_218 (lv_at hl 2 rfl) ?_
                        refine lv_lload_n hx hb dX12_setInfo_220 rfl (lv_at hl 3 rfl) ?_
                        refine w_cVl (As := [.int z10, .int z8, .long z6]) (rest := []) hF hH hA mv_X12_851 (fun sz => c_X12_rename l D t h0 L _ hH.2 z10 z8 z6 _ hw sz) dX12_setInfo_221 rfl rfl (by decide) rfl hl.1 (Nat.le_of_ble_eq_true rfl) (by decide) rfl (fun z43 σ42 H locs hw hH => ?_)
                        have hl : lv_has ls 11 [(0, .ref h0)] := lv_sub hl [5] rfl
                        exact jn39 z43 σ42 ls _ _ hl hw hH
                      · refine lv_aload_n hx hb dX12_setInfo_204 rfl (lv_at hl 5 rfl) ?_
                        refine lv_iload hx hb dX12_setInfo_205 (lv_at hl 1 rfl) ?_
                        refine lv_iload hx hb dX12_setInfo_207 (lv_at hl 2 rfl) ?_
                        refine w_cVl (As := [.int z10, .int z8]) (rest := []) hF hH hA mv_X12_848 (fun sz => c_X12_setToGo l D t h0 L _ hH.2 z10 z8 _ hw sz) dX12_setInfo_209 rfl rfl (by decide) rfl hl.1 (Nat.le_of_ble_eq_true rfl) (by decide) rfl (fun z45 σ44 H locs hw hH => ?_)
                        refine lv_goto (tgt := 224) hx hb dX12_setInfo_212 rfl ?_
                        have hl : lv_has ls 11 [(0, .ref h0)] := lv_sub hl [5] rfl
                        exact jn39 z45 σ44 ls _ _ hl hw hH
                    · refine lv_aload_n hx hb dX12_setInfo_187 rfl (lv_at hl 5 rfl) ?_
                      refine lv_iload hx hb dX12_setInfo_188 (lv_at hl 1 rfl) ?_
                      refine lv_iload hx hb dX12_setInfo_190 (lv_at hl 2 rfl) ?_
                      refine w_cVl (As := [.int z10, .int z8]) (rest := []) hF hH hA mv_X12_845 (fun sz => c_X12_setSize l D t h0 L _ hH.2 z10 z8 _ hw sz) dX12_setInfo_192 rfl rfl (by decide) rfl hl.1 (Nat.le_of_ble_eq_true rfl) (by decide) rfl (fun z47 σ46 H locs hw hH => ?_)
                      refine lv_goto (tgt := 224) hx hb dX12_setInfo_195 rfl ?_
                      have hl : lv_has ls 11 [(0, .ref h0)] := lv_sub hl [5] rfl
                      exact jn39 z47 σ46 ls _ _ hl hw hH
                  · refine lv_aload_n hx hb dX12_setInfo_170 rfl (lv_at hl 5 rfl) ?_
                    refine lv_iload hx hb dX12_setInfo_171 (lv_at hl 1 rfl) ?_
                    refine lv_iload hx hb dX12_setInfo_173 (lv_at hl 2 rfl) ?_
                    refine w_cVl (As := [.int z10, .int z8]) (rest := []) hF hH hA mv_X12_842 (fun sz => c_X12_setBasic l D t h0 L _ hH.2 z10 z8 _ hw sz) dX12_setInfo_175 rfl rfl (by decide) rfl hl.1 (Nat.le_of_ble_eq_true rfl) (by decide) rfl (fun z49 σ48 H locs hw hH => ?_)
                    refine lv_goto (tgt := 224) hx hb dX12_setInfo_178 rfl ?_
                    have hl : lv_has ls 11 [(0, .ref h0)] := lv_sub hl [5] rfl
                    exact jn39 z49 σ48 ls _ _ hl hw hH
              · refine lv_ldc2 (v := 3221225506) hx hb hF.1.2.2.2.1 (hF.1.2.2.2.2 _ (wc_53 35 rfl)) dX12_setInfo_161 ?_
                exact w_retl hF hH hr hlk dX12_setInfo_164 hw
            · skip
              refine w_icmp_ne (tgt := 131) hF dX12_setInfo_122 rfl hw (fun hw => ?_) (fun hw => ?_)
              · refine lv_iload_n hx hb dX12_setInfo_131 rfl (lv_at hl 4 rfl) ?_
                refine lv_bipush (v := 20) hx hb dX12_setInfo_132 (by decide) ?_
                refine w_icmp_ne (tgt := 141) hF dX12_setInfo_134 rfl hw (fun hw => ?_) (fun hw => ?_)
                · refine lv_ldcw (v := 65536) hx hb hF.1.2.2.2.1 (hF.1.2.2.2.2 _ (wc_53 27 rfl)) dX12_setInfo_141 ?_
                  have hl : lv_has ls 11 [(6, .int z10), (5, .int z8), (3, .long z6), (2, .int z4), (0, .ref h0)] := lv_sub hl [1, 2, 3, 4, 5] rfl
                  exact jn31 65536 σ22 ls _ _ hl hw hH
                · refine lv_iconst (v := 2) hx hb dX12_setInfo_137 (by decide) ?_
                  refine lv_goto (tgt := 144) hx hb dX12_setInfo_138 rfl ?_
                  have hl : lv_has ls 11 [(6, .int z10), (5, .int z8), (3, .long z6), (2, .int z4), (0, .ref h0)] := lv_sub hl [1, 2, 3, 4, 5] rfl
                  exact jn31 2 σ22 ls _ _ hl hw hH
              · refine lv_sipush (v := 256) hx hb dX12_setInfo_125 (by decide) ?_
                refine lv_goto (tgt := 144) hx hb dX12_setInfo_128 rfl ?_
                have hl : lv_has ls 11 [(6, .int z10), (5, .int z8), (3, .long z6), (2, .int z4), (0, .ref h0)] := lv_sub hl [1, 2, 3, 4, 5] rfl
                exact jn31 256 σ22 ls _ _ hl hw hH
          · refine lv_ldc2 (v := 3221225476) hx hb hF.1.2.2.2.1 (hF.1.2.2.2.2 _ (wc_56 34 rfl)) dX12_setInfo_116 ?_
            exact w_retl hF hH hr hlk dX12_setInfo_119 hw
        · skip
          refine w_icmp_ne (tgt := 83) hF dX12_setInfo_75 rfl hw (fun hw => ?_) (fun hw => ?_)
          · refine lv_iload_n hx hb dX12_setInfo_83 rfl (lv_at hl 3 rfl) ?_
            refine lv_bipush (v := 20) hx hb dX12_setInfo_84 (by decide) ?_
            refine w_icmp_ne (tgt := 94) hF dX12_setInfo_86 rfl hw (fun hw => ?_) (fun hw => ?_)
            · refine lv_iload_n hx hb dX12_setInfo_94 rfl (lv_at hl 3 rfl) ?_
              refine lv_bipush (v := 13) hx hb dX12_setInfo_95 (by decide) ?_
              refine w_icmp_ne (tgt := 104) hF dX12_setInfo_97 rfl hw (fun hw => ?_) (fun hw => ?_)
              · refine lv_bipush (v := 20) hx hb dX12_setInfo_104 (by decide) ?_
                exact jn25 20 σ17 ls _ _ hl hw hH
              · refine lv_iconst (v := 1) hx hb dX12_setInfo_100 (by decide) ?_
                refine lv_goto (tgt := 106) hx hb dX12_setInfo_101 rfl ?_
                exact jn25 1 σ17 ls _ _ hl hw hH
            · refine lv_bipush (v := 8) hx hb dX12_setInfo_89 (by decide) ?_
              refine lv_goto (tgt := 106) hx hb dX12_setInfo_91 rfl ?_
              exact jn25 8 σ17 ls _ _ hl hw hH
          · refine lv_bipush (v := 40) hx hb dX12_setInfo_78 (by decide) ?_
            refine lv_goto (tgt := 106) hx hb dX12_setInfo_80 rfl ?_
            exact jn25 40 σ17 ls _ _ hl hw hH
      · skip
        refine w_icmp_eq (tgt := 73) hF dX12_setInfo_48 rfl hw (fun hw => ?_) (fun hw => ?_)
        · have hl : lv_has ls 11 [(6, .int z10), (5, .int z8), (3, .long z6), (2, .int z4), (0, .ref h0)] := lv_sub hl [0, 1, 2, 3, 5] rfl
          exact jn20 () σ7 ls _ _ hl hw hH
        · refine lv_iload_n hx hb dX12_setInfo_51 rfl (lv_at hl 3 rfl) ?_
          refine lv_bipush (v := 20) hx hb dX12_setInfo_52 (by decide) ?_
          refine w_icmp_eq (tgt := 73) hF dX12_setInfo_54 rfl hw (fun hw => ?_) (fun hw => ?_)
          · have hl : lv_has ls 11 [(6, .int z10), (5, .int z8), (3, .long z6), (2, .int z4), (0, .ref h0)] := lv_sub hl [0, 1, 2, 3, 5] rfl
            exact jn20 () σ7 ls _ _ hl hw hH
          · refine lv_iload_n hx hb dX12_setInfo_57 rfl (lv_at hl 3 rfl) ?_
            refine lv_bipush (v := 13) hx hb dX12_setInfo_58 (by decide) ?_
            refine w_icmp_eq (tgt := 73) hF dX12_setInfo_60 rfl hw (fun hw => ?_) (fun hw => ?_)
            · have hl : lv_has ls 11 [(6, .int z10), (5, .int z8), (3, .long z6), (2, .int z4), (0, .ref h0)] := lv_sub hl [0, 1, 2, 3, 5] rfl
              exact jn20 () σ7 ls _ _ hl hw hH
            · refine lv_iload_n hx hb dX12_setInfo_63 rfl (lv_at hl 3 rfl) ?_
              refine lv_bipush (v := 10) hx hb dX12_setInfo_64 (by decide) ?_
              refine w_icmp_eq (tgt := 73) hF dX12_setInfo_66 rfl hw (fun hw => ?_) (fun hw => ?_)
              · have hl : lv_has ls 11 [(6, .int z10), (5, .int z8), (3, .long z6), (2, .int z4), (0, .ref h0)] := lv_sub hl [0, 1, 2, 3, 5] rfl
                exact jn20 () σ7 ls _ _ hl hw hH
              · have hl : lv_has ls 11 [] := lv_sub hl [] rfl
                exact jn15 () σ7 ls _ _ hl hw hH
def F_X12_broken (h0 : Nat) (L : Nat → Nat)  (post : Int64 → HS → Prop) (σ : HS) : Prop := ∀ z1 : Int32, z1 = sI σ h0 100 → (0 ≤ z1.toInt ∧ z1.toInt < 40) ∧ ∀ z2 : Int32, z2 = sI σ (L 47) z1.toInt.toNat → ((¬ z2.toInt = 0) → F_X12_number1 h0 L 66 (fun (z4 : Int32) (σ3 : HS) => ∀ z5 : Int32, z5 = sI σ3 h0 100 → (0 ≤ z5.toInt ∧ z5.toInt < 40) ∧ ∀ z6 : Int32, z6 = sI σ3 (L 48) z5.toInt.toNat → jn (fun (K9 : Int32 → HS → Prop) => ((z6.toInt < z4.toInt) → K9 0 σ3) ∧ ((z4.toInt ≤ z6.toInt) → K9 1 σ3)) (fun (x7 : Int32) (σ8 : HS) => ∀ z12 : Int32, z12 = sI σ8 h0 100 → (0 ≤ z12.toInt ∧ z12.toInt < 40) ∧ ∀ z13 : Int32, z13 = sI σ8 (L 43) z12.toInt.toNat → ∀ z14 : Int32, z14 = sI σ8 h0 100 → (0 ≤ z14.toInt ∧ z14.toInt < 40) ∧ ∀ z15 : Int64, z15 = sJ σ8 (L 41) z14.toInt.toNat → ∀ z16 : Int32, z16 = sI σ8 h0 100 → (0 ≤ z16.toInt ∧ z16.toInt < 40) ∧ ∀ σ17 : HS, σ17 = h_uI σ8 (L 47) z16.toInt.toNat (vp_nar .boolean 0) → ∀ z18 : Int32, z18 = sI σ17 h0 100 → jn (fun (K21 : Int32 → HS → Prop) => ((x7.toInt = 0) → K21 0 σ17) ∧ ((¬ x7.toInt = 0) → K21 z4 σ17)) (fun (x19 : Int32) (σ20 : HS) => (0 ≤ z18.toInt ∧ z18.toInt < 40) ∧ ∀ σ24 : HS, σ24 = h_uI σ20 (L 46) z18.toInt.toNat x19 → F_X12_redo h0 L z13 (fun (σ25 : HS) => ((¬ x7.toInt = 0) → F_X12_body h0 L 24 (fun (σ27 : HS) => F_X12_set h0 L 64 2 24 (fun (σ29 : HS) => ∀ z31 : Int64, z31 = (z4 : Int32).toInt64 → F_X12_set h0 L 66 1 z31 (fun (σ32 : HS) => F_X12_set h0 L 72 8 z15 (fun (σ34 : HS) => F_X12_set h0 L 80 8 z15 (fun (σ36 : HS) => post 0 σ36) σ34) σ32) σ29) σ27) σ25) ∧ ((x7.toInt = 0) → post 3221225699 σ25)) σ24))) σ) ∧ ((z2.toInt = 0) → post 3221225699 σ)
theorem dX12_broken_0 : decode cX12_broken 0 = .ok (.aload_n 0, 1) := by decide +kernel
theorem dX12_broken_1 : decode cX12_broken 1 = .ok (.getfield 157, 3) := by decide +kernel
theorem dX12_broken_4 : decode cX12_broken 4 = .ok (.aload_n 0, 1) := by decide +kernel
theorem dX12_broken_5 : decode cX12_broken 5 = .ok (.getfield 525, 3) := by decide +kernel
theorem dX12_broken_8 : decode cX12_broken 8 = .ok (.baload, 1) := by decide +kernel
theorem dX12_broken_9 : decode cX12_broken 9 = .ok (.ifCond .ne 7, 3) := by decide +kernel
theorem dX12_broken_12 : decode cX12_broken 12 = .ok (.ldc2_w 778, 3) := by decide +kernel
theorem dX12_broken_15 : decode cX12_broken 15 = .ok (.lreturn, 1) := by decide +kernel
theorem dX12_broken_16 : decode cX12_broken 16 = .ok (.aload_n 0, 1) := by decide +kernel
theorem dX12_broken_17 : decode cX12_broken 17 = .ok (.bipush 66, 2) := by decide +kernel
theorem dX12_broken_19 : decode cX12_broken 19 = .ok (.invokevirtual 600, 3) := by decide +kernel
theorem dX12_broken_22 : decode cX12_broken 22 = .ok (.istore_n 1, 1) := by decide +kernel
theorem dX12_broken_23 : decode cX12_broken 23 = .ok (.iload_n 1, 1) := by decide +kernel
theorem dX12_broken_24 : decode cX12_broken 24 = .ok (.aload_n 0, 1) := by decide +kernel
theorem dX12_broken_25 : decode cX12_broken 25 = .ok (.getfield 160, 3) := by decide +kernel
theorem dX12_broken_28 : decode cX12_broken 28 = .ok (.aload_n 0, 1) := by decide +kernel
theorem dX12_broken_29 : decode cX12_broken 29 = .ok (.getfield 525, 3) := by decide +kernel
theorem dX12_broken_32 : decode cX12_broken 32 = .ok (.iaload, 1) := by decide +kernel
theorem dX12_broken_33 : decode cX12_broken 33 = .ok (.if_icmp .gt 7, 3) := by decide +kernel
theorem dX12_broken_36 : decode cX12_broken 36 = .ok (.iconst 1, 1) := by decide +kernel
theorem dX12_broken_37 : decode cX12_broken 37 = .ok (.goto 4, 3) := by decide +kernel
theorem dX12_broken_40 : decode cX12_broken 40 = .ok (.iconst 0, 1) := by decide +kernel
theorem dX12_broken_41 : decode cX12_broken 41 = .ok (.istore_n 2, 1) := by decide +kernel
theorem dX12_broken_42 : decode cX12_broken 42 = .ok (.aload_n 0, 1) := by decide +kernel
theorem dX12_broken_43 : decode cX12_broken 43 = .ok (.getfield 145, 3) := by decide +kernel
theorem dX12_broken_46 : decode cX12_broken 46 = .ok (.aload_n 0, 1) := by decide +kernel
theorem dX12_broken_47 : decode cX12_broken 47 = .ok (.getfield 525, 3) := by decide +kernel
theorem dX12_broken_50 : decode cX12_broken 50 = .ok (.iaload, 1) := by decide +kernel
theorem dX12_broken_51 : decode cX12_broken 51 = .ok (.istore_n 3, 1) := by decide +kernel
theorem dX12_broken_52 : decode cX12_broken 52 = .ok (.aload_n 0, 1) := by decide +kernel
theorem dX12_broken_53 : decode cX12_broken 53 = .ok (.getfield 139, 3) := by decide +kernel
theorem dX12_broken_56 : decode cX12_broken 56 = .ok (.aload_n 0, 1) := by decide +kernel
theorem dX12_broken_57 : decode cX12_broken 57 = .ok (.getfield 525, 3) := by decide +kernel
theorem dX12_broken_60 : decode cX12_broken 60 = .ok (.laload, 1) := by decide +kernel
theorem dX12_broken_61 : decode cX12_broken 61 = .ok (.lstore 4, 2) := by decide +kernel
theorem dX12_broken_63 : decode cX12_broken 63 = .ok (.aload_n 0, 1) := by decide +kernel
theorem dX12_broken_64 : decode cX12_broken 64 = .ok (.getfield 157, 3) := by decide +kernel
theorem dX12_broken_67 : decode cX12_broken 67 = .ok (.aload_n 0, 1) := by decide +kernel
theorem dX12_broken_68 : decode cX12_broken 68 = .ok (.getfield 525, 3) := by decide +kernel
theorem dX12_broken_71 : decode cX12_broken 71 = .ok (.iconst 0, 1) := by decide +kernel
theorem dX12_broken_72 : decode cX12_broken 72 = .ok (.bastore, 1) := by decide +kernel
theorem dX12_broken_73 : decode cX12_broken 73 = .ok (.aload_n 0, 1) := by decide +kernel
theorem dX12_broken_74 : decode cX12_broken 74 = .ok (.getfield 154, 3) := by decide +kernel
theorem dX12_broken_77 : decode cX12_broken 77 = .ok (.aload_n 0, 1) := by decide +kernel
theorem dX12_broken_78 : decode cX12_broken 78 = .ok (.getfield 525, 3) := by decide +kernel
theorem dX12_broken_81 : decode cX12_broken 81 = .ok (.iload_n 2, 1) := by decide +kernel
theorem dX12_broken_82 : decode cX12_broken 82 = .ok (.ifCond .eq 7, 3) := by decide +kernel
theorem dX12_broken_85 : decode cX12_broken 85 = .ok (.iload_n 1, 1) := by decide +kernel
theorem dX12_broken_86 : decode cX12_broken 86 = .ok (.goto 4, 3) := by decide +kernel
theorem dX12_broken_89 : decode cX12_broken 89 = .ok (.iconst 0, 1) := by decide +kernel
theorem dX12_broken_90 : decode cX12_broken 90 = .ok (.iastore, 1) := by decide +kernel
theorem dX12_broken_91 : decode cX12_broken 91 = .ok (.aload_n 0, 1) := by decide +kernel
theorem dX12_broken_92 : decode cX12_broken 92 = .ok (.iload_n 3, 1) := by decide +kernel
theorem dX12_broken_93 : decode cX12_broken 93 = .ok (.invokevirtual 760, 3) := by decide +kernel
theorem dX12_broken_96 : decode cX12_broken 96 = .ok (.iload_n 2, 1) := by decide +kernel
theorem dX12_broken_97 : decode cX12_broken 97 = .ok (.ifCond .ne 7, 3) := by decide +kernel
theorem dX12_broken_100 : decode cX12_broken 100 = .ok (.ldc2_w 778, 3) := by decide +kernel
theorem dX12_broken_103 : decode cX12_broken 103 = .ok (.lreturn, 1) := by decide +kernel
theorem dX12_broken_104 : decode cX12_broken 104 = .ok (.aload_n 0, 1) := by decide +kernel
theorem dX12_broken_105 : decode cX12_broken 105 = .ok (.bipush 24, 2) := by decide +kernel
theorem dX12_broken_107 : decode cX12_broken 107 = .ok (.invokevirtual 456, 3) := by decide +kernel
theorem dX12_broken_110 : decode cX12_broken 110 = .ok (.aload_n 0, 1) := by decide +kernel
theorem dX12_broken_111 : decode cX12_broken 111 = .ok (.bipush 64, 2) := by decide +kernel
theorem dX12_broken_113 : decode cX12_broken 113 = .ok (.iconst 2, 1) := by decide +kernel
theorem dX12_broken_114 : decode cX12_broken 114 = .ok (.ldc2_w 579, 3) := by decide +kernel
theorem dX12_broken_117 : decode cX12_broken 117 = .ok (.invokevirtual 376, 3) := by decide +kernel
theorem dX12_broken_120 : decode cX12_broken 120 = .ok (.aload_n 0, 1) := by decide +kernel
theorem dX12_broken_121 : decode cX12_broken 121 = .ok (.bipush 66, 2) := by decide +kernel
theorem dX12_broken_123 : decode cX12_broken 123 = .ok (.iconst 1, 1) := by decide +kernel
theorem dX12_broken_124 : decode cX12_broken 124 = .ok (.iload_n 1, 1) := by decide +kernel
theorem dX12_broken_125 : decode cX12_broken 125 = .ok (.i2l, 1) := by decide +kernel
theorem dX12_broken_126 : decode cX12_broken 126 = .ok (.invokevirtual 376, 3) := by decide +kernel
theorem dX12_broken_129 : decode cX12_broken 129 = .ok (.aload_n 0, 1) := by decide +kernel
theorem dX12_broken_130 : decode cX12_broken 130 = .ok (.bipush 72, 2) := by decide +kernel
theorem dX12_broken_132 : decode cX12_broken 132 = .ok (.bipush 8, 2) := by decide +kernel
theorem dX12_broken_134 : decode cX12_broken 134 = .ok (.lload 4, 2) := by decide +kernel
theorem dX12_broken_136 : decode cX12_broken 136 = .ok (.invokevirtual 376, 3) := by decide +kernel
theorem dX12_broken_139 : decode cX12_broken 139 = .ok (.aload_n 0, 1) := by decide +kernel
theorem dX12_broken_140 : decode cX12_broken 140 = .ok (.bipush 80, 2) := by decide +kernel
theorem dX12_broken_142 : decode cX12_broken 142 = .ok (.bipush 8, 2) := by decide +kernel
theorem dX12_broken_144 : decode cX12_broken 144 = .ok (.lload 4, 2) := by decide +kernel
theorem dX12_broken_146 : decode cX12_broken 146 = .ok (.invokevirtual 376, 3) := by decide +kernel
theorem dX12_broken_149 : decode cX12_broken 149 = .ok (.lconst 0, 1) := by decide +kernel
theorem dX12_broken_150 : decode cX12_broken 150 = .ok (.lreturn, 1) := by decide +kernel
set_option maxRecDepth 100000 in
set_option maxHeartbeats 4000000 in
theorem c_X12_broken (l : Launch) (D : va_G) (t : Nat → ClassId) (h0 : Nat) (L : Nat → Nat) (σ : HS) (hM : MdI h0 L σ)  (post : Int64 → HS → Prop) (hw : F_X12_broken h0 L  post σ) (sz : Nat) : RMl l D t yX12_broken cX12_broken 6 (some .long) ({ frames := 9, cells := 0, slots := 0, locals := 239 }) h0 L σ sz [.ref h0] post := by
  refine h_go (τ := τT) okT (by decide) (Nat.le_of_ble_eq_true rfl) ?_
  intro p e s m below meth c ls A hF hr hlk hAe hH0 hA hl
  unfold hB
  rw [hAe]
  clear hAe
  have hF : FX p m c cX12_broken 6 s _ RX12 D t := hF
  have hx := hF.1.1
  have hb := hF.1.2.1
  have hH : RT D t A s.heap h0 L σ s.heap [] := ⟨hH0, hM⟩
  have hl : lv_has ls 6 [(0, .ref h0)] := hl
  unfold F_X12_broken at hw
  refine lv_aload_n hx hb dX12_broken_0 rfl (lv_at hl 0 rfl) ?_
  refine w_getA 47 hF hH fk_X12_157 dX12_broken_1 (by decide) rfl ?_
  refine lv_aload_n hx hb dX12_broken_4 rfl (lv_at hl 0 rfl) ?_
  refine w_getI hF hH fk_X12_525 dX12_broken_5 hw (fun z1 hw => ?_)
  refine w_zald 47 40 hF hH dX12_broken_8 (by decide) rfl rfl hw (fun z2 hw => ?_)
  refine w_if_ne (tgt := 16) hF dX12_broken_9 rfl hw (fun hw => ?_) (fun hw => ?_)
  · refine lv_aload_n hx hb dX12_broken_16 rfl (lv_at hl 0 rfl) ?_
    refine lv_bipush (v := 66) hx hb dX12_broken_17 (by decide) ?_
    refine w_cVi (As := [.int 66]) (rest := []) hF hH hA mv_X12_600 (fun sz => c_X12_number1 l D t h0 L _ hH.2 66 _ hw sz) dX12_broken_19 rfl rfl (by decide) rfl hl.1 (Nat.le_of_ble_eq_true rfl) (by decide) rfl (fun z4 σ3 H locs hw hH => ?_)
    refine lv_istore_n (lv' := [(1, .int z4), (0, .ref h0)]) hx hb dX12_broken_22 rfl hl (by decide) rfl (fun ls hl => ?_)
    refine lv_iload_n hx hb dX12_broken_23 rfl (lv_at hl 0 rfl) ?_
    refine lv_aload_n hx hb dX12_broken_24 rfl (lv_at hl 1 rfl) ?_
    refine w_getA 48 hF hH fk_X12_160 dX12_broken_25 (by decide) rfl ?_
    refine lv_aload_n hx hb dX12_broken_28 rfl (lv_at hl 1 rfl) ?_
    refine w_getI hF hH fk_X12_525 dX12_broken_29 hw (fun z5 hw => ?_)
    refine w_iald 48 40 hF hH dX12_broken_32 (by decide) rfl rfl hw (fun z6 hw => ?_)
    obtain ⟨K9, hK10, hw⟩ := jn_open hw
    refine w_join (K := K9) 41 (fun (x7 : Int32) => [(1, .int z4), (0, .ref h0)]) (fun (x7 : Int32) => [.int x7]) hl hH (fun x7 σ8 ls H locs hl hw hH => ?_) (fun jn11 => ?_)
    · have hw := hK10 x7 σ8 hw
      have hl : lv_has ls 6 [(1, .int z4), (0, .ref h0)] := hl
      refine lv_istore_n (lv' := [(2, .int x7), (1, .int z4), (0, .ref h0)]) hx hb dX12_broken_41 rfl hl (by decide) rfl (fun ls hl => ?_)
      refine lv_aload_n hx hb dX12_broken_42 rfl (lv_at hl 2 rfl) ?_
      refine w_getA 43 hF hH fk_X12_145 dX12_broken_43 (by decide) rfl ?_
      refine lv_aload_n hx hb dX12_broken_46 rfl (lv_at hl 2 rfl) ?_
      refine w_getI hF hH fk_X12_525 dX12_broken_47 hw (fun z12 hw => ?_)
      refine w_iald 43 40 hF hH dX12_broken_50 (by decide) rfl rfl hw (fun z13 hw => ?_)
      refine lv_istore_n (lv' := [(3, .int z13), (2, .int x7), (1, .int z4), (0, .ref h0)]) hx hb dX12_broken_51 rfl hl (by decide) rfl (fun ls hl => ?_)
      refine lv_aload_n hx hb dX12_broken_52 rfl (lv_at hl 3 rfl) ?_
      refine w_getA 41 hF hH fk_X12_139 dX12_broken_53 (by decide) rfl ?_
      refine lv_aload_n hx hb dX12_broken_56 rfl (lv_at hl 3 rfl) ?_
      refine w_getI hF hH fk_X12_525 dX12_broken_57 hw (fun z14 hw => ?_)
      refine w_lald 41 40 hF hH dX12_broken_60 (by decide) rfl rfl hw (fun z15 hw => ?_)
      refine lv_lstore (lv' := [(4, .long z15), (3, .int z13), (2, .int x7), (1, .int z4), (0, .ref h0)]) hx hb dX12_broken_61 hl (by decide) rfl (fun ls hl => ?_)
      refine lv_aload_n hx hb dX12_broken_63 rfl (lv_at hl 4 rfl) ?_
      refine w_getA 47 hF hH fk_X12_157 dX12_broken_64 (by decide) rfl ?_
      refine lv_aload_n hx hb dX12_broken_67 rfl (lv_at hl 4 rfl) ?_
      refine w_getI hF hH fk_X12_525 dX12_broken_68 hw (fun z16 hw => ?_)
      refine lv_iconst (v := 0) hx hb dX12_broken_71 (by decide) ?_
      refine w_zast 47 40 hF hH dX12_broken_72 (by decide) rfl rfl hw (fun σ17 H locs hw hH => ?_)
      refine lv_aload_n hx hb dX12_broken_73 rfl (lv_at hl 4 rfl) ?_
      refine w_getA 46 hF hH fk_X12_154 dX12_broken_74 (by decide) rfl ?_
      refine lv_aload_n hx hb dX12_broken_77 rfl (lv_at hl 4 rfl) ?_
      refine w_getI hF hH fk_X12_525 dX12_broken_78 hw (fun z18 hw => ?_)
      refine lv_iload_n hx hb dX12_broken_81 rfl (lv_at hl 2 rfl) ?_
      obtain ⟨K21, hK22, hw⟩ := jn_open hw
      refine w_join (K := K21) 90 (fun (x19 : Int32) => [(4, .long z15), (3, .int z13), (2, .int x7), (1, .int z4), (0, .ref h0)]) (fun (x19 : Int32) => [.int x19, .int z18, .ref (L 46)]) hl hH (fun x19 σ20 ls H locs hl hw hH => ?_) (fun jn23 => ?_)
      · have hw := hK22 x19 σ20 hw
        have hl : lv_has ls 6 [(4, .long z15), (3, .int z13), (2, .int x7), (1, .int z4), (0, .ref h0)] := hl
        refine w_iast 46 40 hF hH dX12_broken_90 (by decide) rfl rfl hw (fun σ24 H locs hw hH => ?_)
        refine lv_aload_n hx hb dX12_broken_91 rfl (lv_at hl 4 rfl) ?_
        refine lv_iload_n hx hb dX12_broken_92 rfl (lv_at hl 1 rfl) ?_
        refine w_cVv (As := [.int z13]) (rest := []) hF hH hA mv_X12_760 (fun sz => c_X12_redo l D t h0 L _ hH.2 z13 _ hw sz) dX12_broken_93 rfl rfl (by decide) rfl hl.1 (Nat.le_of_ble_eq_true rfl) (by decide) rfl (fun σ25 H locs hw hH => ?_)
        refine lv_iload_n hx hb dX12_broken_96 rfl (lv_at hl 2 rfl) ?_
        refine w_if_ne (tgt := 104) hF dX12_broken_97 rfl hw (fun hw => ?_) (fun hw => ?_)
        · refine lv_aload_n hx hb dX12_broken_104 rfl (lv_at hl 4 rfl) ?_
          refine lv_bipush (v := 24) hx hb dX12_broken_105 (by decide) ?_
          refine w_cVv (As := [.int 24]) (rest := []) hF hH hA mv_X12_456 (fun sz => c_X12_body l D t h0 L _ hH.2 24 _ hw sz) dX12_broken_107 rfl rfl (by decide) rfl hl.1 (Nat.le_of_ble_eq_true rfl) (by decide) rfl (fun σ27 H locs hw hH => ?_)
          refine lv_aload_n hx hb dX12_broken_110 rfl (lv_at hl 4 rfl) ?_
          refine lv_bipush (v := 64) hx hb dX12_broken_111 (by decide) ?_
          refine lv_iconst (v := 2) hx hb dX12_broken_113 (by decide) ?_
          refine lv_ldc2 (v := 24) hx hb hF.1.2.2.2.1 (hF.1.2.2.2.2 _ (wc_52 34 rfl)) dX12_broken_114 ?_
          refine w_cVv (As := [.int 64, .int 2, .long 24]) (rest := []) hF hH hA mv_X12_376 (fun sz => c_X12_set l D t h0 L _ hH.2 64 2 24 _ hw sz) dX12_broken_117 rfl rfl (by decide) rfl hl.1 (Nat.le_of_ble_eq_true rfl) (by decide) rfl (fun σ29 H locs hw hH => ?_)
          refine lv_aload_n hx hb dX12_broken_120 rfl (lv_at hl 4 rfl) ?_
          refine lv_bipush (v := 66) hx hb dX12_broken_121 (by decide) ?_
          refine lv_iconst (v := 1) hx hb dX12_broken_123 (by decide) ?_
          refine lv_iload_n hx hb dX12_broken_124 rfl (lv_at hl 3 rfl) ?_
          refine lv_i2l hx hb dX12_broken_125 rfl ?_
          refine w_nml hw (fun z31 hw => ?_)
          refine w_cVv (As := [.int 66, .int 1, .long z31]) (rest := []) hF hH hA mv_X12_376 (fun sz => c_X12_set l D t h0 L _ hH.2 66 1 z31 _ hw sz) dX12_broken_126 rfl rfl (by decide) rfl hl.1 (Nat.le_of_ble_eq_true rfl) (by decide) rfl (fun σ32 H locs hw hH => ?_)
          refine lv_aload_n hx hb dX12_broken_129 rfl (lv_at hl 4 rfl) ?_
          refine lv_bipush (v := 72) hx hb dX12_broken_130 (by decide) ?_
          refine lv_bipush (v := 8) hx hb dX12_broken_132 (by decide) ?_
          refine lv_lload hx hb dX12_broken_134 (lv_at hl 0 rfl) ?_
          refine w_cVv (As := [.int 72, .int 8, .long z15]) (rest := []) hF hH hA mv_X12_376 (fun sz => c_X12_set l D t h0 L _ hH.2 72 8 z15 _ hw sz) dX12_broken_136 rfl rfl (by decide) rfl hl.1 (Nat.le_of_ble_eq_true rfl) (by decide) rfl (fun σ34 H locs hw hH => ?_)
          refine lv_aload_n hx hb dX12_broken_139 rfl (lv_at hl 4 rfl) ?_
          refine lv_bipush (v := 80) hx hb dX12_broken_140 (by decide) ?_
          refine lv_bipush (v := 8) hx hb dX12_broken_142 (by decide) ?_
          refine lv_lload hx hb dX12_broken_144 (lv_at hl 0 rfl) ?_
          refine w_cVv (As := [.int 80, .int 8, .long z15]) (rest := []) hF hH hA mv_X12_376 (fun sz => c_X12_set l D t h0 L _ hH.2 80 8 z15 _ hw sz) dX12_broken_146 rfl rfl (by decide) rfl hl.1 (Nat.le_of_ble_eq_true rfl) (by decide) rfl (fun σ36 H locs hw hH => ?_)
          refine lv_lconst (v := 0) hx hb dX12_broken_149 (by decide) ?_
          exact w_retl hF hH hr hlk dX12_broken_150 hw
        · refine lv_ldc2 (v := 3221225699) hx hb hF.1.2.2.2.1 (hF.1.2.2.2.2 _ (wc_56 14 rfl)) dX12_broken_100 ?_
          exact w_retl hF hH hr hlk dX12_broken_103 hw
      · skip
        refine w_if_eq (tgt := 89) hF dX12_broken_82 rfl hw (fun hw => ?_) (fun hw => ?_)
        · refine lv_iconst (v := 0) hx hb dX12_broken_89 (by decide) ?_
          exact jn23 0 σ17 ls _ _ hl hw hH
        · refine lv_iload_n hx hb dX12_broken_85 rfl (lv_at hl 3 rfl) ?_
          refine lv_goto (tgt := 90) hx hb dX12_broken_86 rfl ?_
          exact jn23 z4 σ17 ls _ _ hl hw hH
    · skip
      refine w_icmp_gt (tgt := 40) hF dX12_broken_33 rfl hw (fun hw => ?_) (fun hw => ?_)
      · refine lv_iconst (v := 0) hx hb dX12_broken_40 (by decide) ?_
        exact jn11 0 σ3 ls _ _ hl hw hH
      · refine lv_iconst (v := 1) hx hb dX12_broken_36 (by decide) ?_
        refine lv_goto (tgt := 41) hx hb dX12_broken_37 rfl ?_
        exact jn11 1 σ3 ls _ _ hl hw hH
  · refine lv_ldc2 (v := 3221225699) hx hb hF.1.2.2.2.1 (hF.1.2.2.2.2 _ (wc_56 14 rfl)) dX12_broken_12 ?_
    exact w_retl hF hH hr hlk dX12_broken_15 hw
def F_X12_does (h0 : Nat) (L : Nat → Nat)  (post : Int64 → HS → Prop) (σ : HS) : Prop := ∀ z1 : Int32, z1 = sI σ h0 93 → F_X12_fileOf h0 L z1 (fun (z3 : Int32) (σ2 : HS) => ∀ σ4 : HS, σ4 = h_uI σ2 h0 98 (-1) → ∀ σ5 : HS, σ5 = h_uI σ4 h0 99 (-1) → ∀ z6 : Int32, z6 = sI σ5 h0 93 → jn (fun (K9 : Unit → HS → Prop) => ((z6.toInt = 0) → K9 () σ5) ∧ ((¬ z6.toInt = 0) → ∀ z114 : Int32, z114 = sI σ5 h0 93 → ((z114.toInt = (1 : Int32).toInt) → K9 () σ5) ∧ ((¬ z114.toInt = (1 : Int32).toInt) → ∀ z115 : Int32, z115 = sI σ5 h0 93 → ((z115.toInt = (13 : Int32).toInt) → K9 () σ5) ∧ ((¬ z115.toInt = (13 : Int32).toInt) → ∀ z116 : Int64, z116 = sJ σ5 h0 96 → F_X12_findSession h0 L z116 (fun (z118 : Int32) (σ117 : HS) => ∀ σ119 : HS, σ119 = h_uI σ117 h0 98 z118 → ∀ z120 : Int32, z120 = sI σ119 h0 98 → ((0 ≤ z120.toInt) → ∀ z121 : Int32, z121 = sI σ119 h0 93 → ((z121.toInt = (2 : Int32).toInt) → K9 () σ119) ∧ ((¬ z121.toInt = (2 : Int32).toInt) → ∀ z122 : Int32, z122 = sI σ119 h0 93 → ((z122.toInt = (3 : Int32).toInt) → K9 () σ119) ∧ ((¬ z122.toInt = (3 : Int32).toInt) → ∀ z123 : Int64, z123 = sJ σ119 h0 97 → F_X12_findTree h0 L z123 (fun (z125 : Int32) (σ124 : HS) => ∀ σ126 : HS, σ126 = h_uI σ124 h0 99 z125 → ∀ z127 : Int32, z127 = sI σ126 h0 99 → ((0 ≤ z127.toInt) → K9 () σ126) ∧ ((z127.toInt < 0) → post 3221225673 σ126)) σ119))) ∧ ((z120.toInt < 0) → post 3221225987 σ119)) σ5)))) (fun (x7 : Unit) (σ8 : HS) => ∀ z12 : Int32, z12 = sI σ8 h0 93 → jn (fun (K15 : Unit → HS → Prop) => ((z12.toInt = (11 : Int32).toInt) → K15 () σ8) ∧ ((¬ z12.toInt = (11 : Int32).toInt) → ∀ z18 : Int32, z18 = sI σ8 h0 93 → ((z18.toInt = (15 : Int32).toInt) → K15 () σ8) ∧ ((¬ z18.toInt = (15 : Int32).toInt) → ∀ z19 : Int32, z19 = sI σ8 h0 93 → ((z19.toInt ≤ (18 : Int32).toInt) → F_X12_isBody h0 L  (fun (z21 : Int32) (σ20 : HS) => ((¬ z21.toInt = 0) → jn (fun (K24 : Unit → HS → Prop) => ((z3.toInt ≤ 0) → K24 () σ20) ∧ ((0 < z3.toInt) → (0 ≤ (1 : Int32).toInt ∧ (1 : Int32).toInt ≤ 1) ∧ ∀ σ71 : HS, σ71 = h_uI σ20 h0 103 1 → F_X12_number h0 L z3 8 (fun (z73 : Int64) (σ72 : HS) => ∀ σ74 : HS, σ74 = h_uJ σ72 h0 101 z73 → ∀ z75 : Int32, z75 = z3 + 8 → F_X12_number h0 L z75 8 (fun (z77 : Int64) (σ76 : HS) => ∀ σ78 : HS, σ78 = h_uJ σ76 h0 102 z77 → ∀ z79 : Int32, z79 = sI σ78 h0 94 → jn (fun (K82 : Unit → HS → Prop) => ((z79.toInt = 0) → K82 () σ78) ∧ ((¬ z79.toInt = 0) → ∀ z106 : Int64, z106 = sJ σ78 h0 101 → ((¬ z106.toInt = ((-1) : Int64).toInt) → K82 () σ78) ∧ ((z106.toInt = ((-1) : Int64).toInt) → ∀ z107 : Int64, z107 = sJ σ78 h0 102 → ((¬ z107.toInt = ((-1) : Int64).toInt) → K82 () σ78) ∧ ((z107.toInt = ((-1) : Int64).toInt) → ∀ z108 : Int32, z108 = sI σ78 h0 108 → (0 ≤ z108.toInt ∧ z108.toInt ≤ 1) ∧ ∀ σ109 : HS, σ109 = h_uI σ78 h0 103 z108 → ∀ z110 : Int64, z110 = sJ σ109 h0 106 → ∀ σ111 : HS, σ111 = h_uJ σ109 h0 101 z110 → ∀ z112 : Int64, z112 = sJ σ111 h0 107 → ∀ σ113 : HS, σ113 = h_uJ σ111 h0 102 z112 → K82 () σ113)))) (fun (x80 : Unit) (σ81 : HS) => ∀ z85 : Int32, z85 = sI σ81 h0 103 → ((¬ z85.toInt = 0) → ∀ z86 : Int64, z86 = sJ σ81 h0 101 → ∀ z87 : Int64, z87 = sJ σ81 h0 102 → jn (fun (K90 : Int32 → HS → Prop) => ((¬ z86.toInt = z87.toInt) → K90 (-1) σ81) ∧ ((z86.toInt = z87.toInt) → ∀ z103 : Int64, z103 = sJ σ81 h0 101 → F_X12_openBy h0 L z103 (fun (z105 : Int32) (σ104 : HS) => K90 z105 σ104) σ81)) (fun (x88 : Int32) (σ89 : HS) => ∀ σ93 : HS, σ93 = h_uI σ89 h0 100 x88 → ∀ z94 : Int32, z94 = sI σ93 h0 100 → jn (fun (K97 : Unit → HS → Prop) => ((z94.toInt < 0) → K97 () σ93) ∧ ((0 ≤ z94.toInt) → ∀ z100 : Int32, z100 = sI σ93 h0 100 → (0 ≤ z100.toInt ∧ z100.toInt < 40) ∧ ∀ z101 : Int32, z101 = sI σ93 (L 42) z100.toInt.toNat → ∀ z102 : Int32, z102 = sI σ93 h0 99 → ((z101.toInt = z102.toInt) → K24 () σ93) ∧ ((¬ z101.toInt = z102.toInt) → K97 () σ93))) (fun (x95 : Unit) (σ96 : HS) => post 3221225768 σ96))) ∧ ((z85.toInt = 0) → post 3221225485 σ81))) σ74) σ71)) (fun (x22 : Unit) (σ23 : HS) => ∀ z27 : Int32, z27 = sI σ23 h0 93 → jn (fun (K30 : Unit → HS → Prop) => ((z27.toInt < 0 ∨ 17 < z27.toInt) → K30 () σ23) ∧ ((z27.toInt = 0) → F_X12_negotiate h0 L  (fun (z36 : Int64) (σ35 : HS) => post z36 σ35) σ23) ∧ ((z27.toInt = 1) → F_X12_setUp h0 L  (fun (z38 : Int64) (σ37 : HS) => post z38 σ37) σ23) ∧ ((z27.toInt = 2) → ∀ z39 : Int32, z39 = sI σ23 h0 98 → F_X12_endSession h0 L z39 (fun (σ40 : HS) => F_X12_small h0 L 4 (fun (z43 : Int64) (σ42 : HS) => post z43 σ42) σ40) σ23) ∧ ((z27.toInt = 3) → F_X12_connectTree h0 L  (fun (z45 : Int64) (σ44 : HS) => post z45 σ44) σ23) ∧ ((z27.toInt = 4) → ∀ z46 : Int32, z46 = sI σ23 h0 99 → F_X12_endTree h0 L z46 (fun (σ47 : HS) => F_X12_small h0 L 4 (fun (z50 : Int64) (σ49 : HS) => post z50 σ49) σ47) σ23) ∧ ((z27.toInt = 5) → F_X12_create h0 L (-1) (fun (z52 : Int64) (σ51 : HS) => post z52 σ51) σ23) ∧ ((z27.toInt = 6) → F_X12_close h0 L  (fun (z54 : Int64) (σ53 : HS) => post z54 σ53) σ23) ∧ ((z27.toInt = 7) → F_X12_flush h0 L  (fun (z56 : Int64) (σ55 : HS) => post z56 σ55) σ23) ∧ ((z27.toInt = 8) → F_X12_read h0 L  (fun (z58 : Int64) (σ57 : HS) => post z58 σ57) σ23) ∧ ((z27.toInt = 9) → F_X12_write h0 L  (fun (z60 : Int64) (σ59 : HS) => post z60 σ59) σ23) ∧ ((z27.toInt = 10) → F_X12_lock h0 L  (fun (z62 : Int64) (σ61 : HS) => post z62 σ61) σ23) ∧ ((z27.toInt = 11) → K30 () σ23) ∧ ((z27.toInt = 12) → K30 () σ23) ∧ ((z27.toInt = 13) → F_X12_small h0 L 4 (fun (z64 : Int64) (σ63 : HS) => post z64 σ63) σ23) ∧ ((z27.toInt = 14) → F_X12_list h0 L  (fun (z66 : Int64) (σ65 : HS) => post z66 σ65) σ23) ∧ ((z27.toInt = 15) → K30 () σ23) ∧ ((z27.toInt = 16) → F_X12_ask h0 L  (fun (z68 : Int64) (σ67 : HS) => post z68 σ67) σ23) ∧ ((z27.toInt = 17) → F_X12_setInfo h0 L  (fun (z70 : Int64) (σ69 : HS) => post z70 σ69) σ23)) (fun (x28 : Unit) (σ29 : HS) => F_X12_broken h0 L  (fun (z34 : Int64) (σ33 : HS) => post z34 σ33) σ29))) ∧ ((z21.toInt = 0) → post 3221225485 σ20)) σ8) ∧ (((18 : Int32).toInt < z19.toInt) → K15 () σ8)))) (fun (x13 : Unit) (σ14 : HS) => post 3221225659 σ14))) σ
theorem dX12_does_0 : decode cX12_does 0 = .ok (.aload_n 0, 1) := by decide +kernel
theorem dX12_does_1 : decode cX12_does 1 = .ok (.getfield 418, 3) := by decide +kernel
theorem dX12_does_4 : decode cX12_does 4 = .ok (.invokestatic 495, 3) := by decide +kernel
theorem dX12_does_7 : decode cX12_does 7 = .ok (.istore_n 1, 1) := by decide +kernel
theorem dX12_does_8 : decode cX12_does 8 = .ok (.aload_n 0, 1) := by decide +kernel
theorem dX12_does_9 : decode cX12_does 9 = .ok (.iconst (-1), 1) := by decide +kernel
theorem dX12_does_10 : decode cX12_does 10 = .ok (.putfield 492, 3) := by decide +kernel
theorem dX12_does_13 : decode cX12_does 13 = .ok (.aload_n 0, 1) := by decide +kernel
theorem dX12_does_14 : decode cX12_does 14 = .ok (.iconst (-1), 1) := by decide +kernel
theorem dX12_does_15 : decode cX12_does 15 = .ok (.putfield 498, 3) := by decide +kernel
theorem dX12_does_18 : decode cX12_does 18 = .ok (.aload_n 0, 1) := by decide +kernel
theorem dX12_does_19 : decode cX12_does 19 = .ok (.getfield 418, 3) := by decide +kernel
theorem dX12_does_22 : decode cX12_does 22 = .ok (.ifCond .eq 82, 3) := by decide +kernel
theorem dX12_does_25 : decode cX12_does 25 = .ok (.aload_n 0, 1) := by decide +kernel
theorem dX12_does_26 : decode cX12_does 26 = .ok (.getfield 418, 3) := by decide +kernel
theorem dX12_does_29 : decode cX12_does 29 = .ok (.iconst 1, 1) := by decide +kernel
theorem dX12_does_30 : decode cX12_does 30 = .ok (.if_icmp .eq 74, 3) := by decide +kernel
theorem dX12_does_33 : decode cX12_does 33 = .ok (.aload_n 0, 1) := by decide +kernel
theorem dX12_does_34 : decode cX12_does 34 = .ok (.getfield 418, 3) := by decide +kernel
theorem dX12_does_37 : decode cX12_does 37 = .ok (.bipush 13, 2) := by decide +kernel
theorem dX12_does_39 : decode cX12_does 39 = .ok (.if_icmp .eq 65, 3) := by decide +kernel
theorem dX12_does_42 : decode cX12_does 42 = .ok (.aload_n 0, 1) := by decide +kernel
theorem dX12_does_43 : decode cX12_does 43 = .ok (.aload_n 0, 1) := by decide +kernel
theorem dX12_does_44 : decode cX12_does 44 = .ok (.aload_n 0, 1) := by decide +kernel
theorem dX12_does_45 : decode cX12_does 45 = .ok (.getfield 434, 3) := by decide +kernel
theorem dX12_does_48 : decode cX12_does 48 = .ok (.invokevirtual 501, 3) := by decide +kernel
theorem dX12_does_51 : decode cX12_does 51 = .ok (.putfield 492, 3) := by decide +kernel
theorem dX12_does_54 : decode cX12_does 54 = .ok (.aload_n 0, 1) := by decide +kernel
theorem dX12_does_55 : decode cX12_does 55 = .ok (.getfield 492, 3) := by decide +kernel
theorem dX12_does_58 : decode cX12_does 58 = .ok (.ifCond .ge 7, 3) := by decide +kernel
theorem dX12_does_61 : decode cX12_does 61 = .ok (.ldc2_w 505, 3) := by decide +kernel
theorem dX12_does_64 : decode cX12_does 64 = .ok (.lreturn, 1) := by decide +kernel
theorem dX12_does_65 : decode cX12_does 65 = .ok (.aload_n 0, 1) := by decide +kernel
theorem dX12_does_66 : decode cX12_does 66 = .ok (.getfield 418, 3) := by decide +kernel
theorem dX12_does_69 : decode cX12_does 69 = .ok (.iconst 2, 1) := by decide +kernel
theorem dX12_does_70 : decode cX12_does 70 = .ok (.if_icmp .eq 34, 3) := by decide +kernel
theorem dX12_does_73 : decode cX12_does 73 = .ok (.aload_n 0, 1) := by decide +kernel
theorem dX12_does_74 : decode cX12_does 74 = .ok (.getfield 418, 3) := by decide +kernel
theorem dX12_does_77 : decode cX12_does 77 = .ok (.iconst 3, 1) := by decide +kernel
theorem dX12_does_78 : decode cX12_does 78 = .ok (.if_icmp .eq 26, 3) := by decide +kernel
theorem dX12_does_81 : decode cX12_does 81 = .ok (.aload_n 0, 1) := by decide +kernel
theorem dX12_does_82 : decode cX12_does 82 = .ok (.aload_n 0, 1) := by decide +kernel
theorem dX12_does_83 : decode cX12_does 83 = .ok (.aload_n 0, 1) := by decide +kernel
theorem dX12_does_84 : decode cX12_does 84 = .ok (.getfield 437, 3) := by decide +kernel
theorem dX12_does_87 : decode cX12_does 87 = .ok (.invokevirtual 507, 3) := by decide +kernel
theorem dX12_does_90 : decode cX12_does 90 = .ok (.putfield 498, 3) := by decide +kernel
theorem dX12_does_93 : decode cX12_does 93 = .ok (.aload_n 0, 1) := by decide +kernel
theorem dX12_does_94 : decode cX12_does 94 = .ok (.getfield 498, 3) := by decide +kernel
theorem dX12_does_97 : decode cX12_does 97 = .ok (.ifCond .ge 7, 3) := by decide +kernel
theorem dX12_does_100 : decode cX12_does 100 = .ok (.ldc2_w 510, 3) := by decide +kernel
theorem dX12_does_103 : decode cX12_does 103 = .ok (.lreturn, 1) := by decide +kernel
theorem dX12_does_104 : decode cX12_does 104 = .ok (.aload_n 0, 1) := by decide +kernel
theorem dX12_does_105 : decode cX12_does 105 = .ok (.getfield 418, 3) := by decide +kernel
theorem dX12_does_108 : decode cX12_does 108 = .ok (.bipush 11, 2) := by decide +kernel
theorem dX12_does_110 : decode cX12_does 110 = .ok (.if_icmp .eq 21, 3) := by decide +kernel
theorem dX12_does_113 : decode cX12_does 113 = .ok (.aload_n 0, 1) := by decide +kernel
theorem dX12_does_114 : decode cX12_does 114 = .ok (.getfield 418, 3) := by decide +kernel
theorem dX12_does_117 : decode cX12_does 117 = .ok (.bipush 15, 2) := by decide +kernel
theorem dX12_does_119 : decode cX12_does 119 = .ok (.if_icmp .eq 12, 3) := by decide +kernel
theorem dX12_does_122 : decode cX12_does 122 = .ok (.aload_n 0, 1) := by decide +kernel
theorem dX12_does_123 : decode cX12_does 123 = .ok (.getfield 418, 3) := by decide +kernel
theorem dX12_does_126 : decode cX12_does 126 = .ok (.bipush 18, 2) := by decide +kernel
theorem dX12_does_128 : decode cX12_does 128 = .ok (.if_icmp .le 7, 3) := by decide +kernel
theorem dX12_does_131 : decode cX12_does 131 = .ok (.ldc2_w 512, 3) := by decide +kernel
theorem dX12_does_134 : decode cX12_does 134 = .ok (.lreturn, 1) := by decide +kernel
theorem dX12_does_135 : decode cX12_does 135 = .ok (.aload_n 0, 1) := by decide +kernel
theorem dX12_does_136 : decode cX12_does 136 = .ok (.invokevirtual 514, 3) := by decide +kernel
theorem dX12_does_139 : decode cX12_does 139 = .ok (.ifCond .ne 7, 3) := by decide +kernel
theorem dX12_does_142 : decode cX12_does 142 = .ok (.ldc2_w 518, 3) := by decide +kernel
theorem dX12_does_145 : decode cX12_does 145 = .ok (.lreturn, 1) := by decide +kernel
theorem dX12_does_146 : decode cX12_does 146 = .ok (.iload_n 1, 1) := by decide +kernel
theorem dX12_does_147 : decode cX12_does 147 = .ok (.ifCond .le 152, 3) := by decide +kernel
theorem dX12_does_150 : decode cX12_does 150 = .ok (.aload_n 0, 1) := by decide +kernel
theorem dX12_does_151 : decode cX12_does 151 = .ok (.iconst 1, 1) := by decide +kernel
theorem dX12_does_152 : decode cX12_does 152 = .ok (.putfield 440, 3) := by decide +kernel
theorem dX12_does_155 : decode cX12_does 155 = .ok (.aload_n 0, 1) := by decide +kernel
theorem dX12_does_156 : decode cX12_does 156 = .ok (.aload_n 0, 1) := by decide +kernel
theorem dX12_does_157 : decode cX12_does 157 = .ok (.iload_n 1, 1) := by decide +kernel
theorem dX12_does_158 : decode cX12_does 158 = .ok (.bipush 8, 2) := by decide +kernel
theorem dX12_does_160 : decode cX12_does 160 = .ok (.invokevirtual 364, 3) := by decide +kernel
theorem dX12_does_163 : decode cX12_does 163 = .ok (.putfield 471, 3) := by decide +kernel
theorem dX12_does_166 : decode cX12_does 166 = .ok (.aload_n 0, 1) := by decide +kernel
theorem dX12_does_167 : decode cX12_does 167 = .ok (.aload_n 0, 1) := by decide +kernel
theorem dX12_does_168 : decode cX12_does 168 = .ok (.iload_n 1, 1) := by decide +kernel
theorem dX12_does_169 : decode cX12_does 169 = .ok (.bipush 8, 2) := by decide +kernel
theorem dX12_does_171 : decode cX12_does 171 = .ok (.iadd, 1) := by decide +kernel
theorem dX12_does_172 : decode cX12_does 172 = .ok (.bipush 8, 2) := by decide +kernel
theorem dX12_does_174 : decode cX12_does 174 = .ok (.invokevirtual 364, 3) := by decide +kernel
theorem dX12_does_177 : decode cX12_does 177 = .ok (.putfield 477, 3) := by decide +kernel
theorem dX12_does_180 : decode cX12_does 180 = .ok (.aload_n 0, 1) := by decide +kernel
theorem dX12_does_181 : decode cX12_does 181 = .ok (.getfield 412, 3) := by decide +kernel
theorem dX12_does_184 : decode cX12_does 184 = .ok (.ifCond .eq 49, 3) := by decide +kernel
theorem dX12_does_187 : decode cX12_does 187 = .ok (.aload_n 0, 1) := by decide +kernel
theorem dX12_does_188 : decode cX12_does 188 = .ok (.getfield 471, 3) := by decide +kernel
theorem dX12_does_191 : decode cX12_does 191 = .ok (.ldc2_w 520, 3) := by decide +kernel
theorem dX12_does_194 : decode cX12_does 194 = .ok (.lcmp, 1) := by decide +kernel
theorem dX12_does_195 : decode cX12_does 195 = .ok (.ifCond .ne 38, 3) := by decide +kernel
theorem dX12_does_198 : decode cX12_does 198 = .ok (.aload_n 0, 1) := by decide +kernel
theorem dX12_does_199 : decode cX12_does 199 = .ok (.getfield 477, 3) := by decide +kernel
theorem dX12_does_202 : decode cX12_does 202 = .ok (.ldc2_w 520, 3) := by decide +kernel
theorem dX12_does_205 : decode cX12_does 205 = .ok (.lcmp, 1) := by decide +kernel
theorem dX12_does_206 : decode cX12_does 206 = .ok (.ifCond .ne 27, 3) := by decide +kernel
theorem dX12_does_209 : decode cX12_does 209 = .ok (.aload_n 0, 1) := by decide +kernel
theorem dX12_does_210 : decode cX12_does 210 = .ok (.aload_n 0, 1) := by decide +kernel
theorem dX12_does_211 : decode cX12_does 211 = .ok (.getfield 392, 3) := by decide +kernel
theorem dX12_does_214 : decode cX12_does 214 = .ok (.putfield 440, 3) := by decide +kernel
theorem dX12_does_217 : decode cX12_does 217 = .ok (.aload_n 0, 1) := by decide +kernel
theorem dX12_does_218 : decode cX12_does 218 = .ok (.aload_n 0, 1) := by decide +kernel
theorem dX12_does_219 : decode cX12_does 219 = .ok (.getfield 474, 3) := by decide +kernel
theorem dX12_does_222 : decode cX12_does 222 = .ok (.putfield 471, 3) := by decide +kernel
theorem dX12_does_225 : decode cX12_does 225 = .ok (.aload_n 0, 1) := by decide +kernel
theorem dX12_does_226 : decode cX12_does 226 = .ok (.aload_n 0, 1) := by decide +kernel
theorem dX12_does_227 : decode cX12_does 227 = .ok (.getfield 480, 3) := by decide +kernel
theorem dX12_does_230 : decode cX12_does 230 = .ok (.putfield 477, 3) := by decide +kernel
theorem dX12_does_233 : decode cX12_does 233 = .ok (.aload_n 0, 1) := by decide +kernel
theorem dX12_does_234 : decode cX12_does 234 = .ok (.getfield 440, 3) := by decide +kernel
theorem dX12_does_237 : decode cX12_does 237 = .ok (.ifCond .ne 7, 3) := by decide +kernel
theorem dX12_does_240 : decode cX12_does 240 = .ok (.ldc2_w 518, 3) := by decide +kernel
theorem dX12_does_243 : decode cX12_does 243 = .ok (.lreturn, 1) := by decide +kernel
theorem dX12_does_244 : decode cX12_does 244 = .ok (.aload_n 0, 1) := by decide +kernel
theorem dX12_does_245 : decode cX12_does 245 = .ok (.aload_n 0, 1) := by decide +kernel
theorem dX12_does_246 : decode cX12_does 246 = .ok (.getfield 471, 3) := by decide +kernel
theorem dX12_does_249 : decode cX12_does 249 = .ok (.aload_n 0, 1) := by decide +kernel
theorem dX12_does_250 : decode cX12_does 250 = .ok (.getfield 477, 3) := by decide +kernel
theorem dX12_does_253 : decode cX12_does 253 = .ok (.lcmp, 1) := by decide +kernel
theorem dX12_does_254 : decode cX12_does 254 = .ok (.ifCond .ne 14, 3) := by decide +kernel
theorem dX12_does_257 : decode cX12_does 257 = .ok (.aload_n 0, 1) := by decide +kernel
theorem dX12_does_258 : decode cX12_does 258 = .ok (.aload_n 0, 1) := by decide +kernel
theorem dX12_does_259 : decode cX12_does 259 = .ok (.getfield 471, 3) := by decide +kernel
theorem dX12_does_262 : decode cX12_does 262 = .ok (.invokevirtual 522, 3) := by decide +kernel
theorem dX12_does_265 : decode cX12_does 265 = .ok (.goto 4, 3) := by decide +kernel
theorem dX12_does_268 : decode cX12_does 268 = .ok (.iconst (-1), 1) := by decide +kernel
theorem dX12_does_269 : decode cX12_does 269 = .ok (.putfield 525, 3) := by decide +kernel
theorem dX12_does_272 : decode cX12_does 272 = .ok (.aload_n 0, 1) := by decide +kernel
theorem dX12_does_273 : decode cX12_does 273 = .ok (.getfield 525, 3) := by decide +kernel
theorem dX12_does_276 : decode cX12_does 276 = .ok (.ifCond .lt 19, 3) := by decide +kernel
theorem dX12_does_279 : decode cX12_does 279 = .ok (.aload_n 0, 1) := by decide +kernel
theorem dX12_does_280 : decode cX12_does 280 = .ok (.getfield 142, 3) := by decide +kernel
theorem dX12_does_283 : decode cX12_does 283 = .ok (.aload_n 0, 1) := by decide +kernel
theorem dX12_does_284 : decode cX12_does 284 = .ok (.getfield 525, 3) := by decide +kernel
theorem dX12_does_287 : decode cX12_does 287 = .ok (.iaload, 1) := by decide +kernel
theorem dX12_does_288 : decode cX12_does 288 = .ok (.aload_n 0, 1) := by decide +kernel
theorem dX12_does_289 : decode cX12_does 289 = .ok (.getfield 498, 3) := by decide +kernel
theorem dX12_does_292 : decode cX12_does 292 = .ok (.if_icmp .eq 7, 3) := by decide +kernel
theorem dX12_does_295 : decode cX12_does 295 = .ok (.ldc2_w 528, 3) := by decide +kernel
theorem dX12_does_298 : decode cX12_does 298 = .ok (.lreturn, 1) := by decide +kernel
theorem dX12_does_299 : decode cX12_does 299 = .ok (.aload_n 0, 1) := by decide +kernel
theorem dX12_does_300 : decode cX12_does 300 = .ok (.getfield 418, 3) := by decide +kernel
theorem dX12_does_303 : decode cX12_does 303 = .ok (.tableswitch 180 0 17 #[85, 90, 95, 109, 114, 128, 134, 139, 144, 149, 154, 180, 180, 159, 165, 180, 170, 175], 85) := by decide +kernel
theorem dX12_does_388 : decode cX12_does 388 = .ok (.aload_n 0, 1) := by decide +kernel
theorem dX12_does_389 : decode cX12_does 389 = .ok (.invokevirtual 530, 3) := by decide +kernel
theorem dX12_does_392 : decode cX12_does 392 = .ok (.lreturn, 1) := by decide +kernel
theorem dX12_does_393 : decode cX12_does 393 = .ok (.aload_n 0, 1) := by decide +kernel
theorem dX12_does_394 : decode cX12_does 394 = .ok (.invokevirtual 533, 3) := by decide +kernel
theorem dX12_does_397 : decode cX12_does 397 = .ok (.lreturn, 1) := by decide +kernel
theorem dX12_does_398 : decode cX12_does 398 = .ok (.aload_n 0, 1) := by decide +kernel
theorem dX12_does_399 : decode cX12_does 399 = .ok (.aload_n 0, 1) := by decide +kernel
theorem dX12_does_400 : decode cX12_does 400 = .ok (.getfield 492, 3) := by decide +kernel
theorem dX12_does_403 : decode cX12_does 403 = .ok (.invokevirtual 338, 3) := by decide +kernel
theorem dX12_does_406 : decode cX12_does 406 = .ok (.aload_n 0, 1) := by decide +kernel
theorem dX12_does_407 : decode cX12_does 407 = .ok (.iconst 4, 1) := by decide +kernel
theorem dX12_does_408 : decode cX12_does 408 = .ok (.invokevirtual 536, 3) := by decide +kernel
theorem dX12_does_411 : decode cX12_does 411 = .ok (.lreturn, 1) := by decide +kernel
theorem dX12_does_412 : decode cX12_does 412 = .ok (.aload_n 0, 1) := by decide +kernel
theorem dX12_does_413 : decode cX12_does 413 = .ok (.invokevirtual 540, 3) := by decide +kernel
theorem dX12_does_416 : decode cX12_does 416 = .ok (.lreturn, 1) := by decide +kernel
theorem dX12_does_417 : decode cX12_does 417 = .ok (.aload_n 0, 1) := by decide +kernel
theorem dX12_does_418 : decode cX12_does 418 = .ok (.aload_n 0, 1) := by decide +kernel
theorem dX12_does_419 : decode cX12_does 419 = .ok (.getfield 498, 3) := by decide +kernel
theorem dX12_does_422 : decode cX12_does 422 = .ok (.invokevirtual 344, 3) := by decide +kernel
theorem dX12_does_425 : decode cX12_does 425 = .ok (.aload_n 0, 1) := by decide +kernel
theorem dX12_does_426 : decode cX12_does 426 = .ok (.iconst 4, 1) := by decide +kernel
theorem dX12_does_427 : decode cX12_does 427 = .ok (.invokevirtual 536, 3) := by decide +kernel
theorem dX12_does_430 : decode cX12_does 430 = .ok (.lreturn, 1) := by decide +kernel
theorem dX12_does_431 : decode cX12_does 431 = .ok (.aload_n 0, 1) := by decide +kernel
theorem dX12_does_432 : decode cX12_does 432 = .ok (.iconst (-1), 1) := by decide +kernel
theorem dX12_does_433 : decode cX12_does 433 = .ok (.invokevirtual 543, 3) := by decide +kernel
theorem dX12_does_436 : decode cX12_does 436 = .ok (.lreturn, 1) := by decide +kernel
theorem dX12_does_437 : decode cX12_does 437 = .ok (.aload_n 0, 1) := by decide +kernel
theorem dX12_does_438 : decode cX12_does 438 = .ok (.invokevirtual 546, 3) := by decide +kernel
theorem dX12_does_441 : decode cX12_does 441 = .ok (.lreturn, 1) := by decide +kernel
theorem dX12_does_442 : decode cX12_does 442 = .ok (.aload_n 0, 1) := by decide +kernel
theorem dX12_does_443 : decode cX12_does 443 = .ok (.invokevirtual 549, 3) := by decide +kernel
theorem dX12_does_446 : decode cX12_does 446 = .ok (.lreturn, 1) := by decide +kernel
theorem dX12_does_447 : decode cX12_does 447 = .ok (.aload_n 0, 1) := by decide +kernel
theorem dX12_does_448 : decode cX12_does 448 = .ok (.invokevirtual 552, 3) := by decide +kernel
theorem dX12_does_451 : decode cX12_does 451 = .ok (.lreturn, 1) := by decide +kernel
theorem dX12_does_452 : decode cX12_does 452 = .ok (.aload_n 0, 1) := by decide +kernel
theorem dX12_does_453 : decode cX12_does 453 = .ok (.invokevirtual 555, 3) := by decide +kernel
theorem dX12_does_456 : decode cX12_does 456 = .ok (.lreturn, 1) := by decide +kernel
theorem dX12_does_457 : decode cX12_does 457 = .ok (.aload_n 0, 1) := by decide +kernel
theorem dX12_does_458 : decode cX12_does 458 = .ok (.invokevirtual 558, 3) := by decide +kernel
theorem dX12_does_461 : decode cX12_does 461 = .ok (.lreturn, 1) := by decide +kernel
theorem dX12_does_462 : decode cX12_does 462 = .ok (.aload_n 0, 1) := by decide +kernel
theorem dX12_does_463 : decode cX12_does 463 = .ok (.iconst 4, 1) := by decide +kernel
theorem dX12_does_464 : decode cX12_does 464 = .ok (.invokevirtual 536, 3) := by decide +kernel
theorem dX12_does_467 : decode cX12_does 467 = .ok (.lreturn, 1) := by decide +kernel
theorem dX12_does_468 : decode cX12_does 468 = .ok (.aload_n 0, 1) := by decide +kernel
theorem dX12_does_469 : decode cX12_does 469 = .ok (.invokevirtual 561, 3) := by decide +kernel
theorem dX12_does_472 : decode cX12_does 472 = .ok (.lreturn, 1) := by decide +kernel
theorem dX12_does_473 : decode cX12_does 473 = .ok (.aload_n 0, 1) := by decide +kernel
theorem dX12_does_474 : decode cX12_does 474 = .ok (.invokevirtual 564, 3) := by decide +kernel
theorem dX12_does_477 : decode cX12_does 477 = .ok (.lreturn, 1) := by decide +kernel
theorem dX12_does_478 : decode cX12_does 478 = .ok (.aload_n 0, 1) := by decide +kernel
theorem dX12_does_479 : decode cX12_does 479 = .ok (.invokevirtual 567, 3) := by decide +kernel
theorem dX12_does_482 : decode cX12_does 482 = .ok (.lreturn, 1) := by decide +kernel
theorem dX12_does_483 : decode cX12_does 483 = .ok (.aload_n 0, 1) := by decide +kernel
theorem dX12_does_484 : decode cX12_does 484 = .ok (.invokevirtual 570, 3) := by decide +kernel
theorem dX12_does_487 : decode cX12_does 487 = .ok (.lreturn, 1) := by decide +kernel
set_option maxRecDepth 100000 in
set_option maxHeartbeats 4000000 in
theorem c_X12_does (l : Launch) (D : va_G) (t : Nat → ClassId) (h0 : Nat) (L : Nat → Nat) (σ : HS) (hM : MdI h0 L σ)  (post : Int64 → HS → Prop) (hw : F_X12_does h0 L  post σ) (sz : Nat) : RMl l D t yX12_does cX12_does 2 (some .long) ({ frames := 13, cells := 0, slots := 0, locals := 337 }) h0 L σ sz [.ref h0] post := by
  refine h_go (τ := τT) okT (by decide) (Nat.le_of_ble_eq_true rfl) ?_
  intro p e s m below meth c ls A hF hr hlk hAe hH0 hA hl
  unfold hB
  rw [hAe]
  clear hAe
  have hF : FX p m c cX12_does 2 s _ RX12 D t := hF
  have hx := hF.1.1
  have hb := hF.1.2.1
  have hH : RT D t A s.heap h0 L σ s.heap [] := ⟨hH0, hM⟩
  have hl : lv_has ls 2 [(0, .ref h0)] := hl
  unfold F_X12_does at hw
  refine lv_aload_n hx hb dX12_does_0 rfl (lv_at hl 0 rfl) ?_
  refine w_getI hF hH fk_X12_418 dX12_does_1 hw (fun z1 hw => ?_)
  refine w_cSi (As := [.int z1]) (rest := []) hF hH hA ms_X12_495 (fun sz => c_X12_fileOf l D t h0 L _ hH.2 z1 _ hw sz) dX12_does_4 rfl rfl (by decide) rfl hl.1 (Nat.le_of_ble_eq_true rfl) (by decide) rfl (fun z3 σ2 H locs hw hH => ?_)
  refine lv_istore_n (lv' := [(1, .int z3), (0, .ref h0)]) hx hb dX12_does_7 rfl hl (by decide) rfl (fun ls hl => ?_)
  refine lv_aload_n hx hb dX12_does_8 rfl (lv_at hl 1 rfl) ?_
  refine lv_iconst (v := (-1)) hx hb dX12_does_9 (by decide) ?_
  refine w_putI hF hH fk_X12_492 dX12_does_10 rfl rfl rfl hw (fun σ4 H locs hw hH => ?_)
  refine lv_aload_n hx hb dX12_does_13 rfl (lv_at hl 1 rfl) ?_
  refine lv_iconst (v := (-1)) hx hb dX12_does_14 (by decide) ?_
  refine w_putI hF hH fk_X12_498 dX12_does_15 rfl rfl rfl hw (fun σ5 H locs hw hH => ?_)
  refine lv_aload_n hx hb dX12_does_18 rfl (lv_at hl 1 rfl) ?_
  refine w_getI hF hH fk_X12_418 dX12_does_19 hw (fun z6 hw => ?_)
  obtain ⟨K9, hK10, hw⟩ := jn_open hw
  refine w_join (K := K9) 104 (fun (x7 : Unit) => [(1, .int z3), (0, .ref h0)]) (fun (x7 : Unit) => []) hl hH (fun x7 σ8 ls H locs hl hw hH => ?_) (fun jn11 => ?_)
  · have hw := hK10 x7 σ8 hw
    have hl : lv_has ls 2 [(1, .int z3), (0, .ref h0)] := hl
    refine lv_aload_n hx hb dX12_does_104 rfl (lv_at hl 1 rfl) ?_
    refine w_getI hF hH fk_X12_418 dX12_does_105 hw (fun z12 hw => ?_)
    refine lv_bipush (v := 11) hx hb dX12_does_108 (by decide) ?_
    obtain ⟨K15, hK16, hw⟩ := jn_open hw
    refine w_join (K := K15) 131 (fun (x13 : Unit) => []) (fun (x13 : Unit) => []) hl hH (fun x13 σ14 ls H locs hl hw hH => ?_) (fun jn17 => ?_)
    · have hw := hK16 x13 σ14 hw
      have hl : lv_has ls 2 [] := hl
      refine lv_ldc2 (v := 3221225659) hx hb hF.1.2.2.2.1 (hF.1.2.2.2.2 _ (wc_52 1 rfl)) dX12_does_131 ?_
      exact w_retl hF hH hr hlk dX12_does_134 hw
    · skip
      refine w_icmp_eq (tgt := 131) hF dX12_does_110 rfl hw (fun hw => ?_) (fun hw => ?_)
      · have hl : lv_has ls 2 [] := lv_sub hl [] rfl
        exact jn17 () σ8 ls _ _ hl hw hH
      · refine lv_aload_n hx hb dX12_does_113 rfl (lv_at hl 1 rfl) ?_
        refine w_getI hF hH fk_X12_418 dX12_does_114 hw (fun z18 hw => ?_)
        refine lv_bipush (v := 15) hx hb dX12_does_117 (by decide) ?_
        refine w_icmp_eq (tgt := 131) hF dX12_does_119 rfl hw (fun hw => ?_) (fun hw => ?_)
        · have hl : lv_has ls 2 [] := lv_sub hl [] rfl
          exact jn17 () σ8 ls _ _ hl hw hH
        · refine lv_aload_n hx hb dX12_does_122 rfl (lv_at hl 1 rfl) ?_
          refine w_getI hF hH fk_X12_418 dX12_does_123 hw (fun z19 hw => ?_)
          refine lv_bipush (v := 18) hx hb dX12_does_126 (by decide) ?_
          refine w_icmp_le (tgt := 135) hF dX12_does_128 rfl hw (fun hw => ?_) (fun hw => ?_)
          · refine lv_aload_n hx hb dX12_does_135 rfl (lv_at hl 1 rfl) ?_
            refine w_cVi (As := []) (rest := []) hF hH hA mv_X12_514 (fun sz => c_X12_isBody l D t h0 L _ hH.2  _ hw sz) dX12_does_136 rfl rfl (by decide) rfl hl.1 (Nat.le_of_ble_eq_true rfl) (by decide) rfl (fun z21 σ20 H locs hw hH => ?_)
            refine w_if_ne (tgt := 146) hF dX12_does_139 rfl hw (fun hw => ?_) (fun hw => ?_)
            · refine lv_iload_n hx hb dX12_does_146 rfl (lv_at hl 0 rfl) ?_
              obtain ⟨K24, hK25, hw⟩ := jn_open hw
              refine w_join (K := K24) 299 (fun (x22 : Unit) => [(0, .ref h0)]) (fun (x22 : Unit) => []) hl hH (fun x22 σ23 ls H locs hl hw hH => ?_) (fun jn26 => ?_)
              · have hw := hK25 x22 σ23 hw
                have hl : lv_has ls 2 [(0, .ref h0)] := hl
                refine lv_aload_n hx hb dX12_does_299 rfl (lv_at hl 0 rfl) ?_
                refine w_getI hF hH fk_X12_418 dX12_does_300 hw (fun z27 hw => ?_)
                obtain ⟨K30, hK31, hw⟩ := jn_open hw
                refine w_join (K := K30) 483 (fun (x28 : Unit) => [(0, .ref h0)]) (fun (x28 : Unit) => []) hl hH (fun x28 σ29 ls H locs hl hw hH => ?_) (fun jn32 => ?_)
                · have hw := hK31 x28 σ29 hw
                  have hl : lv_has ls 2 [(0, .ref h0)] := hl
                  refine lv_aload_n hx hb dX12_does_483 rfl (lv_at hl 0 rfl) ?_
                  refine w_cVl (As := []) (rest := []) hF hH hA mv_X12_570 (fun sz => c_X12_broken l D t h0 L _ hH.2  _ hw sz) dX12_does_484 rfl rfl (by decide) rfl hl.1 (Nat.le_of_ble_eq_true rfl) (by decide) rfl (fun z34 σ33 H locs hw hH => ?_)
                  exact w_retl hF hH hr hlk dX12_does_487 hw
                · skip
                  by_cases ho : z27.toInt < 0 ∨ 17 < z27.toInt
                  · have hw := hw.1 ho
                    refine lv_tableOut (tgt := 483) hx hb dX12_does_303 ho rfl ?_
                    exact jn32 () σ23 ls _ _ hl hw hH
                  · rcases (show z27.toInt = 0 ∨ z27.toInt = 1 ∨ z27.toInt = 2 ∨ z27.toInt = 3 ∨ z27.toInt = 4 ∨ z27.toInt = 5 ∨ z27.toInt = 6 ∨ z27.toInt = 7 ∨ z27.toInt = 8 ∨ z27.toInt = 9 ∨ z27.toInt = 10 ∨ z27.toInt = 11 ∨ z27.toInt = 12 ∨ z27.toInt = 13 ∨ z27.toInt = 14 ∨ z27.toInt = 15 ∨ z27.toInt = 16 ∨ z27.toInt = 17 by omega) with zt | zt | zt | zt | zt | zt | zt | zt | zt | zt | zt | zt | zt | zt | zt | zt | zt | zt
                    · have hw := hw.2.1 zt
                      have hoff : (#[85, 90, 95, 109, 114, 128, 134, 139, 144, 149, 154, 180, 180, 159, 165, 180, 170, 175] : Array Int)[(z27.toInt - 0).toNat]? = some 85 := by rw [zt]; rfl
                      refine lv_tableIn (off := 85) (tgt := 388) hx hb dX12_does_303 (fun q => ho (Or.inl q)) (fun q => ho (Or.inr q)) hoff rfl ?_
                      refine lv_aload_n hx hb dX12_does_388 rfl (lv_at hl 0 rfl) ?_
                      refine w_cVl (As := []) (rest := []) hF hH hA mv_X12_530 (fun sz => c_X12_negotiate l D t h0 L _ hH.2  _ hw sz) dX12_does_389 rfl rfl (by decide) rfl hl.1 (Nat.le_of_ble_eq_true rfl) (by decide) rfl (fun z36 σ35 H locs hw hH => ?_)
                      exact w_retl hF hH hr hlk dX12_does_392 hw
                    · have hw := hw.2.2.1 zt
                      have hoff : (#[85, 90, 95, 109, 114, 128, 134, 139, 144, 149, 154, 180, 180, 159, 165, 180, 170, 175] : Array Int)[(z27.toInt - 0).toNat]? = some 90 := by rw [zt]; rfl
                      refine lv_tableIn (off := 90) (tgt := 393) hx hb dX12_does_303 (fun q => ho (Or.inl q)) (fun q => ho (Or.inr q)) hoff rfl ?_
                      refine lv_aload_n hx hb dX12_does_393 rfl (lv_at hl 0 rfl) ?_
                      refine w_cVl (As := []) (rest := []) hF hH hA mv_X12_533 (fun sz => c_X12_setUp l D t h0 L _ hH.2  _ hw sz) dX12_does_394 rfl rfl (by decide) rfl hl.1 (Nat.le_of_ble_eq_true rfl) (by decide) rfl (fun z38 σ37 H locs hw hH => ?_)
                      exact w_retl hF hH hr hlk dX12_does_397 hw
                    · have hw := hw.2.2.2.1 zt
                      have hoff : (#[85, 90, 95, 109, 114, 128, 134, 139, 144, 149, 154, 180, 180, 159, 165, 180, 170, 175] : Array Int)[(z27.toInt - 0).toNat]? = some 95 := by rw [zt]; rfl
                      refine lv_tableIn (off := 95) (tgt := 398) hx hb dX12_does_303 (fun q => ho (Or.inl q)) (fun q => ho (Or.inr q)) hoff rfl ?_
                      refine lv_aload_n hx hb dX12_does_398 rfl (lv_at hl 0 rfl) ?_
                      refine lv_aload_n hx hb dX12_does_399 rfl (lv_at hl 0 rfl) ?_
                      refine w_getI hF hH fk_X12_492 dX12_does_400 hw (fun z39 hw => ?_)
                      refine w_cVv (As := [.int z39]) (rest := []) hF hH hA mv_X12_338 (fun sz => c_X12_endSession l D t h0 L _ hH.2 z39 _ hw sz) dX12_does_403 rfl rfl (by decide) rfl hl.1 (Nat.le_of_ble_eq_true rfl) (by decide) rfl (fun σ40 H locs hw hH => ?_)
                      refine lv_aload_n hx hb dX12_does_406 rfl (lv_at hl 0 rfl) ?_
                      refine lv_iconst (v := 4) hx hb dX12_does_407 (by decide) ?_
                      refine w_cVl (As := [.int 4]) (rest := []) hF hH hA mv_X12_536 (fun sz => c_X12_small l D t h0 L _ hH.2 4 _ hw sz) dX12_does_408 rfl rfl (by decide) rfl hl.1 (Nat.le_of_ble_eq_true rfl) (by decide) rfl (fun z43 σ42 H locs hw hH => ?_)
                      exact w_retl hF hH hr hlk dX12_does_411 hw
                    · have hw := hw.2.2.2.2.1 zt
                      have hoff : (#[85, 90, 95, 109, 114, 128, 134, 139, 144, 149, 154, 180, 180, 159, 165, 180, 170, 175] : Array Int)[(z27.toInt - 0).toNat]? = some 109 := by rw [zt]; rfl
                      refine lv_tableIn (off := 109) (tgt := 412) hx hb dX12_does_303 (fun q => ho (Or.inl q)) (fun q => ho (Or.inr q)) hoff rfl ?_
                      refine lv_aload_n hx hb dX12_does_412 rfl (lv_at hl 0 rfl) ?_
                      refine w_cVl (As := []) (rest := []) hF hH hA mv_X12_540 (fun sz => c_X12_connectTree l D t h0 L _ hH.2  _ hw sz) dX12_does_413 rfl rfl (by decide) rfl hl.1 (Nat.le_of_ble_eq_true rfl) (by decide) rfl (fun z45 σ44 H locs hw hH => ?_)
                      exact w_retl hF hH hr hlk dX12_does_416 hw
                    · have hw := hw.2.2.2.2.2.1 zt
                      have hoff : (#[85, 90, 95, 109, 114, 128, 134, 139, 144, 149, 154, 180, 180, 159, 165, 180, 170, 175] : Array Int)[(z27.toInt - 0).toNat]? = some 114 := by rw [zt]; rfl
                      refine lv_tableIn (off := 114) (tgt := 417) hx hb dX12_does_303 (fun q => ho (Or.inl q)) (fun q => ho (Or.inr q)) hoff rfl ?_
                      refine lv_aload_n hx hb dX12_does_417 rfl (lv_at hl 0 rfl) ?_
                      refine lv_aload_n hx hb dX12_does_418 rfl (lv_at hl 0 rfl) ?_
                      refine w_getI hF hH fk_X12_498 dX12_does_419 hw (fun z46 hw => ?_)
                      refine w_cVv (As := [.int z46]) (rest := []) hF hH hA mv_X12_344 (fun sz => c_X12_endTree l D t h0 L _ hH.2 z46 _ hw sz) dX12_does_422 rfl rfl (by decide) rfl hl.1 (Nat.le_of_ble_eq_true rfl) (by decide) rfl (fun σ47 H locs hw hH => ?_)
                      refine lv_aload_n hx hb dX12_does_425 rfl (lv_at hl 0 rfl) ?_
                      refine lv_iconst (v := 4) hx hb dX12_does_426 (by decide) ?_
                      refine w_cVl (As := [.int 4]) (rest := []) hF hH hA mv_X12_536 (fun sz => c_X12_small l D t h0 L _ hH.2 4 _ hw sz) dX12_does_427 rfl rfl (by decide) rfl hl.1 (Nat.le_of_ble_eq_true rfl) (by decide) rfl (fun z50 σ49 H locs hw hH => ?_)
                      exact w_retl hF hH hr hlk dX12_does_430 hw
                    · have hw := hw.2.2.2.2.2.2.1 zt
                      have hoff : (#[85, 90, 95, 109, 114, 128, 134, 139, 144, 149, 154, 180, 180, 159, 165, 180, 170, 175] : Array Int)[(z27.toInt - 0).toNat]? = some 128 := by rw [zt]; rfl
                      refine lv_tableIn (off := 128) (tgt := 431) hx hb dX12_does_303 (fun q => ho (Or.inl q)) (fun q => ho (Or.inr q)) hoff rfl ?_
                      refine lv_aload_n hx hb dX12_does_431 rfl (lv_at hl 0 rfl) ?_
                      refine lv_iconst (v := (-1)) hx hb dX12_does_432 (by decide) ?_
                      refine w_cVl (As := [.int (-1)]) (rest := []) hF hH hA mv_X12_543 (fun sz => c_X12_create l D t h0 L _ hH.2 (-1) _ hw sz) dX12_does_433 rfl rfl (by decide) rfl hl.1 (Nat.le_of_ble_eq_true rfl) (by decide) rfl (fun z52 σ51 H locs hw hH => ?_)
                      exact w_retl hF hH hr hlk dX12_does_436 hw
                    · have hw := hw.2.2.2.2.2.2.2.1 zt
                      have hoff : (#[85, 90, 95, 109, 114, 128, 134, 139, 144, 149, 154, 180, 180, 159, 165, 180, 170, 175] : Array Int)[(z27.toInt - 0).toNat]? = some 134 := by rw [zt]; rfl
                      refine lv_tableIn (off := 134) (tgt := 437) hx hb dX12_does_303 (fun q => ho (Or.inl q)) (fun q => ho (Or.inr q)) hoff rfl ?_
                      refine lv_aload_n hx hb dX12_does_437 rfl (lv_at hl 0 rfl) ?_
                      refine w_cVl (As := []) (rest := []) hF hH hA mv_X12_546 (fun sz => c_X12_close l D t h0 L _ hH.2  _ hw sz) dX12_does_438 rfl rfl (by decide) rfl hl.1 (Nat.le_of_ble_eq_true rfl) (by decide) rfl (fun z54 σ53 H locs hw hH => ?_)
                      exact w_retl hF hH hr hlk dX12_does_441 hw
                    · have hw := hw.2.2.2.2.2.2.2.2.1 zt
                      have hoff : (#[85, 90, 95, 109, 114, 128, 134, 139, 144, 149, 154, 180, 180, 159, 165, 180, 170, 175] : Array Int)[(z27.toInt - 0).toNat]? = some 139 := by rw [zt]; rfl
                      refine lv_tableIn (off := 139) (tgt := 442) hx hb dX12_does_303 (fun q => ho (Or.inl q)) (fun q => ho (Or.inr q)) hoff rfl ?_
                      refine lv_aload_n hx hb dX12_does_442 rfl (lv_at hl 0 rfl) ?_
                      refine w_cVl (As := []) (rest := []) hF hH hA mv_X12_549 (fun sz => c_X12_flush l D t h0 L _ hH.2  _ hw sz) dX12_does_443 rfl rfl (by decide) rfl hl.1 (Nat.le_of_ble_eq_true rfl) (by decide) rfl (fun z56 σ55 H locs hw hH => ?_)
                      exact w_retl hF hH hr hlk dX12_does_446 hw
                    · have hw := hw.2.2.2.2.2.2.2.2.2.1 zt
                      have hoff : (#[85, 90, 95, 109, 114, 128, 134, 139, 144, 149, 154, 180, 180, 159, 165, 180, 170, 175] : Array Int)[(z27.toInt - 0).toNat]? = some 144 := by rw [zt]; rfl
                      refine lv_tableIn (off := 144) (tgt := 447) hx hb dX12_does_303 (fun q => ho (Or.inl q)) (fun q => ho (Or.inr q)) hoff rfl ?_
                      refine lv_aload_n hx hb dX12_does_447 rfl (lv_at hl 0 rfl) ?_
                      refine w_cVl (As := []) (rest := []) hF hH hA mv_X12_552 (fun sz => c_X12_read l D t h0 L _ hH.2  _ hw sz) dX12_does_448 rfl rfl (by decide) rfl hl.1 (Nat.le_of_ble_eq_true rfl) (by decide) rfl (fun z58 σ57 H locs hw hH => ?_)
                      exact w_retl hF hH hr hlk dX12_does_451 hw
                    · have hw := hw.2.2.2.2.2.2.2.2.2.2.1 zt
                      have hoff : (#[85, 90, 95, 109, 114, 128, 134, 139, 144, 149, 154, 180, 180, 159, 165, 180, 170, 175] : Array Int)[(z27.toInt - 0).toNat]? = some 149 := by rw [zt]; rfl
                      refine lv_tableIn (off := 149) (tgt := 452) hx hb dX12_does_303 (fun q => ho (Or.inl q)) (fun q => ho (Or.inr q)) hoff rfl ?_
                      refine lv_aload_n hx hb dX12_does_452 rfl (lv_at hl 0 rfl) ?_
                      refine w_cVl (As := []) (rest := []) hF hH hA mv_X12_555 (fun sz => c_X12_write l D t h0 L _ hH.2  _ hw sz) dX12_does_453 rfl rfl (by decide) rfl hl.1 (Nat.le_of_ble_eq_true rfl) (by decide) rfl (fun z60 σ59 H locs hw hH => ?_)
                      exact w_retl hF hH hr hlk dX12_does_456 hw
                    · have hw := hw.2.2.2.2.2.2.2.2.2.2.2.1 zt
                      have hoff : (#[85, 90, 95, 109, 114, 128, 134, 139, 144, 149, 154, 180, 180, 159, 165, 180, 170, 175] : Array Int)[(z27.toInt - 0).toNat]? = some 154 := by rw [zt]; rfl
                      refine lv_tableIn (off := 154) (tgt := 457) hx hb dX12_does_303 (fun q => ho (Or.inl q)) (fun q => ho (Or.inr q)) hoff rfl ?_
                      refine lv_aload_n hx hb dX12_does_457 rfl (lv_at hl 0 rfl) ?_
                      refine w_cVl (As := []) (rest := []) hF hH hA mv_X12_558 (fun sz => c_X12_lock l D t h0 L _ hH.2  _ hw sz) dX12_does_458 rfl rfl (by decide) rfl hl.1 (Nat.le_of_ble_eq_true rfl) (by decide) rfl (fun z62 σ61 H locs hw hH => ?_)
                      exact w_retl hF hH hr hlk dX12_does_461 hw
                    · have hw := hw.2.2.2.2.2.2.2.2.2.2.2.2.1 zt
                      have hoff : (#[85, 90, 95, 109, 114, 128, 134, 139, 144, 149, 154, 180, 180, 159, 165, 180, 170, 175] : Array Int)[(z27.toInt - 0).toNat]? = some 180 := by rw [zt]; rfl
                      refine lv_tableIn (off := 180) (tgt := 483) hx hb dX12_does_303 (fun q => ho (Or.inl q)) (fun q => ho (Or.inr q)) hoff rfl ?_
                      exact jn32 () σ23 ls _ _ hl hw hH
                    · have hw := hw.2.2.2.2.2.2.2.2.2.2.2.2.2.1 zt
                      have hoff : (#[85, 90, 95, 109, 114, 128, 134, 139, 144, 149, 154, 180, 180, 159, 165, 180, 170, 175] : Array Int)[(z27.toInt - 0).toNat]? = some 180 := by rw [zt]; rfl
                      refine lv_tableIn (off := 180) (tgt := 483) hx hb dX12_does_303 (fun q => ho (Or.inl q)) (fun q => ho (Or.inr q)) hoff rfl ?_
                      exact jn32 () σ23 ls _ _ hl hw hH
                    · have hw := hw.2.2.2.2.2.2.2.2.2.2.2.2.2.2.1 zt
                      have hoff : (#[85, 90, 95, 109, 114, 128, 134, 139, 144, 149, 154, 180, 180, 159, 165, 180, 170, 175] : Array Int)[(z27.toInt - 0).toNat]? = some 159 := by rw [zt]; rfl
                      refine lv_tableIn (off := 159) (tgt := 462) hx hb dX12_does_303 (fun q => ho (Or.inl q)) (fun q => ho (Or.inr q)) hoff rfl ?_
                      refine lv_aload_n hx hb dX12_does_462 rfl (lv_at hl 0 rfl) ?_
                      refine lv_iconst (v := 4) hx hb dX12_does_463 (by decide) ?_
                      refine w_cVl (As := [.int 4]) (rest := []) hF hH hA mv_X12_536 (fun sz => c_X12_small l D t h0 L _ hH.2 4 _ hw sz) dX12_does_464 rfl rfl (by decide) rfl hl.1 (Nat.le_of_ble_eq_true rfl) (by decide) rfl (fun z64 σ63 H locs hw hH => ?_)
                      exact w_retl hF hH hr hlk dX12_does_467 hw
                    · have hw := hw.2.2.2.2.2.2.2.2.2.2.2.2.2.2.2.1 zt
                      have hoff : (#[85, 90, 95, 109, 114, 128, 134, 139, 144, 149, 154, 180, 180, 159, 165, 180, 170, 175] : Array Int)[(z27.toInt - 0).toNat]? = some 165 := by rw [zt]; rfl
                      refine lv_tableIn (off := 165) (tgt := 468) hx hb dX12_does_303 (fun q => ho (Or.inl q)) (fun q => ho (Or.inr q)) hoff rfl ?_
                      refine lv_aload_n hx hb dX12_does_468 rfl (lv_at hl 0 rfl) ?_
                      refine w_cVl (As := []) (rest := []) hF hH hA mv_X12_561 (fun sz => c_X12_list l D t h0 L _ hH.2  _ hw sz) dX12_does_469 rfl rfl (by decide) rfl hl.1 (Nat.le_of_ble_eq_true rfl) (by decide) rfl (fun z66 σ65 H locs hw hH => ?_)
                      exact w_retl hF hH hr hlk dX12_does_472 hw
                    · have hw := hw.2.2.2.2.2.2.2.2.2.2.2.2.2.2.2.2.1 zt
                      have hoff : (#[85, 90, 95, 109, 114, 128, 134, 139, 144, 149, 154, 180, 180, 159, 165, 180, 170, 175] : Array Int)[(z27.toInt - 0).toNat]? = some 180 := by rw [zt]; rfl
                      refine lv_tableIn (off := 180) (tgt := 483) hx hb dX12_does_303 (fun q => ho (Or.inl q)) (fun q => ho (Or.inr q)) hoff rfl ?_
                      exact jn32 () σ23 ls _ _ hl hw hH
                    · have hw := hw.2.2.2.2.2.2.2.2.2.2.2.2.2.2.2.2.2.1 zt
                      have hoff : (#[85, 90, 95, 109, 114, 128, 134, 139, 144, 149, 154, 180, 180, 159, 165, 180, 170, 175] : Array Int)[(z27.toInt - 0).toNat]? = some 170 := by rw [zt]; rfl
                      refine lv_tableIn (off := 170) (tgt := 473) hx hb dX12_does_303 (fun q => ho (Or.inl q)) (fun q => ho (Or.inr q)) hoff rfl ?_
                      refine lv_aload_n hx hb dX12_does_473 rfl (lv_at hl 0 rfl) ?_
                      refine w_cVl (As := []) (rest := []) hF hH hA mv_X12_564 (fun sz => c_X12_ask l D t h0 L _ hH.2  _ hw sz) dX12_does_474 rfl rfl (by decide) rfl hl.1 (Nat.le_of_ble_eq_true rfl) (by decide) rfl (fun z68 σ67 H locs hw hH => ?_)
                      exact w_retl hF hH hr hlk dX12_does_477 hw
                    · have hw := hw.2.2.2.2.2.2.2.2.2.2.2.2.2.2.2.2.2.2 zt
                      have hoff : (#[85, 90, 95, 109, 114, 128, 134, 139, 144, 149, 154, 180, 180, 159, 165, 180, 170, 175] : Array Int)[(z27.toInt - 0).toNat]? = some 175 := by rw [zt]; rfl
                      refine lv_tableIn (off := 175) (tgt := 478) hx hb dX12_does_303 (fun q => ho (Or.inl q)) (fun q => ho (Or.inr q)) hoff rfl ?_
                      refine lv_aload_n hx hb dX12_does_478 rfl (lv_at hl 0 rfl) ?_
                      refine w_cVl (As := []) (rest := []) hF hH hA mv_X12_567 (fun sz => c_X12_setInfo l D t h0 L _ hH.2  _ hw sz) dX12_does_479 rfl rfl (by decide) rfl hl.1 (Nat.le_of_ble_eq_true rfl) (by decide) rfl (fun z70 σ69 H locs hw hH => ?_)
                      exact w_retl hF hH hr hlk dX12_does_482 hw
              · skip
                refine w_if_le (tgt := 299) hF dX12_does_147 rfl hw (fun hw => ?_) (fun hw => ?_)
                · have hl : lv_has ls 2 [(0, .ref h0)] := lv_sub hl [1] rfl
                  exact jn26 () σ20 ls _ _ hl hw hH
                · refine lv_aload_n hx hb dX12_does_150 rfl (lv_at hl 1 rfl) ?_
                  refine lv_iconst (v := 1) hx hb dX12_does_151 (by decide) ?_
                  refine w_putZ hF hH fk_X12_440 dX12_does_152 rfl rfl hw (fun σ71 H locs hw hH => ?_)
                  refine lv_aload_n hx hb dX12_does_155 rfl (lv_at hl 1 rfl) ?_
                  refine lv_aload_n hx hb dX12_does_156 rfl (lv_at hl 1 rfl) ?_
                  refine lv_iload_n hx hb dX12_does_157 rfl (lv_at hl 0 rfl) ?_
                  refine lv_bipush (v := 8) hx hb dX12_does_158 (by decide) ?_
                  refine w_cVl (As := [.int z3, .int 8]) (rest := [.ref h0]) hF hH hA mv_X12_364 (fun sz => c_X12_number l D t h0 L _ hH.2 z3 8 _ hw sz) dX12_does_160 rfl rfl (by decide) rfl hl.1 (Nat.le_of_ble_eq_true rfl) (by decide) rfl (fun z73 σ72 H locs hw hH => ?_)
                  refine w_putJ hF hH fk_X12_471 dX12_does_163 rfl rfl rfl hw (fun σ74 H locs hw hH => ?_)
                  refine lv_aload_n hx hb dX12_does_166 rfl (lv_at hl 1 rfl) ?_
                  refine lv_aload_n hx hb dX12_does_167 rfl (lv_at hl 1 rfl) ?_
                  refine lv_iload_n hx hb dX12_does_168 rfl (lv_at hl 0 rfl) ?_
                  refine lv_bipush (v := 8) hx hb dX12_does_169 (by decide) ?_
                  refine lv_iadd hx hb dX12_does_171 ?_
                  refine w_nmi hw (fun z75 hw => ?_)
                  refine lv_bipush (v := 8) hx hb dX12_does_172 (by decide) ?_
                  refine w_cVl (As := [.int z75, .int 8]) (rest := [.ref h0]) hF hH hA mv_X12_364 (fun sz => c_X12_number l D t h0 L _ hH.2 z75 8 _ hw sz) dX12_does_174 rfl rfl (by decide) rfl hl.1 (Nat.le_of_ble_eq_true rfl) (by decide) rfl (fun z77 σ76 H locs hw hH => ?_)
                  refine w_putJ hF hH fk_X12_477 dX12_does_177 rfl rfl rfl hw (fun σ78 H locs hw hH => ?_)
                  refine lv_aload_n hx hb dX12_does_180 rfl (lv_at hl 1 rfl) ?_
                  refine w_getI hF hH fk_X12_412 dX12_does_181 hw (fun z79 hw => ?_)
                  obtain ⟨K82, hK83, hw⟩ := jn_open hw
                  refine w_join (K := K82) 233 (fun (x80 : Unit) => [(0, .ref h0)]) (fun (x80 : Unit) => []) hl hH (fun x80 σ81 ls H locs hl hw hH => ?_) (fun jn84 => ?_)
                  · have hw := hK83 x80 σ81 hw
                    have hl : lv_has ls 2 [(0, .ref h0)] := hl
                    refine lv_aload_n hx hb dX12_does_233 rfl (lv_at hl 0 rfl) ?_
                    refine w_getI hF hH fk_X12_440 dX12_does_234 hw (fun z85 hw => ?_)
                    refine w_if_ne (tgt := 244) hF dX12_does_237 rfl hw (fun hw => ?_) (fun hw => ?_)
                    · refine lv_aload_n hx hb dX12_does_244 rfl (lv_at hl 0 rfl) ?_
                      refine lv_aload_n hx hb dX12_does_245 rfl (lv_at hl 0 rfl) ?_
                      refine w_getJ hF hH fk_X12_471 dX12_does_246 hw (fun z86 hw => ?_)
                      refine lv_aload_n hx hb dX12_does_249 rfl (lv_at hl 0 rfl) ?_
                      refine w_getJ hF hH fk_X12_477 dX12_does_250 hw (fun z87 hw => ?_)
                      obtain ⟨K90, hK91, hw⟩ := jn_open hw
                      refine w_join (K := K90) 269 (fun (x88 : Int32) => [(0, .ref h0)]) (fun (x88 : Int32) => [.int x88, .ref h0]) hl hH (fun x88 σ89 ls H locs hl hw hH => ?_) (fun jn92 => ?_)
                      · have hw := hK91 x88 σ89 hw
                        have hl : lv_has ls 2 [(0, .ref h0)] := hl
                        refine w_putI hF hH fk_X12_525 dX12_does_269 rfl rfl rfl hw (fun σ93 H locs hw hH => ?_)
                        refine lv_aload_n hx hb dX12_does_272 rfl (lv_at hl 0 rfl) ?_
                        refine w_getI hF hH fk_X12_525 dX12_does_273 hw (fun z94 hw => ?_)
                        obtain ⟨K97, hK98, hw⟩ := jn_open hw
                        refine w_join (K := K97) 295 (fun (x95 : Unit) => []) (fun (x95 : Unit) => []) hl hH (fun x95 σ96 ls H locs hl hw hH => ?_) (fun jn99 => ?_)
                        · have hw := hK98 x95 σ96 hw
                          have hl : lv_has ls 2 [] := hl
                          refine lv_ldc2 (v := 3221225768) hx hb hF.1.2.2.2.1 (hF.1.2.2.2.2 _ (wc_52 8 rfl)) dX12_does_295 ?_
                          exact w_retl hF hH hr hlk dX12_does_298 hw
                        · skip
                          refine w_if_lt (tgt := 295) hF dX12_does_276 rfl hw (fun hw => ?_) (fun hw => ?_)
                          · have hl : lv_has ls 2 [] := lv_sub hl [] rfl
                            exact jn99 () σ93 ls _ _ hl hw hH
                          · refine lv_aload_n hx hb dX12_does_279 rfl (lv_at hl 0 rfl) ?_
                            refine w_getA 42 hF hH fk_X12_142 dX12_does_280 (by decide) rfl ?_
                            refine lv_aload_n hx hb dX12_does_283 rfl (lv_at hl 0 rfl) ?_
                            refine w_getI hF hH fk_X12_525 dX12_does_284 hw (fun z100 hw => ?_)
                            refine w_iald 42 40 hF hH dX12_does_287 (by decide) rfl rfl hw (fun z101 hw => ?_)
                            refine lv_aload_n hx hb dX12_does_288 rfl (lv_at hl 0 rfl) ?_
                            refine w_getI hF hH fk_X12_498 dX12_does_289 hw (fun z102 hw => ?_)
                            refine w_icmp_eq (tgt := 299) hF dX12_does_292 rfl hw (fun hw => ?_) (fun hw => ?_)
                            · exact jn26 () σ93 ls _ _ hl hw hH
                            · have hl : lv_has ls 2 [] := lv_sub hl [] rfl
                              exact jn99 () σ93 ls _ _ hl hw hH
                      · skip
                        refine w_lif_ne (tgt := 268) hF dX12_does_253 dX12_does_254 rfl hw (fun hw => ?_) (fun hw => ?_)
                        · refine lv_iconst (v := (-1)) hx hb dX12_does_268 (by decide) ?_
                          exact jn92 (-1) σ81 ls _ _ hl hw hH
                        · refine lv_aload_n hx hb dX12_does_257 rfl (lv_at hl 0 rfl) ?_
                          refine lv_aload_n hx hb dX12_does_258 rfl (lv_at hl 0 rfl) ?_
                          refine w_getJ hF hH fk_X12_471 dX12_does_259 hw (fun z103 hw => ?_)
                          refine w_cVi (As := [.long z103]) (rest := [.ref h0]) hF hH hA mv_X12_522 (fun sz => c_X12_openBy l D t h0 L _ hH.2 z103 _ hw sz) dX12_does_262 rfl rfl (by decide) rfl hl.1 (Nat.le_of_ble_eq_true rfl) (by decide) rfl (fun z105 σ104 H locs hw hH => ?_)
                          refine lv_goto (tgt := 269) hx hb dX12_does_265 rfl ?_
                          exact jn92 z105 σ104 ls _ _ hl hw hH
                    · refine lv_ldc2 (v := 3221225485) hx hb hF.1.2.2.2.1 (hF.1.2.2.2.2 _ (wc_47 33 rfl)) dX12_does_240 ?_
                      exact w_retl hF hH hr hlk dX12_does_243 hw
                  · skip
                    refine w_if_eq (tgt := 233) hF dX12_does_184 rfl hw (fun hw => ?_) (fun hw => ?_)
                    · have hl : lv_has ls 2 [(0, .ref h0)] := lv_sub hl [1] rfl
                      exact jn84 () σ78 ls _ _ hl hw hH
                    · refine lv_aload_n hx hb dX12_does_187 rfl (lv_at hl 1 rfl) ?_
                      refine w_getJ hF hH fk_X12_471 dX12_does_188 hw (fun z106 hw => ?_)
                      refine lv_ldc2 (v := (-1)) hx hb hF.1.2.2.2.1 (hF.1.2.2.2.2 _ (wc_47 34 rfl)) dX12_does_191 ?_
                      refine w_lif_ne (tgt := 233) hF dX12_does_194 dX12_does_195 rfl hw (fun hw => ?_) (fun hw => ?_)
                      · have hl : lv_has ls 2 [(0, .ref h0)] := lv_sub hl [1] rfl
                        exact jn84 () σ78 ls _ _ hl hw hH
                      · refine lv_aload_n hx hb dX12_does_198 rfl (lv_at hl 1 rfl) ?_
                        refine w_getJ hF hH fk_X12_477 dX12_does_199 hw (fun z107 hw => ?_)
                        refine lv_ldc2 (v := (-1)) hx hb hF.1.2.2.2.1 (hF.1.2.2.2.2 _ (wc_47 34 rfl)) dX12_does_202 ?_
                        refine w_lif_ne (tgt := 233) hF dX12_does_205 dX12_does_206 rfl hw (fun hw => ?_) (fun hw => ?_)
                        · have hl : lv_has ls 2 [(0, .ref h0)] := lv_sub hl [1] rfl
                          exact jn84 () σ78 ls _ _ hl hw hH
                        · refine lv_aload_n hx hb dX12_does_209 rfl (lv_at hl 1 rfl) ?_
                          refine lv_aload_n hx hb dX12_does_210 rfl (lv_at hl 1 rfl) ?_
                          refine w_getI hF hH fk_X12_392 dX12_does_211 hw (fun z108 hw => ?_)
                          refine w_putZ hF hH fk_X12_440 dX12_does_214 rfl rfl hw (fun σ109 H locs hw hH => ?_)
                          refine lv_aload_n hx hb dX12_does_217 rfl (lv_at hl 1 rfl) ?_
                          refine lv_aload_n hx hb dX12_does_218 rfl (lv_at hl 1 rfl) ?_
                          refine w_getJ hF hH fk_X12_474 dX12_does_219 hw (fun z110 hw => ?_)
                          refine w_putJ hF hH fk_X12_471 dX12_does_222 rfl rfl rfl hw (fun σ111 H locs hw hH => ?_)
                          refine lv_aload_n hx hb dX12_does_225 rfl (lv_at hl 1 rfl) ?_
                          refine lv_aload_n hx hb dX12_does_226 rfl (lv_at hl 1 rfl) ?_
                          refine w_getJ hF hH fk_X12_480 dX12_does_227 hw (fun z112 hw => ?_)
                          refine w_putJ hF hH fk_X12_477 dX12_does_230 rfl rfl rfl hw (fun σ113 H locs hw hH => ?_)
                          have hl : lv_has ls 2 [(0, .ref h0)] := lv_sub hl [1] rfl
                          exact jn84 () σ113 ls _ _ hl hw hH
            · refine lv_ldc2 (v := 3221225485) hx hb hF.1.2.2.2.1 (hF.1.2.2.2.2 _ (wc_47 33 rfl)) dX12_does_142 ?_
              exact w_retl hF hH hr hlk dX12_does_145 hw
          · have hl : lv_has ls 2 [] := lv_sub hl [] rfl
            exact jn17 () σ8 ls _ _ hl hw hH
  · skip
    refine w_if_eq (tgt := 104) hF dX12_does_22 rfl hw (fun hw => ?_) (fun hw => ?_)
    · exact jn11 () σ5 ls _ _ hl hw hH
    · refine lv_aload_n hx hb dX12_does_25 rfl (lv_at hl 1 rfl) ?_
      refine w_getI hF hH fk_X12_418 dX12_does_26 hw (fun z114 hw => ?_)
      refine lv_iconst (v := 1) hx hb dX12_does_29 (by decide) ?_
      refine w_icmp_eq (tgt := 104) hF dX12_does_30 rfl hw (fun hw => ?_) (fun hw => ?_)
      · exact jn11 () σ5 ls _ _ hl hw hH
      · refine lv_aload_n hx hb dX12_does_33 rfl (lv_at hl 1 rfl) ?_
        refine w_getI hF hH fk_X12_418 dX12_does_34 hw (fun z115 hw => ?_)
        refine lv_bipush (v := 13) hx hb dX12_does_37 (by decide) ?_
        refine w_icmp_eq (tgt := 104) hF dX12_does_39 rfl hw (fun hw => ?_) (fun hw => ?_)
        · exact jn11 () σ5 ls _ _ hl hw hH
        · refine lv_aload_n hx hb dX12_does_42 rfl (lv_at hl 1 rfl) ?_
          refine lv_aload_n hx hb dX12_does_43 rfl (lv_at hl 1 rfl) ?_
          refine lv_aload_n hx hb dX12_does_44 rfl (lv_at hl 1 rfl) ?_
          refine w_getJ hF hH fk_X12_434 dX12_does_45 hw (fun z116 hw => ?_)
          refine w_cVi (As := [.long z116]) (rest := [.ref h0]) hF hH hA mv_X12_501 (fun sz => c_X12_findSession l D t h0 L _ hH.2 z116 _ hw sz) dX12_does_48 rfl rfl (by decide) rfl hl.1 (Nat.le_of_ble_eq_true rfl) (by decide) rfl (fun z118 σ117 H locs hw hH => ?_)
          refine w_putI hF hH fk_X12_492 dX12_does_51 rfl rfl rfl hw (fun σ119 H locs hw hH => ?_)
          refine lv_aload_n hx hb dX12_does_54 rfl (lv_at hl 1 rfl) ?_
          refine w_getI hF hH fk_X12_492 dX12_does_55 hw (fun z120 hw => ?_)
          refine w_if_ge (tgt := 65) hF dX12_does_58 rfl hw (fun hw => ?_) (fun hw => ?_)
          · refine lv_aload_n hx hb dX12_does_65 rfl (lv_at hl 1 rfl) ?_
            refine w_getI hF hH fk_X12_418 dX12_does_66 hw (fun z121 hw => ?_)
            refine lv_iconst (v := 2) hx hb dX12_does_69 (by decide) ?_
            refine w_icmp_eq (tgt := 104) hF dX12_does_70 rfl hw (fun hw => ?_) (fun hw => ?_)
            · exact jn11 () σ119 ls _ _ hl hw hH
            · refine lv_aload_n hx hb dX12_does_73 rfl (lv_at hl 1 rfl) ?_
              refine w_getI hF hH fk_X12_418 dX12_does_74 hw (fun z122 hw => ?_)
              refine lv_iconst (v := 3) hx hb dX12_does_77 (by decide) ?_
              refine w_icmp_eq (tgt := 104) hF dX12_does_78 rfl hw (fun hw => ?_) (fun hw => ?_)
              · exact jn11 () σ119 ls _ _ hl hw hH
              · refine lv_aload_n hx hb dX12_does_81 rfl (lv_at hl 1 rfl) ?_
                refine lv_aload_n hx hb dX12_does_82 rfl (lv_at hl 1 rfl) ?_
                refine lv_aload_n hx hb dX12_does_83 rfl (lv_at hl 1 rfl) ?_
                refine w_getJ hF hH fk_X12_437 dX12_does_84 hw (fun z123 hw => ?_)
                refine w_cVi (As := [.long z123]) (rest := [.ref h0]) hF hH hA mv_X12_507 (fun sz => c_X12_findTree l D t h0 L _ hH.2 z123 _ hw sz) dX12_does_87 rfl rfl (by decide) rfl hl.1 (Nat.le_of_ble_eq_true rfl) (by decide) rfl (fun z125 σ124 H locs hw hH => ?_)
                refine w_putI hF hH fk_X12_498 dX12_does_90 rfl rfl rfl hw (fun σ126 H locs hw hH => ?_)
                refine lv_aload_n hx hb dX12_does_93 rfl (lv_at hl 1 rfl) ?_
                refine w_getI hF hH fk_X12_498 dX12_does_94 hw (fun z127 hw => ?_)
                refine w_if_ge (tgt := 104) hF dX12_does_97 rfl hw (fun hw => ?_) (fun hw => ?_)
                · exact jn11 () σ126 ls _ _ hl hw hH
                · refine lv_ldc2 (v := 3221225673) hx hb hF.1.2.2.2.1 (hF.1.2.2.2.2 _ (wc_52 0 rfl)) dX12_does_100 ?_
                  exact w_retl hF hH hr hlk dX12_does_103 hw
          · refine lv_ldc2 (v := 3221225987) hx hb hF.1.2.2.2.1 (hF.1.2.2.2.2 _ (wc_51 36 rfl)) dX12_does_61 ?_
            exact w_retl hF hH hr hlk dX12_does_64 hw
def F_X12_grant (h0 : Nat) (L : Nat → Nat) (a1 : Int32) (a2 : Int32) (post : Int32 → HS → Prop) (σ : HS) : Prop := jn (fun (K3 : Int32 → HS → Prop) => (((1 : Int32).toInt ≤ a2.toInt) → K3 a2 σ) ∧ ((a2.toInt < (1 : Int32).toInt) → K3 1 σ)) (fun (x1 : Int32) (σ2 : HS) => (0 ≤ a1.toInt ∧ a1.toInt < 6) ∧ ∀ z6 : Int32, z6 = sI σ2 (L 32) a1.toInt.toNat → ∀ z7 : Int32, z7 = 16 - z6 → jn (fun (K10 : Int32 → HS → Prop) => ((x1.toInt ≤ z7.toInt) → K10 x1 σ2) ∧ ((z7.toInt < x1.toInt) → K10 z7 σ2)) (fun (x8 : Int32) (σ9 : HS) => lw (fun (K15 : Int32 → HS → Prop) (x13 : Int32) (σ14 : HS) => ((x8.toInt ≤ x13.toInt) → post x8 σ14) ∧ ((x13.toInt < x8.toInt) → (0 ≤ a1.toInt ∧ a1.toInt < 6) ∧ ∀ z17 : Int64, z17 = sJ σ14 (L 33) a1.toInt.toNat → ∀ z18 : Int64, z18 = z17 + 1 → (0 ≤ a1.toInt ∧ a1.toInt < 6) ∧ ∀ σ19 : HS, σ19 = h_uJ σ14 (L 33) a1.toInt.toNat z18 → ∀ z20 : Int32, z20 = 16 * a1 → (0 ≤ a1.toInt ∧ a1.toInt < 6) ∧ ∀ z21 : Int32, z21 = sI σ19 (L 32) a1.toInt.toNat → ∀ z22 : Int32, z22 = z20 + z21 → (0 ≤ a1.toInt ∧ a1.toInt < 6) ∧ ∀ z23 : Int64, z23 = sJ σ19 (L 33) a1.toInt.toNat → (0 ≤ z22.toInt ∧ z22.toInt < 96) ∧ ∀ σ24 : HS, σ24 = h_uJ σ19 (L 31) z22.toInt.toNat z23 → (0 ≤ a1.toInt ∧ a1.toInt < 6) ∧ ∀ z25 : Int32, z25 = sI σ24 (L 32) a1.toInt.toNat → ∀ z26 : Int32, z26 = z25 + 1 → (0 ≤ a1.toInt ∧ a1.toInt < 6) ∧ ∀ σ27 : HS, σ27 = h_uI σ24 (L 32) a1.toInt.toNat z26 → ∀ z28 : Int32, z28 = x13 + 1 → K15 z28 σ27)) 0 σ9))
theorem dX12_grant_0 : decode cX12_grant 0 = .ok (.iload_n 2, 1) := by decide +kernel
theorem dX12_grant_1 : decode cX12_grant 1 = .ok (.iconst 1, 1) := by decide +kernel
theorem dX12_grant_2 : decode cX12_grant 2 = .ok (.if_icmp .ge 7, 3) := by decide +kernel
theorem dX12_grant_5 : decode cX12_grant 5 = .ok (.iconst 1, 1) := by decide +kernel
theorem dX12_grant_6 : decode cX12_grant 6 = .ok (.goto 4, 3) := by decide +kernel
theorem dX12_grant_9 : decode cX12_grant 9 = .ok (.iload_n 2, 1) := by decide +kernel
theorem dX12_grant_10 : decode cX12_grant 10 = .ok (.istore_n 3, 1) := by decide +kernel
theorem dX12_grant_11 : decode cX12_grant 11 = .ok (.bipush 16, 2) := by decide +kernel
theorem dX12_grant_13 : decode cX12_grant 13 = .ok (.aload_n 0, 1) := by decide +kernel
theorem dX12_grant_14 : decode cX12_grant 14 = .ok (.getfield 112, 3) := by decide +kernel
theorem dX12_grant_17 : decode cX12_grant 17 = .ok (.iload_n 1, 1) := by decide +kernel
theorem dX12_grant_18 : decode cX12_grant 18 = .ok (.iaload, 1) := by decide +kernel
theorem dX12_grant_19 : decode cX12_grant 19 = .ok (.isub, 1) := by decide +kernel
theorem dX12_grant_20 : decode cX12_grant 20 = .ok (.istore 4, 2) := by decide +kernel
theorem dX12_grant_22 : decode cX12_grant 22 = .ok (.iload_n 3, 1) := by decide +kernel
theorem dX12_grant_23 : decode cX12_grant 23 = .ok (.iload 4, 2) := by decide +kernel
theorem dX12_grant_25 : decode cX12_grant 25 = .ok (.if_icmp .le 8, 3) := by decide +kernel
theorem dX12_grant_28 : decode cX12_grant 28 = .ok (.iload 4, 2) := by decide +kernel
theorem dX12_grant_30 : decode cX12_grant 30 = .ok (.goto 4, 3) := by decide +kernel
theorem dX12_grant_33 : decode cX12_grant 33 = .ok (.iload_n 3, 1) := by decide +kernel
theorem dX12_grant_34 : decode cX12_grant 34 = .ok (.istore_n 3, 1) := by decide +kernel
theorem dX12_grant_35 : decode cX12_grant 35 = .ok (.iconst 0, 1) := by decide +kernel
theorem dX12_grant_36 : decode cX12_grant 36 = .ok (.istore 5, 2) := by decide +kernel
theorem dX12_grant_38 : decode cX12_grant 38 = .ok (.iload 5, 2) := by decide +kernel
theorem dX12_grant_40 : decode cX12_grant 40 = .ok (.iload_n 3, 1) := by decide +kernel
theorem dX12_grant_41 : decode cX12_grant 41 = .ok (.if_icmp .ge 51, 3) := by decide +kernel
theorem dX12_grant_44 : decode cX12_grant 44 = .ok (.aload_n 0, 1) := by decide +kernel
theorem dX12_grant_45 : decode cX12_grant 45 = .ok (.getfield 115, 3) := by decide +kernel
theorem dX12_grant_48 : decode cX12_grant 48 = .ok (.iload_n 1, 1) := by decide +kernel
theorem dX12_grant_49 : decode cX12_grant 49 = .ok (.dup2, 1) := by decide +kernel
theorem dX12_grant_50 : decode cX12_grant 50 = .ok (.laload, 1) := by decide +kernel
theorem dX12_grant_51 : decode cX12_grant 51 = .ok (.lconst 1, 1) := by decide +kernel
theorem dX12_grant_52 : decode cX12_grant 52 = .ok (.ladd, 1) := by decide +kernel
theorem dX12_grant_53 : decode cX12_grant 53 = .ok (.lastore, 1) := by decide +kernel
theorem dX12_grant_54 : decode cX12_grant 54 = .ok (.aload_n 0, 1) := by decide +kernel
theorem dX12_grant_55 : decode cX12_grant 55 = .ok (.getfield 109, 3) := by decide +kernel
theorem dX12_grant_58 : decode cX12_grant 58 = .ok (.bipush 16, 2) := by decide +kernel
theorem dX12_grant_60 : decode cX12_grant 60 = .ok (.iload_n 1, 1) := by decide +kernel
theorem dX12_grant_61 : decode cX12_grant 61 = .ok (.imul, 1) := by decide +kernel
theorem dX12_grant_62 : decode cX12_grant 62 = .ok (.aload_n 0, 1) := by decide +kernel
theorem dX12_grant_63 : decode cX12_grant 63 = .ok (.getfield 112, 3) := by decide +kernel
theorem dX12_grant_66 : decode cX12_grant 66 = .ok (.iload_n 1, 1) := by decide +kernel
theorem dX12_grant_67 : decode cX12_grant 67 = .ok (.iaload, 1) := by decide +kernel
theorem dX12_grant_68 : decode cX12_grant 68 = .ok (.iadd, 1) := by decide +kernel
theorem dX12_grant_69 : decode cX12_grant 69 = .ok (.aload_n 0, 1) := by decide +kernel
theorem dX12_grant_70 : decode cX12_grant 70 = .ok (.getfield 115, 3) := by decide +kernel
theorem dX12_grant_73 : decode cX12_grant 73 = .ok (.iload_n 1, 1) := by decide +kernel
theorem dX12_grant_74 : decode cX12_grant 74 = .ok (.laload, 1) := by decide +kernel
theorem dX12_grant_75 : decode cX12_grant 75 = .ok (.lastore, 1) := by decide +kernel
theorem dX12_grant_76 : decode cX12_grant 76 = .ok (.aload_n 0, 1) := by decide +kernel
theorem dX12_grant_77 : decode cX12_grant 77 = .ok (.getfield 112, 3) := by decide +kernel
theorem dX12_grant_80 : decode cX12_grant 80 = .ok (.iload_n 1, 1) := by decide +kernel
theorem dX12_grant_81 : decode cX12_grant 81 = .ok (.dup2, 1) := by decide +kernel
theorem dX12_grant_82 : decode cX12_grant 82 = .ok (.iaload, 1) := by decide +kernel
theorem dX12_grant_83 : decode cX12_grant 83 = .ok (.iconst 1, 1) := by decide +kernel
theorem dX12_grant_84 : decode cX12_grant 84 = .ok (.iadd, 1) := by decide +kernel
theorem dX12_grant_85 : decode cX12_grant 85 = .ok (.iastore, 1) := by decide +kernel
theorem dX12_grant_86 : decode cX12_grant 86 = .ok (.iinc 5 1, 3) := by decide +kernel
theorem dX12_grant_89 : decode cX12_grant 89 = .ok (.goto (-51), 3) := by decide +kernel
theorem dX12_grant_92 : decode cX12_grant 92 = .ok (.iload_n 3, 1) := by decide +kernel
theorem dX12_grant_93 : decode cX12_grant 93 = .ok (.ireturn, 1) := by decide +kernel
set_option maxRecDepth 100000 in
set_option maxHeartbeats 4000000 in
theorem c_X12_grant (l : Launch) (D : va_G) (t : Nat → ClassId) (h0 : Nat) (L : Nat → Nat) (σ : HS) (hM : MdI h0 L σ) (a1 : Int32) (a2 : Int32) (post : Int32 → HS → Prop) (hw : F_X12_grant h0 L a1 a2 post σ) (sz : Nat) : RMi l D t yX12_grant cX12_grant 6 (some .int) ({ frames := 0, cells := 0, slots := 0, locals := 0 }) h0 L σ sz [.ref h0, .int a1, .int a2] post := by
  refine h_go (τ := τT) okT (by decide) (Nat.le_of_ble_eq_true rfl) ?_
  intro p e s m below meth c ls A hF hr hlk hAe hH0 hA hl
  unfold hB
  rw [hAe]
  clear hAe
  have hF : FX p m c cX12_grant 6 s _ RX12 D t := hF
  have hx := hF.1.1
  have hb := hF.1.2.1
  have hH : RT D t A s.heap h0 L σ s.heap [] := ⟨hH0, hM⟩
  have hl : lv_has ls 6 [(0, .ref h0), (1, .int a1), (2, .int a2)] := hl
  unfold F_X12_grant at hw
  refine lv_iload_n hx hb dX12_grant_0 rfl (lv_at hl 2 rfl) ?_
  refine lv_iconst (v := 1) hx hb dX12_grant_1 (by decide) ?_
  obtain ⟨K3, hK4, hw⟩ := jn_open hw
  refine w_join (K := K3) 10 (fun (x1 : Int32) => [(1, .int a1), (0, .ref h0)]) (fun (x1 : Int32) => [.int x1]) hl hH (fun x1 σ2 ls H locs hl hw hH => ?_) (fun jn5 => ?_)
  · have hw := hK4 x1 σ2 hw
    have hl : lv_has ls 6 [(1, .int a1), (0, .ref h0)] := hl
    refine lv_istore_n (lv' := [(3, .int x1), (1, .int a1), (0, .ref h0)]) hx hb dX12_grant_10 rfl hl (by decide) rfl (fun ls hl => ?_)
    refine lv_bipush (v := 16) hx hb dX12_grant_11 (by decide) ?_
    refine lv_aload_n hx hb dX12_grant_13 rfl (lv_at hl 2 rfl) ?_
    refine w_getA 32 hF hH fk_X12_112 dX12_grant_14 (by decide) rfl ?_
    refine lv_iload_n hx hb dX12_grant_17 rfl (lv_at hl 1 rfl) ?_
    refine w_iald 32 6 hF hH dX12_grant_18 (by decide) rfl rfl hw (fun z6 hw => ?_)
    refine lv_isub hx hb dX12_grant_19 ?_
    refine w_nmi hw (fun z7 hw => ?_)
    refine lv_istore (lv' := [(4, .int z7), (3, .int x1), (1, .int a1), (0, .ref h0)]) hx hb dX12_grant_20 hl (by decide) rfl (fun ls hl => ?_)
    refine lv_iload_n hx hb dX12_grant_22 rfl (lv_at hl 1 rfl) ?_
    refine lv_iload hx hb dX12_grant_23 (lv_at hl 0 rfl) ?_
    obtain ⟨K10, hK11, hw⟩ := jn_open hw
    refine w_join (K := K10) 34 (fun (x8 : Int32) => [(1, .int a1), (0, .ref h0)]) (fun (x8 : Int32) => [.int x8]) hl hH (fun x8 σ9 ls H locs hl hw hH => ?_) (fun jn12 => ?_)
    · have hw := hK11 x8 σ9 hw
      have hl : lv_has ls 6 [(1, .int a1), (0, .ref h0)] := hl
      refine lv_istore_n (lv' := [(3, .int x8), (1, .int a1), (0, .ref h0)]) hx hb dX12_grant_34 rfl hl (by decide) rfl (fun ls hl => ?_)
      refine lv_iconst (v := 0) hx hb dX12_grant_35 (by decide) ?_
      refine lv_istore (lv' := [(5, .int 0), (3, .int x8), (1, .int a1), (0, .ref h0)]) hx hb dX12_grant_36 hl (by decide) rfl (fun ls hl => ?_)
      refine w_loop (β := Int32) (fun x13 => [(5, .int x13), (3, .int x8), (1, .int a1), (0, .ref h0)]) 0 hl hw hH (fun K15 x13 σ14 ls H locs hl hw hH ih16 => ?_)
      have hl : lv_has ls 6 [(5, .int x13), (3, .int x8), (1, .int a1), (0, .ref h0)] := hl
      refine lv_iload hx hb dX12_grant_38 (lv_at hl 0 rfl) ?_
      refine lv_iload_n hx hb dX12_grant_40 rfl (lv_at hl 1 rfl) ?_
      refine w_icmp_ge (tgt := 92) hF dX12_grant_41 rfl hw (fun hw => ?_) (fun hw => ?_)
      · refine lv_iload_n hx hb dX12_grant_92 rfl (lv_at hl 1 rfl) ?_
        exact w_reti hF hH hr hlk rfl dX12_grant_93 hw
      · refine lv_aload_n hx hb dX12_grant_44 rfl (lv_at hl 3 rfl) ?_
        refine w_getA 33 hF hH fk_X12_115 dX12_grant_45 (by decide) rfl ?_
        refine lv_iload_n hx hb dX12_grant_48 rfl (lv_at hl 2 rfl) ?_
        refine lv_dup2_11 hx hb dX12_grant_49 rfl rfl ?_
        refine w_lald 33 6 hF hH dX12_grant_50 (by decide) rfl rfl hw (fun z17 hw => ?_)
        refine lv_lconst (v := 1) hx hb dX12_grant_51 (by decide) ?_
        refine lv_ladd hx hb dX12_grant_52 ?_
        refine w_nml hw (fun z18 hw => ?_)
        refine w_last 33 6 hF hH dX12_grant_53 (by decide) rfl rfl hw (fun σ19 H locs hw hH => ?_)
        refine lv_aload_n hx hb dX12_grant_54 rfl (lv_at hl 3 rfl) ?_
        refine w_getA 31 hF hH fk_X12_109 dX12_grant_55 (by decide) rfl ?_
        refine lv_bipush (v := 16) hx hb dX12_grant_58 (by decide) ?_
        refine lv_iload_n hx hb dX12_grant_60 rfl (lv_at hl 2 rfl) ?_
        refine lv_imul hx hb dX12_grant_61 ?_
        refine w_nmi hw (fun z20 hw => ?_)
        refine lv_aload_n hx hb dX12_grant_62 rfl (lv_at hl 3 rfl) ?_
        refine w_getA 32 hF hH fk_X12_112 dX12_grant_63 (by decide) rfl ?_
        refine lv_iload_n hx hb dX12_grant_66 rfl (lv_at hl 2 rfl) ?_
        refine w_iald 32 6 hF hH dX12_grant_67 (by decide) rfl rfl hw (fun z21 hw => ?_)
        refine lv_iadd hx hb dX12_grant_68 ?_
        refine w_nmi hw (fun z22 hw => ?_)
        refine lv_aload_n hx hb dX12_grant_69 rfl (lv_at hl 3 rfl) ?_
        refine w_getA 33 hF hH fk_X12_115 dX12_grant_70 (by decide) rfl ?_
        refine lv_iload_n hx hb dX12_grant_73 rfl (lv_at hl 2 rfl) ?_
        refine w_lald 33 6 hF hH dX12_grant_74 (by decide) rfl rfl hw (fun z23 hw => ?_)
        refine w_last 31 96 hF hH dX12_grant_75 (by decide) rfl rfl hw (fun σ24 H locs hw hH => ?_)
        refine lv_aload_n hx hb dX12_grant_76 rfl (lv_at hl 3 rfl) ?_
        refine w_getA 32 hF hH fk_X12_112 dX12_grant_77 (by decide) rfl ?_
        refine lv_iload_n hx hb dX12_grant_80 rfl (lv_at hl 2 rfl) ?_
        refine lv_dup2_11 hx hb dX12_grant_81 rfl rfl ?_
        refine w_iald 32 6 hF hH dX12_grant_82 (by decide) rfl rfl hw (fun z25 hw => ?_)
        refine lv_iconst (v := 1) hx hb dX12_grant_83 (by decide) ?_
        refine lv_iadd hx hb dX12_grant_84 ?_
        refine w_nmi hw (fun z26 hw => ?_)
        refine w_iast 32 6 hF hH dX12_grant_85 (by decide) rfl rfl hw (fun σ27 H locs hw hH => ?_)
        obtain ⟨z28, ez28⟩ : ∃ z : Int32, z = x13 + 1 := ⟨_, rfl⟩
        have hw := hw z28 ez28
        refine lv_iinc (lv' := [(5, .int z28), (3, .int x8), (1, .int a1), (0, .ref h0)]) (k := 0) (v := z28) hx hb dX12_grant_86 hl rfl ez28.symm (by decide) rfl (fun ls hl => ?_)
        refine lv_goto (tgt := 38) hx hb dX12_grant_89 rfl ?_
        exact ih16 z28 σ27 ls _ _ hl hw hH
    · skip
      refine w_icmp_le (tgt := 33) hF dX12_grant_25 rfl hw (fun hw => ?_) (fun hw => ?_)
      · refine lv_iload_n hx hb dX12_grant_33 rfl (lv_at hl 1 rfl) ?_
        have hl : lv_has ls 6 [(1, .int a1), (0, .ref h0)] := lv_sub hl [2, 3] rfl
        exact jn12 x1 σ2 ls _ _ hl hw hH
      · refine lv_iload hx hb dX12_grant_28 (lv_at hl 0 rfl) ?_
        refine lv_goto (tgt := 34) hx hb dX12_grant_30 rfl ?_
        have hl : lv_has ls 6 [(1, .int a1), (0, .ref h0)] := lv_sub hl [2, 3] rfl
        exact jn12 z7 σ2 ls _ _ hl hw hH
  · skip
    refine w_icmp_ge (tgt := 9) hF dX12_grant_2 rfl hw (fun hw => ?_) (fun hw => ?_)
    · refine lv_iload_n hx hb dX12_grant_9 rfl (lv_at hl 2 rfl) ?_
      have hl : lv_has ls 6 [(1, .int a1), (0, .ref h0)] := lv_sub hl [1, 0] rfl
      exact jn5 a2 σ ls _ _ hl hw hH
    · refine lv_iconst (v := 1) hx hb dX12_grant_5 (by decide) ?_
      refine lv_goto (tgt := 10) hx hb dX12_grant_6 rfl ?_
      have hl : lv_has ls 6 [(1, .int a1), (0, .ref h0)] := lv_sub hl [1, 0] rfl
      exact jn5 1 σ ls _ _ hl hw hH
def F_X12_request (h0 : Nat) (L : Nat → Nat) (a1 : Int32) (a2 : Int64) (post : HS → Prop) (σ : HS) : Prop := F_X12_number2 h0 L 6 (fun (z2 : Int32) (σ1 : HS) => F_X12_number2 h0 L 14 (fun (z4 : Int32) (σ3 : HS) => ∀ z5 : Int32, z5 = sI σ3 h0 94 → jn (fun (K8 : Int64 → HS → Prop) => ((z5.toInt = 0) → F_X12_number h0 L 40 8 (fun (z108 : Int64) (σ107 : HS) => K8 z108 σ107) σ3) ∧ ((¬ z5.toInt = 0) → ∀ z109 : Int64, z109 = sJ σ3 h0 104 → K8 z109 σ3)) (fun (x6 : Int64) (σ7 : HS) => ∀ σ11 : HS, σ11 = h_uJ σ7 h0 96 x6 → ∀ z12 : Int32, z12 = sI σ11 h0 94 → jn (fun (K15 : Int64 → HS → Prop) => ((z12.toInt = 0) → F_X12_number h0 L 36 4 (fun (z105 : Int64) (σ104 : HS) => K15 z105 σ104) σ11) ∧ ((¬ z12.toInt = 0) → ∀ z106 : Int64, z106 = sJ σ11 h0 105 → K15 z106 σ11)) (fun (x13 : Int64) (σ14 : HS) => ∀ σ18 : HS, σ18 = h_uJ σ14 h0 97 x13 → F_X12_number h0 L 32 4 (fun (z20 : Int64) (σ19 : HS) => (0 ≤ (0 : Int32).toInt ∧ (0 : Int32).toInt ≤ 1) ∧ ∀ σ21 : HS, σ21 = h_uI σ19 h0 103 0 → ∀ σ22 : HS, σ22 = h_uJ σ21 h0 111 0 → (0 ≤ (0 : Int32).toInt ∧ (0 : Int32).toInt ≤ 1) ∧ ∀ σ23 : HS, σ23 = h_uI σ22 h0 109 0 → ∀ z24 : Int32, z24 = sI σ23 h0 93 → ((¬ z24.toInt = (12 : Int32).toInt) → ∀ z25 : Int32, z25 = sI σ23 h0 93 → ∀ z26 : Int32, z26 = sI σ23 h0 94 → ∀ z27 : Int32, z27 = sI σ23 h0 90 → ∀ σ28 : HS, σ28 = h_uI σ23 h0 91 64 → F_X12_does h0 L  (fun (z30 : Int64) (σ29 : HS) => ∀ z31 : Int64, z31 = sJ σ29 h0 96 → ∀ z32 : Int64, z32 = sJ σ29 h0 97 → ∀ σ33 : HS, σ33 = h_uI σ29 h0 90 z27 → jn (fun (K36 : Unit → HS → Prop) => ((z30.toInt = (0 : Int64).toInt) → K36 () σ33) ∧ ((¬ z30.toInt = (0 : Int64).toInt) → F_X12_body h0 L 9 (fun (σ93 : HS) => F_X12_set h0 L 64 2 9 (fun (σ95 : HS) => K36 () σ95) σ93) σ33)) (fun (x34 : Unit) (σ35 : HS) => F_X12_grant h0 L a1 z4 (fun (z40 : Int32) (σ39 : HS) => jn (fun (K43 : Int64 → HS → Prop) => ((z26.toInt = 0) → K43 0 σ39) ∧ ((¬ z26.toInt = 0) → K43 4 σ39)) (fun (x41 : Int64) (σ42 : HS) => ∀ z46 : Int64, z46 = 1 ||| x41 → ∀ z47 : Int32, z47 = sI σ42 h0 109 → jn (fun (K50 : Int64 → HS → Prop) => ((z47.toInt = 0) → K50 0 σ42) ∧ ((¬ z47.toInt = 0) → K50 2 σ42)) (fun (x48 : Int64) (σ49 : HS) => ∀ z53 : Int64, z53 = z46 ||| x48 → ∀ z54 : Int32, z54 = sI σ49 h0 91 → ∀ z55 : Int32, z55 = sI σ49 h0 109 → jn (fun (K58 : Int64 → HS → Prop) => ((z55.toInt = 0) → ∀ z90 : Int64, z90 = z32 <<< ((32 : Int32).toInt64 &&& 63) → ∀ z91 : Int64, z91 = z20 ||| z90 → K58 z91 σ49) ∧ ((¬ z55.toInt = 0) → ∀ z92 : Int64, z92 = sJ σ49 h0 62 → K58 z92 σ49)) (fun (x56 : Int64) (σ57 : HS) => F_X12_header h0 L z30 z25 z2 z40 z53 a2 x56 z31 (fun (σ61 : HS) => ∀ σ63 : HS, σ63 = h_uI σ61 h0 91 z54 → ∀ σ64 : HS, σ64 = h_uJ σ63 h0 104 z31 → ∀ σ65 : HS, σ65 = h_uJ σ64 h0 105 z32 → jn (fun (K68 : Int32 → HS → Prop) => ((¬ z25.toInt = (5 : Int32).toInt) → ∀ z88 : Int32, z88 = sI σ65 h0 103 → K68 z88 σ65) ∧ ((z25.toInt = (5 : Int32).toInt) → ∀ z89 : Int64, z89 = sJ σ65 h0 111 → ((z89.toInt = (0 : Int64).toInt) → K68 0 σ65) ∧ ((¬ z89.toInt = (0 : Int64).toInt) → K68 1 σ65))) (fun (x66 : Int32) (σ67 : HS) => (0 ≤ x66.toInt ∧ x66.toInt ≤ 1) ∧ ∀ σ71 : HS, σ71 = h_uI σ67 h0 108 x66 → jn (fun (K74 : Int64 → HS → Prop) => ((¬ z25.toInt = (5 : Int32).toInt) → ∀ z86 : Int64, z86 = sJ σ71 h0 101 → K74 z86 σ71) ∧ ((z25.toInt = (5 : Int32).toInt) → ∀ z87 : Int64, z87 = sJ σ71 h0 111 → K74 z87 σ71)) (fun (x72 : Int64) (σ73 : HS) => ∀ σ77 : HS, σ77 = h_uJ σ73 h0 106 x72 → jn (fun (K80 : Int64 → HS → Prop) => ((¬ z25.toInt = (5 : Int32).toInt) → ∀ z84 : Int64, z84 = sJ σ77 h0 102 → K80 z84 σ77) ∧ ((z25.toInt = (5 : Int32).toInt) → ∀ z85 : Int64, z85 = sJ σ77 h0 111 → K80 z85 σ77)) (fun (x78 : Int64) (σ79 : HS) => ∀ σ83 : HS, σ83 = h_uJ σ79 h0 107 x78 → post σ83)))) σ57)))) σ35)) σ28) ∧ ((z24.toInt = (12 : Int32).toInt) → F_X12_cancel h0 L a1 a2 (fun (σ97 : HS) => ∀ z99 : Int64, z99 = sJ σ97 h0 96 → ∀ σ100 : HS, σ100 = h_uJ σ97 h0 104 z99 → ∀ z101 : Int64, z101 = sJ σ100 h0 97 → ∀ σ102 : HS, σ102 = h_uJ σ100 h0 105 z101 → (0 ≤ (0 : Int32).toInt ∧ (0 : Int32).toInt ≤ 1) ∧ ∀ σ103 : HS, σ103 = h_uI σ102 h0 108 0 → post σ103) σ23)) σ18))) σ1) σ
theorem dX12_request_0 : decode cX12_request 0 = .ok (.aload_n 0, 1) := by decide +kernel
theorem dX12_request_1 : decode cX12_request 1 = .ok (.bipush 6, 2) := by decide +kernel
theorem dX12_request_3 : decode cX12_request 3 = .ok (.invokevirtual 415, 3) := by decide +kernel
theorem dX12_request_6 : decode cX12_request 6 = .ok (.istore 4, 2) := by decide +kernel
theorem dX12_request_8 : decode cX12_request 8 = .ok (.aload_n 0, 1) := by decide +kernel
theorem dX12_request_9 : decode cX12_request 9 = .ok (.bipush 14, 2) := by decide +kernel
theorem dX12_request_11 : decode cX12_request 11 = .ok (.invokevirtual 415, 3) := by decide +kernel
theorem dX12_request_14 : decode cX12_request 14 = .ok (.istore 5, 2) := by decide +kernel
theorem dX12_request_16 : decode cX12_request 16 = .ok (.aload_n 0, 1) := by decide +kernel
theorem dX12_request_17 : decode cX12_request 17 = .ok (.aload_n 0, 1) := by decide +kernel
theorem dX12_request_18 : decode cX12_request 18 = .ok (.getfield 412, 3) := by decide +kernel
theorem dX12_request_21 : decode cX12_request 21 = .ok (.ifCond .eq 10, 3) := by decide +kernel
theorem dX12_request_24 : decode cX12_request 24 = .ok (.aload_n 0, 1) := by decide +kernel
theorem dX12_request_25 : decode cX12_request 25 = .ok (.getfield 395, 3) := by decide +kernel
theorem dX12_request_28 : decode cX12_request 28 = .ok (.goto 11, 3) := by decide +kernel
theorem dX12_request_31 : decode cX12_request 31 = .ok (.aload_n 0, 1) := by decide +kernel
theorem dX12_request_32 : decode cX12_request 32 = .ok (.bipush 40, 2) := by decide +kernel
theorem dX12_request_34 : decode cX12_request 34 = .ok (.bipush 8, 2) := by decide +kernel
theorem dX12_request_36 : decode cX12_request 36 = .ok (.invokevirtual 364, 3) := by decide +kernel
theorem dX12_request_39 : decode cX12_request 39 = .ok (.putfield 434, 3) := by decide +kernel
theorem dX12_request_42 : decode cX12_request 42 = .ok (.aload_n 0, 1) := by decide +kernel
theorem dX12_request_43 : decode cX12_request 43 = .ok (.aload_n 0, 1) := by decide +kernel
theorem dX12_request_44 : decode cX12_request 44 = .ok (.getfield 412, 3) := by decide +kernel
theorem dX12_request_47 : decode cX12_request 47 = .ok (.ifCond .eq 10, 3) := by decide +kernel
theorem dX12_request_50 : decode cX12_request 50 = .ok (.aload_n 0, 1) := by decide +kernel
theorem dX12_request_51 : decode cX12_request 51 = .ok (.getfield 398, 3) := by decide +kernel
theorem dX12_request_54 : decode cX12_request 54 = .ok (.goto 10, 3) := by decide +kernel
theorem dX12_request_57 : decode cX12_request 57 = .ok (.aload_n 0, 1) := by decide +kernel
theorem dX12_request_58 : decode cX12_request 58 = .ok (.bipush 36, 2) := by decide +kernel
theorem dX12_request_60 : decode cX12_request 60 = .ok (.iconst 4, 1) := by decide +kernel
theorem dX12_request_61 : decode cX12_request 61 = .ok (.invokevirtual 364, 3) := by decide +kernel
theorem dX12_request_64 : decode cX12_request 64 = .ok (.putfield 437, 3) := by decide +kernel
theorem dX12_request_67 : decode cX12_request 67 = .ok (.aload_n 0, 1) := by decide +kernel
theorem dX12_request_68 : decode cX12_request 68 = .ok (.bipush 32, 2) := by decide +kernel
theorem dX12_request_70 : decode cX12_request 70 = .ok (.iconst 4, 1) := by decide +kernel
theorem dX12_request_71 : decode cX12_request 71 = .ok (.invokevirtual 364, 3) := by decide +kernel
theorem dX12_request_74 : decode cX12_request 74 = .ok (.lstore 6, 2) := by decide +kernel
theorem dX12_request_76 : decode cX12_request 76 = .ok (.aload_n 0, 1) := by decide +kernel
theorem dX12_request_77 : decode cX12_request 77 = .ok (.iconst 0, 1) := by decide +kernel
theorem dX12_request_78 : decode cX12_request 78 = .ok (.putfield 440, 3) := by decide +kernel
theorem dX12_request_81 : decode cX12_request 81 = .ok (.aload_n 0, 1) := by decide +kernel
theorem dX12_request_82 : decode cX12_request 82 = .ok (.lconst 0, 1) := by decide +kernel
theorem dX12_request_83 : decode cX12_request 83 = .ok (.putfield 443, 3) := by decide +kernel
theorem dX12_request_86 : decode cX12_request 86 = .ok (.aload_n 0, 1) := by decide +kernel
theorem dX12_request_87 : decode cX12_request 87 = .ok (.iconst 0, 1) := by decide +kernel
theorem dX12_request_88 : decode cX12_request 88 = .ok (.putfield 446, 3) := by decide +kernel
theorem dX12_request_91 : decode cX12_request 91 = .ok (.aload_n 0, 1) := by decide +kernel
theorem dX12_request_92 : decode cX12_request 92 = .ok (.getfield 418, 3) := by decide +kernel
theorem dX12_request_95 : decode cX12_request 95 = .ok (.bipush 12, 2) := by decide +kernel
theorem dX12_request_97 : decode cX12_request 97 = .ok (.if_icmp .ne 31, 3) := by decide +kernel
theorem dX12_request_100 : decode cX12_request 100 = .ok (.aload_n 0, 1) := by decide +kernel
theorem dX12_request_101 : decode cX12_request 101 = .ok (.iload_n 1, 1) := by decide +kernel
theorem dX12_request_102 : decode cX12_request 102 = .ok (.lload_n 2, 1) := by decide +kernel
theorem dX12_request_103 : decode cX12_request 103 = .ok (.invokevirtual 449, 3) := by decide +kernel
theorem dX12_request_106 : decode cX12_request 106 = .ok (.aload_n 0, 1) := by decide +kernel
theorem dX12_request_107 : decode cX12_request 107 = .ok (.aload_n 0, 1) := by decide +kernel
theorem dX12_request_108 : decode cX12_request 108 = .ok (.getfield 434, 3) := by decide +kernel
theorem dX12_request_111 : decode cX12_request 111 = .ok (.putfield 395, 3) := by decide +kernel
theorem dX12_request_114 : decode cX12_request 114 = .ok (.aload_n 0, 1) := by decide +kernel
theorem dX12_request_115 : decode cX12_request 115 = .ok (.aload_n 0, 1) := by decide +kernel
theorem dX12_request_116 : decode cX12_request 116 = .ok (.getfield 437, 3) := by decide +kernel
theorem dX12_request_119 : decode cX12_request 119 = .ok (.putfield 398, 3) := by decide +kernel
theorem dX12_request_122 : decode cX12_request 122 = .ok (.aload_n 0, 1) := by decide +kernel
theorem dX12_request_123 : decode cX12_request 123 = .ok (.iconst 0, 1) := by decide +kernel
theorem dX12_request_124 : decode cX12_request 124 = .ok (.putfield 392, 3) := by decide +kernel
theorem dX12_request_127 : decode cX12_request 127 = .ok (.return_, 1) := by decide +kernel
theorem dX12_request_128 : decode cX12_request 128 = .ok (.aload_n 0, 1) := by decide +kernel
theorem dX12_request_129 : decode cX12_request 129 = .ok (.getfield 418, 3) := by decide +kernel
theorem dX12_request_132 : decode cX12_request 132 = .ok (.istore 8, 2) := by decide +kernel
theorem dX12_request_134 : decode cX12_request 134 = .ok (.aload_n 0, 1) := by decide +kernel
theorem dX12_request_135 : decode cX12_request 135 = .ok (.getfield 412, 3) := by decide +kernel
theorem dX12_request_138 : decode cX12_request 138 = .ok (.istore 9, 2) := by decide +kernel
theorem dX12_request_140 : decode cX12_request 140 = .ok (.aload_n 0, 1) := by decide +kernel
theorem dX12_request_141 : decode cX12_request 141 = .ok (.getfield 368, 3) := by decide +kernel
theorem dX12_request_144 : decode cX12_request 144 = .ok (.istore 10, 2) := by decide +kernel
theorem dX12_request_146 : decode cX12_request 146 = .ok (.aload_n 0, 1) := by decide +kernel
theorem dX12_request_147 : decode cX12_request 147 = .ok (.bipush 64, 2) := by decide +kernel
theorem dX12_request_149 : decode cX12_request 149 = .ok (.putfield 371, 3) := by decide +kernel
theorem dX12_request_152 : decode cX12_request 152 = .ok (.aload_n 0, 1) := by decide +kernel
theorem dX12_request_153 : decode cX12_request 153 = .ok (.invokevirtual 452, 3) := by decide +kernel
theorem dX12_request_156 : decode cX12_request 156 = .ok (.lstore 11, 2) := by decide +kernel
theorem dX12_request_158 : decode cX12_request 158 = .ok (.aload_n 0, 1) := by decide +kernel
theorem dX12_request_159 : decode cX12_request 159 = .ok (.getfield 434, 3) := by decide +kernel
theorem dX12_request_162 : decode cX12_request 162 = .ok (.lstore 13, 2) := by decide +kernel
theorem dX12_request_164 : decode cX12_request 164 = .ok (.aload_n 0, 1) := by decide +kernel
theorem dX12_request_165 : decode cX12_request 165 = .ok (.getfield 437, 3) := by decide +kernel
theorem dX12_request_168 : decode cX12_request 168 = .ok (.lstore 15, 2) := by decide +kernel
theorem dX12_request_170 : decode cX12_request 170 = .ok (.aload_n 0, 1) := by decide +kernel
theorem dX12_request_171 : decode cX12_request 171 = .ok (.iload 10, 2) := by decide +kernel
theorem dX12_request_173 : decode cX12_request 173 = .ok (.putfield 368, 3) := by decide +kernel
theorem dX12_request_176 : decode cX12_request 176 = .ok (.lload 11, 2) := by decide +kernel
theorem dX12_request_178 : decode cX12_request 178 = .ok (.lconst 0, 1) := by decide +kernel
theorem dX12_request_179 : decode cX12_request 179 = .ok (.lcmp, 1) := by decide +kernel
theorem dX12_request_180 : decode cX12_request 180 = .ok (.ifCond .eq 19, 3) := by decide +kernel
theorem dX12_request_183 : decode cX12_request 183 = .ok (.aload_n 0, 1) := by decide +kernel
theorem dX12_request_184 : decode cX12_request 184 = .ok (.bipush 9, 2) := by decide +kernel
theorem dX12_request_186 : decode cX12_request 186 = .ok (.invokevirtual 456, 3) := by decide +kernel
theorem dX12_request_189 : decode cX12_request 189 = .ok (.aload_n 0, 1) := by decide +kernel
theorem dX12_request_190 : decode cX12_request 190 = .ok (.bipush 64, 2) := by decide +kernel
theorem dX12_request_192 : decode cX12_request 192 = .ok (.iconst 2, 1) := by decide +kernel
theorem dX12_request_193 : decode cX12_request 193 = .ok (.ldc2_w 459, 3) := by decide +kernel
theorem dX12_request_196 : decode cX12_request 196 = .ok (.invokevirtual 376, 3) := by decide +kernel
theorem dX12_request_199 : decode cX12_request 199 = .ok (.aload_n 0, 1) := by decide +kernel
theorem dX12_request_200 : decode cX12_request 200 = .ok (.iload_n 1, 1) := by decide +kernel
theorem dX12_request_201 : decode cX12_request 201 = .ok (.iload 5, 2) := by decide +kernel
theorem dX12_request_203 : decode cX12_request 203 = .ok (.invokevirtual 461, 3) := by decide +kernel
theorem dX12_request_206 : decode cX12_request 206 = .ok (.istore 17, 2) := by decide +kernel
theorem dX12_request_208 : decode cX12_request 208 = .ok (.lconst 1, 1) := by decide +kernel
theorem dX12_request_209 : decode cX12_request 209 = .ok (.iload 9, 2) := by decide +kernel
theorem dX12_request_211 : decode cX12_request 211 = .ok (.ifCond .eq 9, 3) := by decide +kernel
theorem dX12_request_214 : decode cX12_request 214 = .ok (.ldc2_w 410, 3) := by decide +kernel
theorem dX12_request_217 : decode cX12_request 217 = .ok (.goto 4, 3) := by decide +kernel
theorem dX12_request_220 : decode cX12_request 220 = .ok (.lconst 0, 1) := by decide +kernel
theorem dX12_request_221 : decode cX12_request 221 = .ok (.lor, 1) := by decide +kernel
theorem dX12_request_222 : decode cX12_request 222 = .ok (.aload_n 0, 1) := by decide +kernel
theorem dX12_request_223 : decode cX12_request 223 = .ok (.getfield 446, 3) := by decide +kernel
theorem dX12_request_226 : decode cX12_request 226 = .ok (.ifCond .eq 9, 3) := by decide +kernel
theorem dX12_request_229 : decode cX12_request 229 = .ok (.ldc2_w 465, 3) := by decide +kernel
theorem dX12_request_232 : decode cX12_request 232 = .ok (.goto 4, 3) := by decide +kernel
theorem dX12_request_235 : decode cX12_request 235 = .ok (.lconst 0, 1) := by decide +kernel
theorem dX12_request_236 : decode cX12_request 236 = .ok (.lor, 1) := by decide +kernel
theorem dX12_request_237 : decode cX12_request 237 = .ok (.lstore 18, 2) := by decide +kernel
theorem dX12_request_239 : decode cX12_request 239 = .ok (.aload_n 0, 1) := by decide +kernel
theorem dX12_request_240 : decode cX12_request 240 = .ok (.getfield 371, 3) := by decide +kernel
theorem dX12_request_243 : decode cX12_request 243 = .ok (.istore 20, 2) := by decide +kernel
theorem dX12_request_245 : decode cX12_request 245 = .ok (.aload_n 0, 1) := by decide +kernel
theorem dX12_request_246 : decode cX12_request 246 = .ok (.lload 11, 2) := by decide +kernel
theorem dX12_request_248 : decode cX12_request 248 = .ok (.iload 8, 2) := by decide +kernel
theorem dX12_request_250 : decode cX12_request 250 = .ok (.iload 4, 2) := by decide +kernel
theorem dX12_request_252 : decode cX12_request 252 = .ok (.iload 17, 2) := by decide +kernel
theorem dX12_request_254 : decode cX12_request 254 = .ok (.lload 18, 2) := by decide +kernel
theorem dX12_request_256 : decode cX12_request 256 = .ok (.lload_n 2, 1) := by decide +kernel
theorem dX12_request_257 : decode cX12_request 257 = .ok (.aload_n 0, 1) := by decide +kernel
theorem dX12_request_258 : decode cX12_request 258 = .ok (.getfield 446, 3) := by decide +kernel
theorem dX12_request_261 : decode cX12_request 261 = .ok (.ifCond .eq 10, 3) := by decide +kernel
theorem dX12_request_264 : decode cX12_request 264 = .ok (.aload_n 0, 1) := by decide +kernel
theorem dX12_request_265 : decode cX12_request 265 = .ok (.getfield 305, 3) := by decide +kernel
theorem dX12_request_268 : decode cX12_request 268 = .ok (.goto 11, 3) := by decide +kernel
theorem dX12_request_271 : decode cX12_request 271 = .ok (.lload 6, 2) := by decide +kernel
theorem dX12_request_273 : decode cX12_request 273 = .ok (.lload 15, 2) := by decide +kernel
theorem dX12_request_275 : decode cX12_request 275 = .ok (.bipush 32, 2) := by decide +kernel
theorem dX12_request_277 : decode cX12_request 277 = .ok (.lshl, 1) := by decide +kernel
theorem dX12_request_278 : decode cX12_request 278 = .ok (.lor, 1) := by decide +kernel
theorem dX12_request_279 : decode cX12_request 279 = .ok (.lload 13, 2) := by decide +kernel
theorem dX12_request_281 : decode cX12_request 281 = .ok (.invokevirtual 467, 3) := by decide +kernel
theorem dX12_request_284 : decode cX12_request 284 = .ok (.aload_n 0, 1) := by decide +kernel
theorem dX12_request_285 : decode cX12_request 285 = .ok (.iload 20, 2) := by decide +kernel
theorem dX12_request_287 : decode cX12_request 287 = .ok (.putfield 371, 3) := by decide +kernel
theorem dX12_request_290 : decode cX12_request 290 = .ok (.aload_n 0, 1) := by decide +kernel
theorem dX12_request_291 : decode cX12_request 291 = .ok (.lload 13, 2) := by decide +kernel
theorem dX12_request_293 : decode cX12_request 293 = .ok (.putfield 395, 3) := by decide +kernel
theorem dX12_request_296 : decode cX12_request 296 = .ok (.aload_n 0, 1) := by decide +kernel
theorem dX12_request_297 : decode cX12_request 297 = .ok (.lload 15, 2) := by decide +kernel
theorem dX12_request_299 : decode cX12_request 299 = .ok (.putfield 398, 3) := by decide +kernel
theorem dX12_request_302 : decode cX12_request 302 = .ok (.aload_n 0, 1) := by decide +kernel
theorem dX12_request_303 : decode cX12_request 303 = .ok (.iload 8, 2) := by decide +kernel
theorem dX12_request_305 : decode cX12_request 305 = .ok (.iconst 5, 1) := by decide +kernel
theorem dX12_request_306 : decode cX12_request 306 = .ok (.if_icmp .ne 20, 3) := by decide +kernel
theorem dX12_request_309 : decode cX12_request 309 = .ok (.aload_n 0, 1) := by decide +kernel
theorem dX12_request_310 : decode cX12_request 310 = .ok (.getfield 443, 3) := by decide +kernel
theorem dX12_request_313 : decode cX12_request 313 = .ok (.lconst 0, 1) := by decide +kernel
theorem dX12_request_314 : decode cX12_request 314 = .ok (.lcmp, 1) := by decide +kernel
theorem dX12_request_315 : decode cX12_request 315 = .ok (.ifCond .eq 7, 3) := by decide +kernel
theorem dX12_request_318 : decode cX12_request 318 = .ok (.iconst 1, 1) := by decide +kernel
theorem dX12_request_319 : decode cX12_request 319 = .ok (.goto 11, 3) := by decide +kernel
theorem dX12_request_322 : decode cX12_request 322 = .ok (.iconst 0, 1) := by decide +kernel
theorem dX12_request_323 : decode cX12_request 323 = .ok (.goto 7, 3) := by decide +kernel
theorem dX12_request_326 : decode cX12_request 326 = .ok (.aload_n 0, 1) := by decide +kernel
theorem dX12_request_327 : decode cX12_request 327 = .ok (.getfield 440, 3) := by decide +kernel
theorem dX12_request_330 : decode cX12_request 330 = .ok (.putfield 392, 3) := by decide +kernel
theorem dX12_request_333 : decode cX12_request 333 = .ok (.aload_n 0, 1) := by decide +kernel
theorem dX12_request_334 : decode cX12_request 334 = .ok (.iload 8, 2) := by decide +kernel
theorem dX12_request_336 : decode cX12_request 336 = .ok (.iconst 5, 1) := by decide +kernel
theorem dX12_request_337 : decode cX12_request 337 = .ok (.if_icmp .ne 10, 3) := by decide +kernel
theorem dX12_request_340 : decode cX12_request 340 = .ok (.aload_n 0, 1) := by decide +kernel
theorem dX12_request_341 : decode cX12_request 341 = .ok (.getfield 443, 3) := by decide +kernel
theorem dX12_request_344 : decode cX12_request 344 = .ok (.goto 7, 3) := by decide +kernel
theorem dX12_request_347 : decode cX12_request 347 = .ok (.aload_n 0, 1) := by decide +kernel
theorem dX12_request_348 : decode cX12_request 348 = .ok (.getfield 471, 3) := by decide +kernel
theorem dX12_request_351 : decode cX12_request 351 = .ok (.putfield 474, 3) := by decide +kernel
theorem dX12_request_354 : decode cX12_request 354 = .ok (.aload_n 0, 1) := by decide +kernel
theorem dX12_request_355 : decode cX12_request 355 = .ok (.iload 8, 2) := by decide +kernel
theorem dX12_request_357 : decode cX12_request 357 = .ok (.iconst 5, 1) := by decide +kernel
theorem dX12_request_358 : decode cX12_request 358 = .ok (.if_icmp .ne 10, 3) := by decide +kernel
theorem dX12_request_361 : decode cX12_request 361 = .ok (.aload_n 0, 1) := by decide +kernel
theorem dX12_request_362 : decode cX12_request 362 = .ok (.getfield 443, 3) := by decide +kernel
theorem dX12_request_365 : decode cX12_request 365 = .ok (.goto 7, 3) := by decide +kernel
theorem dX12_request_368 : decode cX12_request 368 = .ok (.aload_n 0, 1) := by decide +kernel
theorem dX12_request_369 : decode cX12_request 369 = .ok (.getfield 477, 3) := by decide +kernel
theorem dX12_request_372 : decode cX12_request 372 = .ok (.putfield 480, 3) := by decide +kernel
theorem dX12_request_375 : decode cX12_request 375 = .ok (.return_, 1) := by decide +kernel
set_option maxRecDepth 100000 in
set_option maxHeartbeats 4000000 in
theorem c_X12_request (l : Launch) (D : va_G) (t : Nat → ClassId) (h0 : Nat) (L : Nat → Nat) (σ : HS) (hM : MdI h0 L σ) (a1 : Int32) (a2 : Int64) (post : HS → Prop) (hw : F_X12_request h0 L a1 a2 post σ) (sz : Nat) : RMv l D t yX12_request cX12_request 21 ({ frames := 14, cells := 0, slots := 0, locals := 358 }) h0 L σ sz [.ref h0, .int a1, .long a2] post := by
  refine h_go (τ := τT) okT (by decide) (Nat.le_of_ble_eq_true rfl) ?_
  intro p e s m below meth c ls A hF hr hlk hAe hH0 hA hl
  unfold hB
  rw [hAe]
  clear hAe
  have hF : FX p m c cX12_request 21 s _ RX12 D t := hF
  have hx := hF.1.1
  have hb := hF.1.2.1
  have hH : RT D t A s.heap h0 L σ s.heap [] := ⟨hH0, hM⟩
  have hl : lv_has ls 21 [(0, .ref h0), (1, .int a1), (2, .long a2)] := hl
  unfold F_X12_request at hw
  refine lv_aload_n hx hb dX12_request_0 rfl (lv_at hl 0 rfl) ?_
  refine lv_bipush (v := 6) hx hb dX12_request_1 (by decide) ?_
  refine w_cVi (As := [.int 6]) (rest := []) hF hH hA mv_X12_415 (fun sz => c_X12_number2 l D t h0 L _ hH.2 6 _ hw sz) dX12_request_3 rfl rfl (by decide) rfl hl.1 (Nat.le_of_ble_eq_true rfl) (by decide) rfl (fun z2 σ1 H locs hw hH => ?_)
  refine lv_istore (lv' := [(4, .int z2), (0, .ref h0), (1, .int a1), (2, .long a2)]) hx hb dX12_request_6 hl (by decide) rfl (fun ls hl => ?_)
  refine lv_aload_n hx hb dX12_request_8 rfl (lv_at hl 1 rfl) ?_
  refine lv_bipush (v := 14) hx hb dX12_request_9 (by decide) ?_
  refine w_cVi (As := [.int 14]) (rest := []) hF hH hA mv_X12_415 (fun sz => c_X12_number2 l D t h0 L _ hH.2 14 _ hw sz) dX12_request_11 rfl rfl (by decide) rfl hl.1 (Nat.le_of_ble_eq_true rfl) (by decide) rfl (fun z4 σ3 H locs hw hH => ?_)
  refine lv_istore (lv' := [(5, .int z4), (4, .int z2), (0, .ref h0), (1, .int a1), (2, .long a2)]) hx hb dX12_request_14 hl (by decide) rfl (fun ls hl => ?_)
  refine lv_aload_n hx hb dX12_request_16 rfl (lv_at hl 2 rfl) ?_
  refine lv_aload_n hx hb dX12_request_17 rfl (lv_at hl 2 rfl) ?_
  refine w_getI hF hH fk_X12_412 dX12_request_18 hw (fun z5 hw => ?_)
  obtain ⟨K8, hK9, hw⟩ := jn_open hw
  refine w_join (K := K8) 39 (fun (x6 : Int64) => [(5, .int z4), (4, .int z2), (2, .long a2), (1, .int a1), (0, .ref h0)]) (fun (x6 : Int64) => [.long x6, .ref h0]) hl hH (fun x6 σ7 ls H locs hl hw hH => ?_) (fun jn10 => ?_)
  · have hw := hK9 x6 σ7 hw
    have hl : lv_has ls 21 [(5, .int z4), (4, .int z2), (2, .long a2), (1, .int a1), (0, .ref h0)] := hl
    refine w_putJ hF hH fk_X12_434 dX12_request_39 rfl rfl rfl hw (fun σ11 H locs hw hH => ?_)
    refine lv_aload_n hx hb dX12_request_42 rfl (lv_at hl 4 rfl) ?_
    refine lv_aload_n hx hb dX12_request_43 rfl (lv_at hl 4 rfl) ?_
    refine w_getI hF hH fk_X12_412 dX12_request_44 hw (fun z12 hw => ?_)
    obtain ⟨K15, hK16, hw⟩ := jn_open hw
    refine w_join (K := K15) 64 (fun (x13 : Int64) => [(5, .int z4), (4, .int z2), (2, .long a2), (1, .int a1), (0, .ref h0)]) (fun (x13 : Int64) => [.long x13, .ref h0]) hl hH (fun x13 σ14 ls H locs hl hw hH => ?_) (fun jn17 => ?_)
    · have hw := hK16 x13 σ14 hw
      have hl : lv_has ls 21 [(5, .int z4), (4, .int z2), (2, .long a2), (1, .int a1), (0, .ref h0)] := hl
      refine w_putJ hF hH fk_X12_437 dX12_request_64 rfl rfl rfl hw (fun σ18 H locs hw hH => ?_)
      refine lv_aload_n hx hb dX12_request_67 rfl (lv_at hl 4 rfl) ?_
      refine lv_bipush (v := 32) hx hb dX12_request_68 (by decide) ?_
      refine lv_iconst (v := 4) hx hb dX12_request_70 (by decide) ?_
      refine w_cVl (As := [.int 32, .int 4]) (rest := []) hF hH hA mv_X12_364 (fun sz => c_X12_number l D t h0 L _ hH.2 32 4 _ hw sz) dX12_request_71 rfl rfl (by decide) rfl hl.1 (Nat.le_of_ble_eq_true rfl) (by decide) rfl (fun z20 σ19 H locs hw hH => ?_)
      refine lv_lstore (lv' := [(6, .long z20), (5, .int z4), (4, .int z2), (2, .long a2), (1, .int a1), (0, .ref h0)]) hx hb dX12_request_74 hl (by decide) rfl (fun ls hl => ?_)
      refine lv_aload_n hx hb dX12_request_76 rfl (lv_at hl 5 rfl) ?_
      refine lv_iconst (v := 0) hx hb dX12_request_77 (by decide) ?_
      refine w_putZ hF hH fk_X12_440 dX12_request_78 rfl rfl hw (fun σ21 H locs hw hH => ?_)
      refine lv_aload_n hx hb dX12_request_81 rfl (lv_at hl 5 rfl) ?_
      refine lv_lconst (v := 0) hx hb dX12_request_82 (by decide) ?_
      refine w_putJ hF hH fk_X12_443 dX12_request_83 rfl rfl rfl hw (fun σ22 H locs hw hH => ?_)
      refine lv_aload_n hx hb dX12_request_86 rfl (lv_at hl 5 rfl) ?_
      refine lv_iconst (v := 0) hx hb dX12_request_87 (by decide) ?_
      refine w_putZ hF hH fk_X12_446 dX12_request_88 rfl rfl hw (fun σ23 H locs hw hH => ?_)
      refine lv_aload_n hx hb dX12_request_91 rfl (lv_at hl 5 rfl) ?_
      refine w_getI hF hH fk_X12_418 dX12_request_92 hw (fun z24 hw => ?_)
      refine lv_bipush (v := 12) hx hb dX12_request_95 (by decide) ?_
      refine w_icmp_ne (tgt := 128) hF dX12_request_97 rfl hw (fun hw => ?_) (fun hw => ?_)
      · refine lv_aload_n hx hb dX12_request_128 rfl (lv_at hl 5 rfl) ?_
        refine w_getI hF hH fk_X12_418 dX12_request_129 hw (fun z25 hw => ?_)
        refine lv_istore (lv' := [(8, .int z25), (6, .long z20), (5, .int z4), (4, .int z2), (2, .long a2), (1, .int a1), (0, .ref h0)]) hx hb dX12_request_132 hl (by decide) rfl (fun ls hl => ?_)
        refine lv_aload_n hx hb dX12_request_134 rfl (lv_at hl 6 rfl) ?_
        refine w_getI hF hH fk_X12_412 dX12_request_135 hw (fun z26 hw => ?_)
        refine lv_istore (lv' := [(9, .int z26), (8, .int z25), (6, .long z20), (5, .int z4), (4, .int z2), (2, .long a2), (1, .int a1), (0, .ref h0)]) hx hb dX12_request_138 hl (by decide) rfl (fun ls hl => ?_)
        refine lv_aload_n hx hb dX12_request_140 rfl (lv_at hl 7 rfl) ?_
        refine w_getI hF hH fk_X12_368 dX12_request_141 hw (fun z27 hw => ?_)
        refine lv_istore (lv' := [(10, .int z27), (9, .int z26), (8, .int z25), (6, .long z20), (5, .int z4), (4, .int z2), (2, .long a2), (1, .int a1), (0, .ref h0)]) hx hb dX12_request_144 hl (by decide) rfl (fun ls hl => ?_)
        refine lv_aload_n hx hb dX12_request_146 rfl (lv_at hl 8 rfl) ?_
        refine lv_bipush (v := 64) hx hb dX12_request_147 (by decide) ?_
        refine w_putI hF hH fk_X12_371 dX12_request_149 rfl rfl rfl hw (fun σ28 H locs hw hH => ?_)
        refine lv_aload_n hx hb dX12_request_152 rfl (lv_at hl 8 rfl) ?_
        refine w_cVl (As := []) (rest := []) hF hH hA mv_X12_452 (fun sz => c_X12_does l D t h0 L _ hH.2  _ hw sz) dX12_request_153 rfl rfl (by decide) rfl hl.1 (Nat.le_of_ble_eq_true rfl) (by decide) rfl (fun z30 σ29 H locs hw hH => ?_)
        refine lv_lstore (lv' := [(11, .long z30), (10, .int z27), (9, .int z26), (8, .int z25), (6, .long z20), (5, .int z4), (4, .int z2), (2, .long a2), (1, .int a1), (0, .ref h0)]) hx hb dX12_request_156 hl (by decide) rfl (fun ls hl => ?_)
        refine lv_aload_n hx hb dX12_request_158 rfl (lv_at hl 9 rfl) ?_
        refine w_getJ hF hH fk_X12_434 dX12_request_159 hw (fun z31 hw => ?_)
        refine lv_lstore (lv' := [(13, .long z31), (11, .long z30), (10, .int z27), (9, .int z26), (8, .int z25), (6, .long z20), (5, .int z4), (4, .int z2), (2, .long a2), (1, .int a1), (0, .ref h0)]) hx hb dX12_request_162 hl (by decide) rfl (fun ls hl => ?_)
        refine lv_aload_n hx hb dX12_request_164 rfl (lv_at hl 10 rfl) ?_
        refine w_getJ hF hH fk_X12_437 dX12_request_165 hw (fun z32 hw => ?_)
        refine lv_lstore (lv' := [(15, .long z32), (13, .long z31), (11, .long z30), (10, .int z27), (9, .int z26), (8, .int z25), (6, .long z20), (5, .int z4), (4, .int z2), (2, .long a2), (1, .int a1), (0, .ref h0)]) hx hb dX12_request_168 hl (by decide) rfl (fun ls hl => ?_)
        refine lv_aload_n hx hb dX12_request_170 rfl (lv_at hl 11 rfl) ?_
        refine lv_iload hx hb dX12_request_171 (lv_at hl 3 rfl) ?_
        refine w_putI hF hH fk_X12_368 dX12_request_173 rfl rfl rfl hw (fun σ33 H locs hw hH => ?_)
        refine lv_lload hx hb dX12_request_176 (lv_at hl 2 rfl) ?_
        refine lv_lconst (v := 0) hx hb dX12_request_178 (by decide) ?_
        obtain ⟨K36, hK37, hw⟩ := jn_open hw
        refine w_join (K := K36) 199 (fun (x34 : Unit) => [(15, .long z32), (13, .long z31), (11, .long z30), (9, .int z26), (8, .int z25), (6, .long z20), (5, .int z4), (4, .int z2), (2, .long a2), (1, .int a1), (0, .ref h0)]) (fun (x34 : Unit) => []) hl hH (fun x34 σ35 ls H locs hl hw hH => ?_) (fun jn38 => ?_)
        · have hw := hK37 x34 σ35 hw
          have hl : lv_has ls 21 [(15, .long z32), (13, .long z31), (11, .long z30), (9, .int z26), (8, .int z25), (6, .long z20), (5, .int z4), (4, .int z2), (2, .long a2), (1, .int a1), (0, .ref h0)] := hl
          refine lv_aload_n hx hb dX12_request_199 rfl (lv_at hl 10 rfl) ?_
          refine lv_iload_n hx hb dX12_request_200 rfl (lv_at hl 9 rfl) ?_
          refine lv_iload hx hb dX12_request_201 (lv_at hl 6 rfl) ?_
          refine w_cVi (As := [.int a1, .int z4]) (rest := []) hF hH hA mv_X12_461 (fun sz => c_X12_grant l D t h0 L _ hH.2 a1 z4 _ hw sz) dX12_request_203 rfl rfl (by decide) rfl hl.1 (Nat.le_of_ble_eq_true rfl) (by decide) rfl (fun z40 σ39 H locs hw hH => ?_)
          refine lv_istore (lv' := [(17, .int z40), (15, .long z32), (13, .long z31), (11, .long z30), (9, .int z26), (8, .int z25), (6, .long z20), (5, .int z4), (4, .int z2), (2, .long a2), (1, .int a1), (0, .ref h0)]) hx hb dX12_request_206 hl (by decide) rfl (fun ls hl => ?_)
          refine lv_lconst (v := 1) hx hb dX12_request_208 (by decide) ?_
          refine lv_iload hx hb dX12_request_209 (lv_at hl 4 rfl) ?_
          obtain ⟨K43, hK44, hw⟩ := jn_open hw
          refine w_join (K := K43) 221 (fun (x41 : Int64) => [(17, .int z40), (15, .long z32), (13, .long z31), (11, .long z30), (8, .int z25), (6, .long z20), (4, .int z2), (2, .long a2), (0, .ref h0)]) (fun (x41 : Int64) => [.long x41, .long 1]) hl hH (fun x41 σ42 ls H locs hl hw hH => ?_) (fun jn45 => ?_)
          · have hw := hK44 x41 σ42 hw
            have hl : lv_has ls 21 [(17, .int z40), (15, .long z32), (13, .long z31), (11, .long z30), (8, .int z25), (6, .long z20), (4, .int z2), (2, .long a2), (0, .ref h0)] := hl
            refine lv_lor hx hb dX12_request_221 ?_
            refine w_nml hw (fun z46 hw => ?_)
            refine lv_aload_n hx hb dX12_request_222 rfl (lv_at hl 8 rfl) ?_
            refine w_getI hF hH fk_X12_446 dX12_request_223 hw (fun z47 hw => ?_)
            obtain ⟨K50, hK51, hw⟩ := jn_open hw
            refine w_join (K := K50) 236 (fun (x48 : Int64) => [(17, .int z40), (15, .long z32), (13, .long z31), (11, .long z30), (8, .int z25), (6, .long z20), (4, .int z2), (2, .long a2), (0, .ref h0)]) (fun (x48 : Int64) => [.long x48, .long z46]) hl hH (fun x48 σ49 ls H locs hl hw hH => ?_) (fun jn52 => ?_)
            · have hw := hK51 x48 σ49 hw
              have hl : lv_has ls 21 [(17, .int z40), (15, .long z32), (13, .long z31), (11, .long z30), (8, .int z25), (6, .long z20), (4, .int z2), (2, .long a2), (0, .ref h0)] := hl
              refine lv_lor hx hb dX12_request_236 ?_
              refine w_nml hw (fun z53 hw => ?_)
              refine lv_lstore (lv' := [(18, .long z53), (17, .int z40), (15, .long z32), (13, .long z31), (11, .long z30), (8, .int z25), (6, .long z20), (4, .int z2), (2, .long a2), (0, .ref h0)]) hx hb dX12_request_237 hl (by decide) rfl (fun ls hl => ?_)
              refine lv_aload_n hx hb dX12_request_239 rfl (lv_at hl 9 rfl) ?_
              refine w_getI hF hH fk_X12_371 dX12_request_240 hw (fun z54 hw => ?_)
              refine lv_istore (lv' := [(20, .int z54), (18, .long z53), (17, .int z40), (15, .long z32), (13, .long z31), (11, .long z30), (8, .int z25), (6, .long z20), (4, .int z2), (2, .long a2), (0, .ref h0)]) hx hb dX12_request_243 hl (by decide) rfl (fun ls hl => ?_)
              refine lv_aload_n hx hb dX12_request_245 rfl (lv_at hl 10 rfl) ?_
              refine lv_lload hx hb dX12_request_246 (lv_at hl 5 rfl) ?_
              refine lv_iload hx hb dX12_request_248 (lv_at hl 6 rfl) ?_
              refine lv_iload hx hb dX12_request_250 (lv_at hl 8 rfl) ?_
              refine lv_iload hx hb dX12_request_252 (lv_at hl 2 rfl) ?_
              refine lv_lload hx hb dX12_request_254 (lv_at hl 1 rfl) ?_
              refine lv_lload_n hx hb dX12_request_256 rfl (lv_at hl 9 rfl) ?_
              refine lv_aload_n hx hb dX12_request_257 rfl (lv_at hl 10 rfl) ?_
              refine w_getI hF hH fk_X12_446 dX12_request_258 hw (fun z55 hw => ?_)
              obtain ⟨K58, hK59, hw⟩ := jn_open hw
              refine w_join (K := K58) 279 (fun (x56 : Int64) => [(20, .int z54), (15, .long z32), (13, .long z31), (8, .int z25), (0, .ref h0)]) (fun (x56 : Int64) => [.long x56, .long a2, .long z53, .int z40, .int z2, .int z25, .long z30, .ref h0]) hl hH (fun x56 σ57 ls H locs hl hw hH => ?_) (fun jn60 => ?_)
              · have hw := hK59 x56 σ57 hw
                have hl : lv_has ls 21 [(20, .int z54), (15, .long z32), (13, .long z31), (8, .int z25), (0, .ref h0)] := hl
                refine lv_lload hx hb dX12_request_279 (lv_at hl 2 rfl) ?_
                refine w_cVv (As := [.long z30, .int z25, .int z2, .int z40, .long z53, .long a2, .long x56, .long z31]) (rest := []) hF hH hA mv_X12_467 (fun sz => c_X12_header l D t h0 L _ hH.2 z30 z25 z2 z40 z53 a2 x56 z31 _ hw sz) dX12_request_281 rfl rfl (by decide) rfl hl.1 (Nat.le_of_ble_eq_true rfl) (by decide) rfl (fun σ61 H locs hw hH => ?_)
                refine lv_aload_n hx hb dX12_request_284 rfl (lv_at hl 4 rfl) ?_
                refine lv_iload hx hb dX12_request_285 (lv_at hl 0 rfl) ?_
                refine w_putI hF hH fk_X12_371 dX12_request_287 rfl rfl rfl hw (fun σ63 H locs hw hH => ?_)
                refine lv_aload_n hx hb dX12_request_290 rfl (lv_at hl 4 rfl) ?_
                refine lv_lload hx hb dX12_request_291 (lv_at hl 2 rfl) ?_
                refine w_putJ hF hH fk_X12_395 dX12_request_293 rfl rfl rfl hw (fun σ64 H locs hw hH => ?_)
                refine lv_aload_n hx hb dX12_request_296 rfl (lv_at hl 4 rfl) ?_
                refine lv_lload hx hb dX12_request_297 (lv_at hl 1 rfl) ?_
                refine w_putJ hF hH fk_X12_398 dX12_request_299 rfl rfl rfl hw (fun σ65 H locs hw hH => ?_)
                refine lv_aload_n hx hb dX12_request_302 rfl (lv_at hl 4 rfl) ?_
                refine lv_iload hx hb dX12_request_303 (lv_at hl 3 rfl) ?_
                refine lv_iconst (v := 5) hx hb dX12_request_305 (by decide) ?_
                obtain ⟨K68, hK69, hw⟩ := jn_open hw
                refine w_join (K := K68) 330 (fun (x66 : Int32) => [(8, .int z25), (0, .ref h0)]) (fun (x66 : Int32) => [.int x66, .ref h0]) hl hH (fun x66 σ67 ls H locs hl hw hH => ?_) (fun jn70 => ?_)
                · have hw := hK69 x66 σ67 hw
                  have hl : lv_has ls 21 [(8, .int z25), (0, .ref h0)] := hl
                  refine w_putZ hF hH fk_X12_392 dX12_request_330 rfl rfl hw (fun σ71 H locs hw hH => ?_)
                  refine lv_aload_n hx hb dX12_request_333 rfl (lv_at hl 1 rfl) ?_
                  refine lv_iload hx hb dX12_request_334 (lv_at hl 0 rfl) ?_
                  refine lv_iconst (v := 5) hx hb dX12_request_336 (by decide) ?_
                  obtain ⟨K74, hK75, hw⟩ := jn_open hw
                  refine w_join (K := K74) 351 (fun (x72 : Int64) => [(8, .int z25), (0, .ref h0)]) (fun (x72 : Int64) => [.long x72, .ref h0]) hl hH (fun x72 σ73 ls H locs hl hw hH => ?_) (fun jn76 => ?_)
                  · have hw := hK75 x72 σ73 hw
                    have hl : lv_has ls 21 [(8, .int z25), (0, .ref h0)] := hl
                    refine w_putJ hF hH fk_X12_474 dX12_request_351 rfl rfl rfl hw (fun σ77 H locs hw hH => ?_)
                    refine lv_aload_n hx hb dX12_request_354 rfl (lv_at hl 1 rfl) ?_
                    refine lv_iload hx hb dX12_request_355 (lv_at hl 0 rfl) ?_
                    refine lv_iconst (v := 5) hx hb dX12_request_357 (by decide) ?_
                    obtain ⟨K80, hK81, hw⟩ := jn_open hw
                    refine w_join (K := K80) 372 (fun (x78 : Int64) => []) (fun (x78 : Int64) => [.long x78, .ref h0]) hl hH (fun x78 σ79 ls H locs hl hw hH => ?_) (fun jn82 => ?_)
                    · have hw := hK81 x78 σ79 hw
                      have hl : lv_has ls 21 [] := hl
                      refine w_putJ hF hH fk_X12_480 dX12_request_372 rfl rfl rfl hw (fun σ83 H locs hw hH => ?_)
                      exact w_retv hF hH hr hlk dX12_request_375 hw
                    · skip
                      refine w_icmp_ne (tgt := 368) hF dX12_request_358 rfl hw (fun hw => ?_) (fun hw => ?_)
                      · refine lv_aload_n hx hb dX12_request_368 rfl (lv_at hl 1 rfl) ?_
                        refine w_getJ hF hH fk_X12_477 dX12_request_369 hw (fun z84 hw => ?_)
                        have hl : lv_has ls 21 [] := lv_sub hl [] rfl
                        exact jn82 z84 σ77 ls _ _ hl hw hH
                      · refine lv_aload_n hx hb dX12_request_361 rfl (lv_at hl 1 rfl) ?_
                        refine w_getJ hF hH fk_X12_443 dX12_request_362 hw (fun z85 hw => ?_)
                        refine lv_goto (tgt := 372) hx hb dX12_request_365 rfl ?_
                        have hl : lv_has ls 21 [] := lv_sub hl [] rfl
                        exact jn82 z85 σ77 ls _ _ hl hw hH
                  · skip
                    refine w_icmp_ne (tgt := 347) hF dX12_request_337 rfl hw (fun hw => ?_) (fun hw => ?_)
                    · refine lv_aload_n hx hb dX12_request_347 rfl (lv_at hl 1 rfl) ?_
                      refine w_getJ hF hH fk_X12_471 dX12_request_348 hw (fun z86 hw => ?_)
                      exact jn76 z86 σ71 ls _ _ hl hw hH
                    · refine lv_aload_n hx hb dX12_request_340 rfl (lv_at hl 1 rfl) ?_
                      refine w_getJ hF hH fk_X12_443 dX12_request_341 hw (fun z87 hw => ?_)
                      refine lv_goto (tgt := 351) hx hb dX12_request_344 rfl ?_
                      exact jn76 z87 σ71 ls _ _ hl hw hH
                · skip
                  refine w_icmp_ne (tgt := 326) hF dX12_request_306 rfl hw (fun hw => ?_) (fun hw => ?_)
                  · refine lv_aload_n hx hb dX12_request_326 rfl (lv_at hl 4 rfl) ?_
                    refine w_getI hF hH fk_X12_440 dX12_request_327 hw (fun z88 hw => ?_)
                    have hl : lv_has ls 21 [(8, .int z25), (0, .ref h0)] := lv_sub hl [3, 4] rfl
                    exact jn70 z88 σ65 ls _ _ hl hw hH
                  · refine lv_aload_n hx hb dX12_request_309 rfl (lv_at hl 4 rfl) ?_
                    refine w_getJ hF hH fk_X12_443 dX12_request_310 hw (fun z89 hw => ?_)
                    refine lv_lconst (v := 0) hx hb dX12_request_313 (by decide) ?_
                    refine w_lif_eq (tgt := 322) hF dX12_request_314 dX12_request_315 rfl hw (fun hw => ?_) (fun hw => ?_)
                    · refine lv_iconst (v := 0) hx hb dX12_request_322 (by decide) ?_
                      refine lv_goto (tgt := 330) hx hb dX12_request_323 rfl ?_
                      have hl : lv_has ls 21 [(8, .int z25), (0, .ref h0)] := lv_sub hl [3, 4] rfl
                      exact jn70 0 σ65 ls _ _ hl hw hH
                    · refine lv_iconst (v := 1) hx hb dX12_request_318 (by decide) ?_
                      refine lv_goto (tgt := 330) hx hb dX12_request_319 rfl ?_
                      have hl : lv_has ls 21 [(8, .int z25), (0, .ref h0)] := lv_sub hl [3, 4] rfl
                      exact jn70 1 σ65 ls _ _ hl hw hH
              · skip
                refine w_if_eq (tgt := 271) hF dX12_request_261 rfl hw (fun hw => ?_) (fun hw => ?_)
                · refine lv_lload hx hb dX12_request_271 (lv_at hl 7 rfl) ?_
                  refine lv_lload hx hb dX12_request_273 (lv_at hl 3 rfl) ?_
                  refine lv_bipush (v := 32) hx hb dX12_request_275 (by decide) ?_
                  refine lv_lshl hx hb dX12_request_277 rfl ?_
                  refine w_nml hw (fun z90 hw => ?_)
                  refine lv_lor hx hb dX12_request_278 ?_
                  refine w_nml hw (fun z91 hw => ?_)
                  have hl : lv_has ls 21 [(20, .int z54), (15, .long z32), (13, .long z31), (8, .int z25), (0, .ref h0)] := lv_sub hl [0, 3, 4, 6, 10] rfl
                  exact jn60 z91 σ49 ls _ _ hl hw hH
                · refine lv_aload_n hx hb dX12_request_264 rfl (lv_at hl 10 rfl) ?_
                  refine w_getJ hF hH fk_X12_305 dX12_request_265 hw (fun z92 hw => ?_)
                  refine lv_goto (tgt := 279) hx hb dX12_request_268 rfl ?_
                  have hl : lv_has ls 21 [(20, .int z54), (15, .long z32), (13, .long z31), (8, .int z25), (0, .ref h0)] := lv_sub hl [0, 3, 4, 6, 10] rfl
                  exact jn60 z92 σ49 ls _ _ hl hw hH
            · skip
              refine w_if_eq (tgt := 235) hF dX12_request_226 rfl hw (fun hw => ?_) (fun hw => ?_)
              · refine lv_lconst (v := 0) hx hb dX12_request_235 (by decide) ?_
                exact jn52 0 σ42 ls _ _ hl hw hH
              · refine lv_ldc2 (v := 2) hx hb hF.1.2.2.2.1 (hF.1.2.2.2.2 _ (wc_51 22 rfl)) dX12_request_229 ?_
                refine lv_goto (tgt := 236) hx hb dX12_request_232 rfl ?_
                exact jn52 2 σ42 ls _ _ hl hw hH
          · skip
            refine w_if_eq (tgt := 220) hF dX12_request_211 rfl hw (fun hw => ?_) (fun hw => ?_)
            · refine lv_lconst (v := 0) hx hb dX12_request_220 (by decide) ?_
              have hl : lv_has ls 21 [(17, .int z40), (15, .long z32), (13, .long z31), (11, .long z30), (8, .int z25), (6, .long z20), (4, .int z2), (2, .long a2), (0, .ref h0)] := lv_sub hl [0, 1, 2, 3, 5, 6, 8, 9, 11] rfl
              exact jn45 0 σ39 ls _ _ hl hw hH
            · refine lv_ldc2 (v := 4) hx hb hF.1.2.2.2.1 (hF.1.2.2.2.2 _ (wc_47 22 rfl)) dX12_request_214 ?_
              refine lv_goto (tgt := 221) hx hb dX12_request_217 rfl ?_
              have hl : lv_has ls 21 [(17, .int z40), (15, .long z32), (13, .long z31), (11, .long z30), (8, .int z25), (6, .long z20), (4, .int z2), (2, .long a2), (0, .ref h0)] := lv_sub hl [0, 1, 2, 3, 5, 6, 8, 9, 11] rfl
              exact jn45 4 σ39 ls _ _ hl hw hH
        · skip
          refine w_lif_eq (tgt := 199) hF dX12_request_179 dX12_request_180 rfl hw (fun hw => ?_) (fun hw => ?_)
          · have hl : lv_has ls 21 [(15, .long z32), (13, .long z31), (11, .long z30), (9, .int z26), (8, .int z25), (6, .long z20), (5, .int z4), (4, .int z2), (2, .long a2), (1, .int a1), (0, .ref h0)] := lv_sub hl [0, 1, 2, 4, 5, 6, 7, 8, 9, 10, 11] rfl
            exact jn38 () σ33 ls _ _ hl hw hH
          · refine lv_aload_n hx hb dX12_request_183 rfl (lv_at hl 11 rfl) ?_
            refine lv_bipush (v := 9) hx hb dX12_request_184 (by decide) ?_
            refine w_cVv (As := [.int 9]) (rest := []) hF hH hA mv_X12_456 (fun sz => c_X12_body l D t h0 L _ hH.2 9 _ hw sz) dX12_request_186 rfl rfl (by decide) rfl hl.1 (Nat.le_of_ble_eq_true rfl) (by decide) rfl (fun σ93 H locs hw hH => ?_)
            refine lv_aload_n hx hb dX12_request_189 rfl (lv_at hl 11 rfl) ?_
            refine lv_bipush (v := 64) hx hb dX12_request_190 (by decide) ?_
            refine lv_iconst (v := 2) hx hb dX12_request_192 (by decide) ?_
            refine lv_ldc2 (v := 9) hx hb hF.1.2.2.2.1 (hF.1.2.2.2.2 _ (wc_47 29 rfl)) dX12_request_193 ?_
            refine w_cVv (As := [.int 64, .int 2, .long 9]) (rest := []) hF hH hA mv_X12_376 (fun sz => c_X12_set l D t h0 L _ hH.2 64 2 9 _ hw sz) dX12_request_196 rfl rfl (by decide) rfl hl.1 (Nat.le_of_ble_eq_true rfl) (by decide) rfl (fun σ95 H locs hw hH => ?_)
            have hl : lv_has ls 21 [(15, .long z32), (13, .long z31), (11, .long z30), (9, .int z26), (8, .int z25), (6, .long z20), (5, .int z4), (4, .int z2), (2, .long a2), (1, .int a1), (0, .ref h0)] := lv_sub hl [0, 1, 2, 4, 5, 6, 7, 8, 9, 10, 11] rfl
            exact jn38 () σ95 ls _ _ hl hw hH
      · refine lv_aload_n hx hb dX12_request_100 rfl (lv_at hl 5 rfl) ?_
        refine lv_iload_n hx hb dX12_request_101 rfl (lv_at hl 4 rfl) ?_
        refine lv_lload_n hx hb dX12_request_102 rfl (lv_at hl 3 rfl) ?_
        refine w_cVv (As := [.int a1, .long a2]) (rest := []) hF hH hA mv_X12_449 (fun sz => c_X12_cancel l D t h0 L _ hH.2 a1 a2 _ hw sz) dX12_request_103 rfl rfl (by decide) rfl hl.1 (Nat.le_of_ble_eq_true rfl) (by decide) rfl (fun σ97 H locs hw hH => ?_)
        refine lv_aload_n hx hb dX12_request_106 rfl (lv_at hl 5 rfl) ?_
        refine lv_aload_n hx hb dX12_request_107 rfl (lv_at hl 5 rfl) ?_
        refine w_getJ hF hH fk_X12_434 dX12_request_108 hw (fun z99 hw => ?_)
        refine w_putJ hF hH fk_X12_395 dX12_request_111 rfl rfl rfl hw (fun σ100 H locs hw hH => ?_)
        refine lv_aload_n hx hb dX12_request_114 rfl (lv_at hl 5 rfl) ?_
        refine lv_aload_n hx hb dX12_request_115 rfl (lv_at hl 5 rfl) ?_
        refine w_getJ hF hH fk_X12_437 dX12_request_116 hw (fun z101 hw => ?_)
        refine w_putJ hF hH fk_X12_398 dX12_request_119 rfl rfl rfl hw (fun σ102 H locs hw hH => ?_)
        refine lv_aload_n hx hb dX12_request_122 rfl (lv_at hl 5 rfl) ?_
        refine lv_iconst (v := 0) hx hb dX12_request_123 (by decide) ?_
        refine w_putZ hF hH fk_X12_392 dX12_request_124 rfl rfl hw (fun σ103 H locs hw hH => ?_)
        exact w_retv hF hH hr hlk dX12_request_127 hw
    · skip
      refine w_if_eq (tgt := 57) hF dX12_request_47 rfl hw (fun hw => ?_) (fun hw => ?_)
      · refine lv_aload_n hx hb dX12_request_57 rfl (lv_at hl 4 rfl) ?_
        refine lv_bipush (v := 36) hx hb dX12_request_58 (by decide) ?_
        refine lv_iconst (v := 4) hx hb dX12_request_60 (by decide) ?_
        refine w_cVl (As := [.int 36, .int 4]) (rest := [.ref h0]) hF hH hA mv_X12_364 (fun sz => c_X12_number l D t h0 L _ hH.2 36 4 _ hw sz) dX12_request_61 rfl rfl (by decide) rfl hl.1 (Nat.le_of_ble_eq_true rfl) (by decide) rfl (fun z105 σ104 H locs hw hH => ?_)
        exact jn17 z105 σ104 ls _ _ hl hw hH
      · refine lv_aload_n hx hb dX12_request_50 rfl (lv_at hl 4 rfl) ?_
        refine w_getJ hF hH fk_X12_398 dX12_request_51 hw (fun z106 hw => ?_)
        refine lv_goto (tgt := 64) hx hb dX12_request_54 rfl ?_
        exact jn17 z106 σ11 ls _ _ hl hw hH
  · skip
    refine w_if_eq (tgt := 31) hF dX12_request_21 rfl hw (fun hw => ?_) (fun hw => ?_)
    · refine lv_aload_n hx hb dX12_request_31 rfl (lv_at hl 2 rfl) ?_
      refine lv_bipush (v := 40) hx hb dX12_request_32 (by decide) ?_
      refine lv_bipush (v := 8) hx hb dX12_request_34 (by decide) ?_
      refine w_cVl (As := [.int 40, .int 8]) (rest := [.ref h0]) hF hH hA mv_X12_364 (fun sz => c_X12_number l D t h0 L _ hH.2 40 8 _ hw sz) dX12_request_36 rfl rfl (by decide) rfl hl.1 (Nat.le_of_ble_eq_true rfl) (by decide) rfl (fun z108 σ107 H locs hw hH => ?_)
      have hl : lv_has ls 21 [(5, .int z4), (4, .int z2), (2, .long a2), (1, .int a1), (0, .ref h0)] := lv_sub hl [0, 1, 4, 3, 2] rfl
      exact jn10 z108 σ107 ls _ _ hl hw hH
    · refine lv_aload_n hx hb dX12_request_24 rfl (lv_at hl 2 rfl) ?_
      refine w_getJ hF hH fk_X12_395 dX12_request_25 hw (fun z109 hw => ?_)
      refine lv_goto (tgt := 39) hx hb dX12_request_28 rfl ?_
      have hl : lv_has ls 21 [(5, .int z4), (4, .int z2), (2, .long a2), (1, .int a1), (0, .ref h0)] := lv_sub hl [0, 1, 4, 3, 2] rfl
      exact jn10 z109 σ3 ls _ _ hl hw hH

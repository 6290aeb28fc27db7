/-! the reference, lifted: 6 -/
def F_X12_again (h0 : Nat) (L : Nat → Nat) (a1 : Int32) (post : Int32 → HS → Prop) (σ : HS) : Prop := ∀ z1 : Option Nat, z1 = sP σ h0 85 → ∀ z2 : Int32, z2 = sI σ h0 86 → ∀ z3 : Int32, z3 = sI σ h0 87 → ∀ z4 : Int32, z4 = sI σ h0 88 → ∀ z5 : Int32, z5 = sI σ h0 93 → ∀ z6 : Int32, z6 = sI σ h0 94 → ∀ z7 : Int32, z7 = sI σ h0 95 → ∀ z8 : Int32, z8 = sI σ h0 98 → ∀ z9 : Int32, z9 = sI σ h0 99 → ∀ z10 : Int32, z10 = sI σ h0 100 → ∀ z11 : Int64, z11 = sJ σ h0 111 → ∀ z12 : Int32, z12 = sI σ h0 109 → ∀ z13 : Int32, z13 = sI σ h0 90 → ∀ z14 : Int32, z14 = sI σ h0 91 → ∀ σ15 : HS, σ15 = h_uP σ h0 85 (some (L 75)) → ∀ z16 : Int32, z16 = 4000 * a1 → ∀ σ17 : HS, σ17 = h_uI σ15 h0 86 z16 → (0 ≤ a1.toInt ∧ a1.toInt < 16) ∧ ∀ z18 : Int32, z18 = sI σ17 (L 74) a1.toInt.toNat → ∀ σ19 : HS, σ19 = h_uI σ17 h0 87 z18 → (0 ≤ a1.toInt ∧ a1.toInt < 16) ∧ ∀ z20 : Int32, z20 = sI σ19 (L 61) a1.toInt.toNat → ∀ σ21 : HS, σ21 = h_uI σ19 h0 88 z20 → ∀ σ22 : HS, σ22 = h_uI σ21 h0 93 5 → (0 ≤ a1.toInt ∧ a1.toInt < 16) ∧ ∀ z23 : Int32, z23 = sI σ22 (L 64) a1.toInt.toNat → (0 ≤ z23.toInt ∧ z23.toInt ≤ 1) ∧ ∀ σ24 : HS, σ24 = h_uI σ22 h0 94 z23 → (0 ≤ (1 : Int32).toInt ∧ (1 : Int32).toInt ≤ 1) ∧ ∀ σ25 : HS, σ25 = h_uI σ24 h0 95 1 → (0 ≤ a1.toInt ∧ a1.toInt < 16) ∧ ∀ z26 : Int32, z26 = sI σ25 (L 67) a1.toInt.toNat → ∀ σ27 : HS, σ27 = h_uI σ25 h0 98 z26 → (0 ≤ a1.toInt ∧ a1.toInt < 16) ∧ ∀ z28 : Int32, z28 = sI σ27 (L 68) a1.toInt.toNat → ∀ σ29 : HS, σ29 = h_uI σ27 h0 99 z28 → ∀ σ30 : HS, σ30 = h_uI σ29 h0 90 85000 → F_X12_create h0 L a1 (fun (z32 : Int64) (σ31 : HS) => jn (fun (K35 : Int32 → HS → Prop) => ((z32.toInt = (259 : Int64).toInt) → K35 0 σ31) ∧ ((¬ z32.toInt = (259 : Int64).toInt) → K35 1 σ31)) (fun (x33 : Int32) (σ34 : HS) => jn (fun (K40 : Unit → HS → Prop) => ((x33.toInt = 0) → K40 () σ34) ∧ ((¬ x33.toInt = 0) → F_X12_late h0 L a1 z32 (fun (σ57 : HS) => F_X12_forget h0 L a1 (fun (σ59 : HS) => K40 () σ59) σ57) σ34)) (fun (x38 : Unit) (σ39 : HS) => ∀ σ43 : HS, σ43 = h_uP σ39 h0 85 z1 → ∀ σ44 : HS, σ44 = h_uI σ43 h0 86 z2 → ∀ σ45 : HS, σ45 = h_uI σ44 h0 87 z3 → ∀ σ46 : HS, σ46 = h_uI σ45 h0 88 z4 → ∀ σ47 : HS, σ47 = h_uI σ46 h0 93 z5 → (0 ≤ z6.toInt ∧ z6.toInt ≤ 1) ∧ ∀ σ48 : HS, σ48 = h_uI σ47 h0 94 z6 → (0 ≤ z7.toInt ∧ z7.toInt ≤ 1) ∧ ∀ σ49 : HS, σ49 = h_uI σ48 h0 95 z7 → ∀ σ50 : HS, σ50 = h_uI σ49 h0 98 z8 → ∀ σ51 : HS, σ51 = h_uI σ50 h0 99 z9 → ∀ σ52 : HS, σ52 = h_uI σ51 h0 100 z10 → ∀ σ53 : HS, σ53 = h_uJ σ52 h0 111 z11 → (0 ≤ z12.toInt ∧ z12.toInt ≤ 1) ∧ ∀ σ54 : HS, σ54 = h_uI σ53 h0 109 z12 → ∀ σ55 : HS, σ55 = h_uI σ54 h0 90 z13 → ∀ σ56 : HS, σ56 = h_uI σ55 h0 91 z14 → (0 ≤ x33.toInt ∧ x33.toInt ≤ 1) ∧ post x33 σ56))) σ30
theorem dX12_again_0 : decode cX12_again 0 = .ok (.aload_n 0, 1) := by decide +kernel
theorem dX12_again_1 : decode cX12_again 1 = .ok (.getfield 356, 3) := by decide +kernel
theorem dX12_again_4 : decode cX12_again 4 = .ok (.astore_n 2, 1) := by decide +kernel
theorem dX12_again_5 : decode cX12_again 5 = .ok (.aload_n 0, 1) := by decide +kernel
theorem dX12_again_6 : decode cX12_again 6 = .ok (.getfield 359, 3) := by decide +kernel
theorem dX12_again_9 : decode cX12_again 9 = .ok (.istore_n 3, 1) := by decide +kernel
theorem dX12_again_10 : decode cX12_again 10 = .ok (.aload_n 0, 1) := by decide +kernel
theorem dX12_again_11 : decode cX12_again 11 = .ok (.getfield 404, 3) := by decide +kernel
theorem dX12_again_14 : decode cX12_again 14 = .ok (.istore 4, 2) := by decide +kernel
theorem dX12_again_16 : decode cX12_again 16 = .ok (.aload_n 0, 1) := by decide +kernel
theorem dX12_again_17 : decode cX12_again 17 = .ok (.getfield 382, 3) := by decide +kernel
theorem dX12_again_20 : decode cX12_again 20 = .ok (.istore 5, 2) := by decide +kernel
theorem dX12_again_22 : decode cX12_again 22 = .ok (.aload_n 0, 1) := by decide +kernel
theorem dX12_again_23 : decode cX12_again 23 = .ok (.getfield 418, 3) := by decide +kernel
theorem dX12_again_26 : decode cX12_again 26 = .ok (.istore 6, 2) := by decide +kernel
theorem dX12_again_28 : decode cX12_again 28 = .ok (.aload_n 0, 1) := by decide +kernel
theorem dX12_again_29 : decode cX12_again 29 = .ok (.getfield 412, 3) := by decide +kernel
theorem dX12_again_32 : decode cX12_again 32 = .ok (.istore 7, 2) := by decide +kernel
theorem dX12_again_34 : decode cX12_again 34 = .ok (.aload_n 0, 1) := by decide +kernel
theorem dX12_again_35 : decode cX12_again 35 = .ok (.getfield 407, 3) := by decide +kernel
theorem dX12_again_38 : decode cX12_again 38 = .ok (.istore 8, 2) := by decide +kernel
theorem dX12_again_40 : decode cX12_again 40 = .ok (.aload_n 0, 1) := by decide +kernel
theorem dX12_again_41 : decode cX12_again 41 = .ok (.getfield 492, 3) := by decide +kernel
theorem dX12_again_44 : decode cX12_again 44 = .ok (.istore 9, 2) := by decide +kernel
theorem dX12_again_46 : decode cX12_again 46 = .ok (.aload_n 0, 1) := by decide +kernel
theorem dX12_again_47 : decode cX12_again 47 = .ok (.getfield 498, 3) := by decide +kernel
theorem dX12_again_50 : decode cX12_again 50 = .ok (.istore 10, 2) := by decide +kernel
theorem dX12_again_52 : decode cX12_again 52 = .ok (.aload_n 0, 1) := by decide +kernel
theorem dX12_again_53 : decode cX12_again 53 = .ok (.getfield 525, 3) := by decide +kernel
theorem dX12_again_56 : decode cX12_again 56 = .ok (.istore 11, 2) := by decide +kernel
theorem dX12_again_58 : decode cX12_again 58 = .ok (.aload_n 0, 1) := by decide +kernel
theorem dX12_again_59 : decode cX12_again 59 = .ok (.getfield 443, 3) := by decide +kernel
theorem dX12_again_62 : decode cX12_again 62 = .ok (.lstore 12, 2) := by decide +kernel
theorem dX12_again_64 : decode cX12_again 64 = .ok (.aload_n 0, 1) := by decide +kernel
theorem dX12_again_65 : decode cX12_again 65 = .ok (.getfield 446, 3) := by decide +kernel
theorem dX12_again_68 : decode cX12_again 68 = .ok (.istore 14, 2) := by decide +kernel
theorem dX12_again_70 : decode cX12_again 70 = .ok (.aload_n 0, 1) := by decide +kernel
theorem dX12_again_71 : decode cX12_again 71 = .ok (.getfield 368, 3) := by decide +kernel
theorem dX12_again_74 : decode cX12_again 74 = .ok (.istore 15, 2) := by decide +kernel
theorem dX12_again_76 : decode cX12_again 76 = .ok (.aload_n 0, 1) := by decide +kernel
theorem dX12_again_77 : decode cX12_again 77 = .ok (.getfield 371, 3) := by decide +kernel
theorem dX12_again_80 : decode cX12_again 80 = .ok (.istore 16, 2) := by decide +kernel
theorem dX12_again_82 : decode cX12_again 82 = .ok (.aload_n 0, 1) := by decide +kernel
theorem dX12_again_83 : decode cX12_again 83 = .ok (.aload_n 0, 1) := by decide +kernel
theorem dX12_again_84 : decode cX12_again 84 = .ok (.getfield 242, 3) := by decide +kernel
theorem dX12_again_87 : decode cX12_again 87 = .ok (.putfield 356, 3) := by decide +kernel
theorem dX12_again_90 : decode cX12_again 90 = .ok (.aload_n 0, 1) := by decide +kernel
theorem dX12_again_91 : decode cX12_again 91 = .ok (.sipush 4000, 3) := by decide +kernel
theorem dX12_again_94 : decode cX12_again 94 = .ok (.iload_n 1, 1) := by decide +kernel
theorem dX12_again_95 : decode cX12_again 95 = .ok (.imul, 1) := by decide +kernel
theorem dX12_again_96 : decode cX12_again 96 = .ok (.putfield 359, 3) := by decide +kernel
theorem dX12_again_99 : decode cX12_again 99 = .ok (.aload_n 0, 1) := by decide +kernel
theorem dX12_again_100 : decode cX12_again 100 = .ok (.aload_n 0, 1) := by decide +kernel
theorem dX12_again_101 : decode cX12_again 101 = .ok (.getfield 238, 3) := by decide +kernel
theorem dX12_again_104 : decode cX12_again 104 = .ok (.iload_n 1, 1) := by decide +kernel
theorem dX12_again_105 : decode cX12_again 105 = .ok (.iaload, 1) := by decide +kernel
theorem dX12_again_106 : decode cX12_again 106 = .ok (.putfield 404, 3) := by decide +kernel
theorem dX12_again_109 : decode cX12_again 109 = .ok (.aload_n 0, 1) := by decide +kernel
theorem dX12_again_110 : decode cX12_again 110 = .ok (.aload_n 0, 1) := by decide +kernel
theorem dX12_again_111 : decode cX12_again 111 = .ok (.getfield 199, 3) := by decide +kernel
theorem dX12_again_114 : decode cX12_again 114 = .ok (.iload_n 1, 1) := by decide +kernel
theorem dX12_again_115 : decode cX12_again 115 = .ok (.iaload, 1) := by decide +kernel
theorem dX12_again_116 : decode cX12_again 116 = .ok (.putfield 382, 3) := by decide +kernel
theorem dX12_again_119 : decode cX12_again 119 = .ok (.aload_n 0, 1) := by decide +kernel
theorem dX12_again_120 : decode cX12_again 120 = .ok (.iconst 5, 1) := by decide +kernel
theorem dX12_again_121 : decode cX12_again 121 = .ok (.putfield 418, 3) := by decide +kernel
theorem dX12_again_124 : decode cX12_again 124 = .ok (.aload_n 0, 1) := by decide +kernel
theorem dX12_again_125 : decode cX12_again 125 = .ok (.aload_n 0, 1) := by decide +kernel
theorem dX12_again_126 : decode cX12_again 126 = .ok (.getfield 208, 3) := by decide +kernel
theorem dX12_again_129 : decode cX12_again 129 = .ok (.iload_n 1, 1) := by decide +kernel
theorem dX12_again_130 : decode cX12_again 130 = .ok (.baload, 1) := by decide +kernel
theorem dX12_again_131 : decode cX12_again 131 = .ok (.putfield 412, 3) := by decide +kernel
theorem dX12_again_134 : decode cX12_again 134 = .ok (.aload_n 0, 1) := by decide +kernel
theorem dX12_again_135 : decode cX12_again 135 = .ok (.iconst 1, 1) := by decide +kernel
theorem dX12_again_136 : decode cX12_again 136 = .ok (.putfield 407, 3) := by decide +kernel
theorem dX12_again_139 : decode cX12_again 139 = .ok (.aload_n 0, 1) := by decide +kernel
theorem dX12_again_140 : decode cX12_again 140 = .ok (.aload_n 0, 1) := by decide +kernel
theorem dX12_again_141 : decode cX12_again 141 = .ok (.getfield 217, 3) := by decide +kernel
theorem dX12_again_144 : decode cX12_again 144 = .ok (.iload_n 1, 1) := by decide +kernel
theorem dX12_again_145 : decode cX12_again 145 = .ok (.iaload, 1) := by decide +kernel
theorem dX12_again_146 : decode cX12_again 146 = .ok (.putfield 492, 3) := by decide +kernel
theorem dX12_again_149 : decode cX12_again 149 = .ok (.aload_n 0, 1) := by decide +kernel
theorem dX12_again_150 : decode cX12_again 150 = .ok (.aload_n 0, 1) := by decide +kernel
theorem dX12_again_151 : decode cX12_again 151 = .ok (.getfield 220, 3) := by decide +kernel
theorem dX12_again_154 : decode cX12_again 154 = .ok (.iload_n 1, 1) := by decide +kernel
theorem dX12_again_155 : decode cX12_again 155 = .ok (.iaload, 1) := by decide +kernel
theorem dX12_again_156 : decode cX12_again 156 = .ok (.putfield 498, 3) := by decide +kernel
theorem dX12_again_159 : decode cX12_again 159 = .ok (.aload_n 0, 1) := by decide +kernel
theorem dX12_again_160 : decode cX12_again 160 = .ok (.ldc_w 575, 3) := by decide +kernel
theorem dX12_again_163 : decode cX12_again 163 = .ok (.putfield 368, 3) := by decide +kernel
theorem dX12_again_166 : decode cX12_again 166 = .ok (.aload_n 0, 1) := by decide +kernel
theorem dX12_again_167 : decode cX12_again 167 = .ok (.iload_n 1, 1) := by decide +kernel
theorem dX12_again_168 : decode cX12_again 168 = .ok (.invokevirtual 543, 3) := by decide +kernel
theorem dX12_again_171 : decode cX12_again 171 = .ok (.lstore 17, 2) := by decide +kernel
theorem dX12_again_173 : decode cX12_again 173 = .ok (.lload 17, 2) := by decide +kernel
theorem dX12_again_175 : decode cX12_again 175 = .ok (.ldc2_w 592, 3) := by decide +kernel
theorem dX12_again_178 : decode cX12_again 178 = .ok (.lcmp, 1) := by decide +kernel
theorem dX12_again_179 : decode cX12_again 179 = .ok (.ifCond .eq 7, 3) := by decide +kernel
theorem dX12_again_182 : decode cX12_again 182 = .ok (.iconst 1, 1) := by decide +kernel
theorem dX12_again_183 : decode cX12_again 183 = .ok (.goto 4, 3) := by decide +kernel
theorem dX12_again_186 : decode cX12_again 186 = .ok (.iconst 0, 1) := by decide +kernel
theorem dX12_again_187 : decode cX12_again 187 = .ok (.istore 19, 2) := by decide +kernel
theorem dX12_again_189 : decode cX12_again 189 = .ok (.iload 19, 2) := by decide +kernel
theorem dX12_again_191 : decode cX12_again 191 = .ok (.ifCond .eq 15, 3) := by decide +kernel
theorem dX12_again_194 : decode cX12_again 194 = .ok (.aload_n 0, 1) := by decide +kernel
theorem dX12_again_195 : decode cX12_again 195 = .ok (.iload_n 1, 1) := by decide +kernel
theorem dX12_again_196 : decode cX12_again 196 = .ok (.lload 17, 2) := by decide +kernel
theorem dX12_again_198 : decode cX12_again 198 = .ok (.invokevirtual 576, 3) := by decide +kernel
theorem dX12_again_201 : decode cX12_again 201 = .ok (.aload_n 0, 1) := by decide +kernel
theorem dX12_again_202 : decode cX12_again 202 = .ok (.iload_n 1, 1) := by decide +kernel
theorem dX12_again_203 : decode cX12_again 203 = .ok (.invokevirtual 332, 3) := by decide +kernel
theorem dX12_again_206 : decode cX12_again 206 = .ok (.aload_n 0, 1) := by decide +kernel
theorem dX12_again_207 : decode cX12_again 207 = .ok (.aload_n 2, 1) := by decide +kernel
theorem dX12_again_208 : decode cX12_again 208 = .ok (.putfield 356, 3) := by decide +kernel
theorem dX12_again_211 : decode cX12_again 211 = .ok (.aload_n 0, 1) := by decide +kernel
theorem dX12_again_212 : decode cX12_again 212 = .ok (.iload_n 3, 1) := by decide +kernel
theorem dX12_again_213 : decode cX12_again 213 = .ok (.putfield 359, 3) := by decide +kernel
theorem dX12_again_216 : decode cX12_again 216 = .ok (.aload_n 0, 1) := by decide +kernel
theorem dX12_again_217 : decode cX12_again 217 = .ok (.iload 4, 2) := by decide +kernel
theorem dX12_again_219 : decode cX12_again 219 = .ok (.putfield 404, 3) := by decide +kernel
theorem dX12_again_222 : decode cX12_again 222 = .ok (.aload_n 0, 1) := by decide +kernel
theorem dX12_again_223 : decode cX12_again 223 = .ok (.iload 5, 2) := by decide +kernel
theorem dX12_again_225 : decode cX12_again 225 = .ok (.putfield 382, 3) := by decide +kernel
theorem dX12_again_228 : decode cX12_again 228 = .ok (.aload_n 0, 1) := by decide +kernel
theorem dX12_again_229 : decode cX12_again 229 = .ok (.iload 6, 2) := by decide +kernel
theorem dX12_again_231 : decode cX12_again 231 = .ok (.putfield 418, 3) := by decide +kernel
theorem dX12_again_234 : decode cX12_again 234 = .ok (.aload_n 0, 1) := by decide +kernel
theorem dX12_again_235 : decode cX12_again 235 = .ok (.iload 7, 2) := by decide +kernel
theorem dX12_again_237 : decode cX12_again 237 = .ok (.putfield 412, 3) := by decide +kernel
theorem dX12_again_240 : decode cX12_again 240 = .ok (.aload_n 0, 1) := by decide +kernel
theorem dX12_again_241 : decode cX12_again 241 = .ok (.iload 8, 2) := by decide +kernel
theorem dX12_again_243 : decode cX12_again 243 = .ok (.putfield 407, 3) := by decide +kernel
theorem dX12_again_246 : decode cX12_again 246 = .ok (.aload_n 0, 1) := by decide +kernel
theorem dX12_again_247 : decode cX12_again 247 = .ok (.iload 9, 2) := by decide +kernel
theorem dX12_again_249 : decode cX12_again 249 = .ok (.putfield 492, 3) := by decide +kernel
theorem dX12_again_252 : decode cX12_again 252 = .ok (.aload_n 0, 1) := by decide +kernel
theorem dX12_again_253 : decode cX12_again 253 = .ok (.iload 10, 2) := by decide +kernel
theorem dX12_again_255 : decode cX12_again 255 = .ok (.putfield 498, 3) := by decide +kernel
theorem dX12_again_258 : decode cX12_again 258 = .ok (.aload_n 0, 1) := by decide +kernel
theorem dX12_again_259 : decode cX12_again 259 = .ok (.iload 11, 2) := by decide +kernel
theorem dX12_again_261 : decode cX12_again 261 = .ok (.putfield 525, 3) := by decide +kernel
theorem dX12_again_264 : decode cX12_again 264 = .ok (.aload_n 0, 1) := by decide +kernel
theorem dX12_again_265 : decode cX12_again 265 = .ok (.lload 12, 2) := by decide +kernel
theorem dX12_again_267 : decode cX12_again 267 = .ok (.putfield 443, 3) := by decide +kernel
theorem dX12_again_270 : decode cX12_again 270 = .ok (.aload_n 0, 1) := by decide +kernel
theorem dX12_again_271 : decode cX12_again 271 = .ok (.iload 14, 2) := by decide +kernel
theorem dX12_again_273 : decode cX12_again 273 = .ok (.putfield 446, 3) := by decide +kernel
theorem dX12_again_276 : decode cX12_again 276 = .ok (.aload_n 0, 1) := by decide +kernel
theorem dX12_again_277 : decode cX12_again 277 = .ok (.iload 15, 2) := by decide +kernel
theorem dX12_again_279 : decode cX12_again 279 = .ok (.putfield 368, 3) := by decide +kernel
theorem dX12_again_282 : decode cX12_again 282 = .ok (.aload_n 0, 1) := by decide +kernel
theorem dX12_again_283 : decode cX12_again 283 = .ok (.iload 16, 2) := by decide +kernel
theorem dX12_again_285 : decode cX12_again 285 = .ok (.putfield 371, 3) := by decide +kernel
theorem dX12_again_288 : decode cX12_again 288 = .ok (.iload 19, 2) := by decide +kernel
theorem dX12_again_290 : decode cX12_again 290 = .ok (.ireturn, 1) := by decide +kernel
set_option maxRecDepth 100000 in
set_option maxHeartbeats 4000000 in
theorem c_X12_again (l : Launch) (D : va_G) (t : Nat → ClassId) (h0 : Nat) (L : Nat → Nat) (σ : HS) (hM : MdI h0 L σ) (a1 : Int32) (post : Int32 → HS → Prop) (hw : F_X12_again h0 L a1 post σ) (sz : Nat) : RMi l D t yX12_again cX12_again 20 (some .boolean) ({ frames := 7, cells := 0, slots := 0, locals := 178 }) h0 L σ sz [.ref h0, .int a1] post := by
  refine h_go (τ := τT) okT (by decide) (Nat.le_of_ble_eq_true rfl) ?_
  intro p e s m below meth c ls A hF hr hlk hAe hH0 hA hl
  unfold hB
  rw [hAe]
  clear hAe
  have hF : FX p m c cX12_again 20 s _ RX12 D t := hF
  have hx := hF.1.1
  have hb := hF.1.2.1
  have hH : RT D t A s.heap h0 L σ s.heap [] := ⟨hH0, hM⟩
  have hl : lv_has ls 20 [(0, .ref h0), (1, .int a1)] := hl
  unfold F_X12_again at hw
  refine lv_aload_n hx hb dX12_again_0 rfl (lv_at hl 0 rfl) ?_
  refine w_getQ hF hH fk_X12_356 dX12_again_1 hw (fun z1 hw => ?_)
  refine w_astoreq_n (lv' := [(2, va_rf z1), (0, .ref h0), (1, .int a1)]) hF dX12_again_4 rfl hl (by decide) rfl (fun ls hl => ?_)
  refine lv_aload_n hx hb dX12_again_5 rfl (lv_at hl 1 rfl) ?_
  refine w_getI hF hH fk_X12_359 dX12_again_6 hw (fun z2 hw => ?_)
  refine lv_istore_n (lv' := [(3, .int z2), (2, va_rf z1), (0, .ref h0), (1, .int a1)]) hx hb dX12_again_9 rfl hl (by decide) (by cases z1 <;> rfl) (fun ls hl => ?_)
  refine lv_aload_n hx hb dX12_again_10 rfl (lv_at hl 2 rfl) ?_
  refine w_getI hF hH fk_X12_404 dX12_again_11 hw (fun z3 hw => ?_)
  refine lv_istore (lv' := [(4, .int z3), (3, .int z2), (2, va_rf z1), (0, .ref h0), (1, .int a1)]) hx hb dX12_again_14 hl (by decide) rfl (fun ls hl => ?_)
  refine lv_aload_n hx hb dX12_again_16 rfl (lv_at hl 3 rfl) ?_
  refine w_getI hF hH fk_X12_382 dX12_again_17 hw (fun z4 hw => ?_)
  refine lv_istore (lv' := [(5, .int z4), (4, .int z3), (3, .int z2), (2, va_rf z1), (0, .ref h0), (1, .int a1)]) hx hb dX12_again_20 hl (by decide) rfl (fun ls hl => ?_)
  refine lv_aload_n hx hb dX12_again_22 rfl (lv_at hl 4 rfl) ?_
  refine w_getI hF hH fk_X12_418 dX12_again_23 hw (fun z5 hw => ?_)
  refine lv_istore (lv' := [(6, .int z5), (5, .int z4), (4, .int z3), (3, .int z2), (2, va_rf z1), (0, .ref h0), (1, .int a1)]) hx hb dX12_again_26 hl (by decide) rfl (fun ls hl => ?_)
  refine lv_aload_n hx hb dX12_again_28 rfl (lv_at hl 5 rfl) ?_
  refine w_getI hF hH fk_X12_412 dX12_again_29 hw (fun z6 hw => ?_)
  refine lv_istore (lv' := [(7, .int z6), (6, .int z5), (5, .int z4), (4, .int z3), (3, .int z2), (2, va_rf z1), (0, .ref h0), (1, .int a1)]) hx hb dX12_again_32 hl (by decide) rfl (fun ls hl => ?_)
  refine lv_aload_n hx hb dX12_again_34 rfl (lv_at hl 6 rfl) ?_
  refine w_getI hF hH fk_X12_407 dX12_again_35 hw (fun z7 hw => ?_)
  refine lv_istore (lv' := [(8, .int z7), (7, .int z6), (6, .int z5), (5, .int z4), (4, .int z3), (3, .int z2), (2, va_rf z1), (0, .ref h0), (1, .int a1)]) hx hb dX12_again_38 hl (by decide) rfl (fun ls hl => ?_)
  refine lv_aload_n hx hb dX12_again_40 rfl (lv_at hl 7 rfl) ?_
  refine w_getI hF hH fk_X12_492 dX12_again_41 hw (fun z8 hw => ?_)
  refine lv_istore (lv' := [(9, .int z8), (8, .int z7), (7, .int z6), (6, .int z5), (5, .int z4), (4, .int z3), (3, .int z2), (2, va_rf z1), (0, .ref h0), (1, .int a1)]) hx hb dX12_again_44 hl (by decide) rfl (fun ls hl => ?_)
  refine lv_aload_n hx hb dX12_again_46 rfl (lv_at hl 8 rfl) ?_
  refine w_getI hF hH fk_X12_498 dX12_again_47 hw (fun z9 hw => ?_)
  refine lv_istore (lv' := [(10, .int z9), (9, .int z8), (8, .int z7), (7, .int z6), (6, .int z5), (5, .int z4), (4, .int z3), (3, .int z2), (2, va_rf z1), (0, .ref h0), (1, .int a1)]) hx hb dX12_again_50 hl (by decide) rfl (fun ls hl => ?_)
  refine lv_aload_n hx hb dX12_again_52 rfl (lv_at hl 9 rfl) ?_
  refine w_getI hF hH fk_X12_525 dX12_again_53 hw (fun z10 hw => ?_)
  refine lv_istore (lv' := [(11, .int z10), (10, .int z9), (9, .int z8), (8, .int z7), (7, .int z6), (6, .int z5), (5, .int z4), (4, .int z3), (3, .int z2), (2, va_rf z1), (0, .ref h0), (1, .int a1)]) hx hb dX12_again_56 hl (by decide) rfl (fun ls hl => ?_)
  refine lv_aload_n hx hb dX12_again_58 rfl (lv_at hl 10 rfl) ?_
  refine w_getJ hF hH fk_X12_443 dX12_again_59 hw (fun z11 hw => ?_)
  refine lv_lstore (lv' := [(12, .long z11), (11, .int z10), (10, .int z9), (9, .int z8), (8, .int z7), (7, .int z6), (6, .int z5), (5, .int z4), (4, .int z3), (3, .int z2), (2, va_rf z1), (0, .ref h0), (1, .int a1)]) hx hb dX12_again_62 hl (by decide) rfl (fun ls hl => ?_)
  refine lv_aload_n hx hb dX12_again_64 rfl (lv_at hl 11 rfl) ?_
  refine w_getI hF hH fk_X12_446 dX12_again_65 hw (fun z12 hw => ?_)
  refine lv_istore (lv' := [(14, .int z12), (12, .long z11), (11, .int z10), (10, .int z9), (9, .int z8), (8, .int z7), (7, .int z6), (6, .int z5), (5, .int z4), (4, .int z3), (3, .int z2), (2, va_rf z1), (0, .ref h0), (1, .int a1)]) hx hb dX12_again_68 hl (by decide) rfl (fun ls hl => ?_)
  refine lv_aload_n hx hb dX12_again_70 rfl (lv_at hl 12 rfl) ?_
  refine w_getI hF hH fk_X12_368 dX12_again_71 hw (fun z13 hw => ?_)
  refine lv_istore (lv' := [(15, .int z13), (14, .int z12), (12, .long z11), (11, .int z10), (10, .int z9), (9, .int z8), (8, .int z7), (7, .int z6), (6, .int z5), (5, .int z4), (4, .int z3), (3, .int z2), (2, va_rf z1), (0, .ref h0), (1, .int a1)]) hx hb dX12_again_74 hl (by decide) rfl (fun ls hl => ?_)
  refine lv_aload_n hx hb dX12_again_76 rfl (lv_at hl 13 rfl) ?_
  refine w_getI hF hH fk_X12_371 dX12_again_77 hw (fun z14 hw => ?_)
  refine lv_istore (lv' := [(16, .int z14), (15, .int z13), (14, .int z12), (12, .long z11), (11, .int z10), (10, .int z9), (9, .int z8), (8, .int z7), (7, .int z6), (6, .int z5), (5, .int z4), (4, .int z3), (3, .int z2), (2, va_rf z1), (0, .ref h0), (1, .int a1)]) hx hb dX12_again_80 hl (by decide) rfl (fun ls hl => ?_)
  refine lv_aload_n hx hb dX12_again_82 rfl (lv_at hl 14 rfl) ?_
  refine lv_aload_n hx hb dX12_again_83 rfl (lv_at hl 14 rfl) ?_
  refine w_getA 75 hF hH fk_X12_242 dX12_again_84 (by decide) rfl ?_
  refine w_putQr hF hH fk_X12_356 dX12_again_87 hw (fun σ15 H locs hw hH => ?_)
  refine lv_aload_n hx hb dX12_again_90 rfl (lv_at hl 14 rfl) ?_
  refine lv_sipush (v := 4000) hx hb dX12_again_91 (by decide) ?_
  refine lv_iload_n hx hb dX12_again_94 rfl (lv_at hl 15 rfl) ?_
  refine lv_imul hx hb dX12_again_95 ?_
  refine w_nmi hw (fun z16 hw => ?_)
  refine w_putI hF hH fk_X12_359 dX12_again_96 rfl rfl rfl hw (fun σ17 H locs hw hH => ?_)
  refine lv_aload_n hx hb dX12_again_99 rfl (lv_at hl 14 rfl) ?_
  refine lv_aload_n hx hb dX12_again_100 rfl (lv_at hl 14 rfl) ?_
  refine w_getA 74 hF hH fk_X12_238 dX12_again_101 (by decide) rfl ?_
  refine lv_iload_n hx hb dX12_again_104 rfl (lv_at hl 15 rfl) ?_
  refine w_iald 74 16 hF hH dX12_again_105 (by decide) rfl rfl hw (fun z18 hw => ?_)
  refine w_putI hF hH fk_X12_404 dX12_again_106 rfl rfl rfl hw (fun σ19 H locs hw hH => ?_)
  refine lv_aload_n hx hb dX12_again_109 rfl (lv_at hl 14 rfl) ?_
  refine lv_aload_n hx hb dX12_again_110 rfl (lv_at hl 14 rfl) ?_
  refine w_getA 61 hF hH fk_X12_199 dX12_again_111 (by decide) rfl ?_
  refine lv_iload_n hx hb dX12_again_114 rfl (lv_at hl 15 rfl) ?_
  refine w_iald 61 16 hF hH dX12_again_115 (by decide) rfl rfl hw (fun z20 hw => ?_)
  refine w_putI hF hH fk_X12_382 dX12_again_116 rfl rfl rfl hw (fun σ21 H locs hw hH => ?_)
  refine lv_aload_n hx hb dX12_again_119 rfl (lv_at hl 14 rfl) ?_
  refine lv_iconst (v := 5) hx hb dX12_again_120 (by decide) ?_
  refine w_putI hF hH fk_X12_418 dX12_again_121 rfl rfl rfl hw (fun σ22 H locs hw hH => ?_)
  refine lv_aload_n hx hb dX12_again_124 rfl (lv_at hl 14 rfl) ?_
  refine lv_aload_n hx hb dX12_again_125 rfl (lv_at hl 14 rfl) ?_
  refine w_getA 64 hF hH fk_X12_208 dX12_again_126 (by decide) rfl ?_
  refine lv_iload_n hx hb dX12_again_129 rfl (lv_at hl 15 rfl) ?_
  refine w_zald 64 16 hF hH dX12_again_130 (by decide) rfl rfl hw (fun z23 hw => ?_)
  refine w_putZ hF hH fk_X12_412 dX12_again_131 rfl rfl hw (fun σ24 H locs hw hH => ?_)
  refine lv_aload_n hx hb dX12_again_134 rfl (lv_at hl 14 rfl) ?_
  refine lv_iconst (v := 1) hx hb dX12_again_135 (by decide) ?_
  refine w_putZ hF hH fk_X12_407 dX12_again_136 rfl rfl hw (fun σ25 H locs hw hH => ?_)
  refine lv_aload_n hx hb dX12_again_139 rfl (lv_at hl 14 rfl) ?_
  refine lv_aload_n hx hb dX12_again_140 rfl (lv_at hl 14 rfl) ?_
  refine w_getA 67 hF hH fk_X12_217 dX12_again_141 (by decide) rfl ?_
  refine lv_iload_n hx hb dX12_again_144 rfl (lv_at hl 15 rfl) ?_
  refine w_iald 67 16 hF hH dX12_again_145 (by decide) rfl rfl hw (fun z26 hw => ?_)
  refine w_putI hF hH fk_X12_492 dX12_again_146 rfl rfl rfl hw (fun σ27 H locs hw hH => ?_)
  refine lv_aload_n hx hb dX12_again_149 rfl (lv_at hl 14 rfl) ?_
  refine lv_aload_n hx hb dX12_again_150 rfl (lv_at hl 14 rfl) ?_
  refine w_getA 68 hF hH fk_X12_220 dX12_again_151 (by decide) rfl ?_
  refine lv_iload_n hx hb dX12_again_154 rfl (lv_at hl 15 rfl) ?_
  refine w_iald 68 16 hF hH dX12_again_155 (by decide) rfl rfl hw (fun z28 hw => ?_)
  refine w_putI hF hH fk_X12_498 dX12_again_156 rfl rfl rfl hw (fun σ29 H locs hw hH => ?_)
  refine lv_aload_n hx hb dX12_again_159 rfl (lv_at hl 14 rfl) ?_
  refine lv_ldcw (v := 85000) hx hb hF.1.2.2.2.1 (hF.1.2.2.2.2 _ (wc_48 2 rfl)) dX12_again_160 ?_
  refine w_putI hF hH fk_X12_368 dX12_again_163 rfl rfl rfl hw (fun σ30 H locs hw hH => ?_)
  refine lv_aload_n hx hb dX12_again_166 rfl (lv_at hl 14 rfl) ?_
  refine lv_iload_n hx hb dX12_again_167 rfl (lv_at hl 15 rfl) ?_
  refine w_cVl (As := [.int a1]) (rest := []) hF hH hA mv_X12_543 (fun sz => c_X12_create l D t h0 L _ hH.2 a1 _ hw sz) dX12_again_168 rfl rfl (by decide) rfl hl.1 (Nat.le_of_ble_eq_true rfl) (by decide) rfl (fun z32 σ31 H locs hw hH => ?_)
  refine lv_lstore (lv' := [(17, .long z32), (16, .int z14), (15, .int z13), (14, .int z12), (12, .long z11), (11, .int z10), (10, .int z9), (9, .int z8), (8, .int z7), (7, .int z6), (6, .int z5), (5, .int z4), (4, .int z3), (3, .int z2), (2, va_rf z1), (0, .ref h0), (1, .int a1)]) hx hb dX12_again_171 hl (by decide) rfl (fun ls hl => ?_)
  refine lv_lload hx hb dX12_again_173 (lv_at hl 0 rfl) ?_
  refine lv_ldc2 (v := 259) hx hb hF.1.2.2.2.1 (hF.1.2.2.2.2 _ (wc_52 38 rfl)) dX12_again_175 ?_
  obtain ⟨K35, hK36, hw⟩ := jn_open hw
  refine w_join (K := K35) 187 (fun (x33 : Int32) => [(17, .long z32), (16, .int z14), (15, .int z13), (14, .int z12), (12, .long z11), (11, .int z10), (10, .int z9), (9, .int z8), (8, .int z7), (7, .int z6), (6, .int z5), (5, .int z4), (4, .int z3), (3, .int z2), (2, va_rf z1), (1, .int a1), (0, .ref h0)]) (fun (x33 : Int32) => [.int x33]) hl hH (fun x33 σ34 ls H locs hl hw hH => ?_) (fun jn37 => ?_)
  · have hw := hK36 x33 σ34 hw
    have hl : lv_has ls 20 [(17, .long z32), (16, .int z14), (15, .int z13), (14, .int z12), (12, .long z11), (11, .int z10), (10, .int z9), (9, .int z8), (8, .int z7), (7, .int z6), (6, .int z5), (5, .int z4), (4, .int z3), (3, .int z2), (2, va_rf z1), (1, .int a1), (0, .ref h0)] := hl
    refine lv_istore (lv' := [(19, .int x33), (17, .long z32), (16, .int z14), (15, .int z13), (14, .int z12), (12, .long z11), (11, .int z10), (10, .int z9), (9, .int z8), (8, .int z7), (7, .int z6), (6, .int z5), (5, .int z4), (4, .int z3), (3, .int z2), (2, va_rf z1), (1, .int a1), (0, .ref h0)]) hx hb dX12_again_187 hl (by decide) rfl (fun ls hl => ?_)
    refine lv_iload hx hb dX12_again_189 (lv_at hl 0 rfl) ?_
    obtain ⟨K40, hK41, hw⟩ := jn_open hw
    refine w_join (K := K40) 206 (fun (x38 : Unit) => [(19, .int x33), (16, .int z14), (15, .int z13), (14, .int z12), (12, .long z11), (11, .int z10), (10, .int z9), (9, .int z8), (8, .int z7), (7, .int z6), (6, .int z5), (5, .int z4), (4, .int z3), (3, .int z2), (2, va_rf z1), (0, .ref h0)]) (fun (x38 : Unit) => []) hl hH (fun x38 σ39 ls H locs hl hw hH => ?_) (fun jn42 => ?_)
    · have hw := hK41 x38 σ39 hw
      have hl : lv_has ls 20 [(19, .int x33), (16, .int z14), (15, .int z13), (14, .int z12), (12, .long z11), (11, .int z10), (10, .int z9), (9, .int z8), (8, .int z7), (7, .int z6), (6, .int z5), (5, .int z4), (4, .int z3), (3, .int z2), (2, va_rf z1), (0, .ref h0)] := hl
      refine lv_aload_n hx hb dX12_again_206 rfl (lv_at hl 15 rfl) ?_
      refine w_aloadq_n hF dX12_again_207 rfl (lv_at hl 14 rfl) ?_
      refine w_putQ hF hH fk_X12_356 dX12_again_208 hw (fun σ43 H locs hw hH => ?_)
      refine lv_aload_n hx hb dX12_again_211 rfl (lv_at hl 15 rfl) ?_
      refine lv_iload_n hx hb dX12_again_212 rfl (lv_at hl 13 rfl) ?_
      refine w_putI hF hH fk_X12_359 dX12_again_213 rfl rfl rfl hw (fun σ44 H locs hw hH => ?_)
      refine lv_aload_n hx hb dX12_again_216 rfl (lv_at hl 15 rfl) ?_
      refine lv_iload hx hb dX12_again_217 (lv_at hl 12 rfl) ?_
      refine w_putI hF hH fk_X12_404 dX12_again_219 rfl rfl rfl hw (fun σ45 H locs hw hH => ?_)
      refine lv_aload_n hx hb dX12_again_222 rfl (lv_at hl 15 rfl) ?_
      refine lv_iload hx hb dX12_again_223 (lv_at hl 11 rfl) ?_
      refine w_putI hF hH fk_X12_382 dX12_again_225 rfl rfl rfl hw (fun σ46 H locs hw hH => ?_)
      refine lv_aload_n hx hb dX12_again_228 rfl (lv_at hl 15 rfl) ?_
      refine lv_iload hx hb dX12_again_229 (lv_at hl 10 rfl) ?_
      refine w_putI hF hH fk_X12_418 dX12_again_231 rfl rfl rfl hw (fun σ47 H locs hw hH => ?_)
      refine lv_aload_n hx hb dX12_again_234 rfl (lv_at hl 15 rfl) ?_
      refine lv_iload hx hb dX12_again_235 (lv_at hl 9 rfl) ?_
      refine w_putZ hF hH fk_X12_412 dX12_again_237 rfl rfl hw (fun σ48 H locs hw hH => ?_)
      refine lv_aload_n hx hb dX12_again_240 rfl (lv_at hl 15 rfl) ?_
      refine lv_iload hx hb dX12_again_241 (lv_at hl 8 rfl) ?_
      refine w_putZ hF hH fk_X12_407 dX12_again_243 rfl rfl hw (fun σ49 H locs hw hH => ?_)
      refine lv_aload_n hx hb dX12_again_246 rfl (lv_at hl 15 rfl) ?_
      refine lv_iload hx hb dX12_again_247 (lv_at hl 7 rfl) ?_
      refine w_putI hF hH fk_X12_492 dX12_again_249 rfl rfl rfl hw (fun σ50 H locs hw hH => ?_)
      refine lv_aload_n hx hb dX12_again_252 rfl (lv_at hl 15 rfl) ?_
      refine lv_iload hx hb dX12_again_253 (lv_at hl 6 rfl) ?_
      refine w_putI hF hH fk_X12_498 dX12_again_255 rfl rfl rfl hw (fun σ51 H locs hw hH => ?_)
      refine lv_aload_n hx hb dX12_again_258 rfl (lv_at hl 15 rfl) ?_
      refine lv_iload hx hb dX12_again_259 (lv_at hl 5 rfl) ?_
      refine w_putI hF hH fk_X12_525 dX12_again_261 rfl rfl rfl hw (fun σ52 H locs hw hH => ?_)
      refine lv_aload_n hx hb dX12_again_264 rfl (lv_at hl 15 rfl) ?_
      refine lv_lload hx hb dX12_again_265 (lv_at hl 4 rfl) ?_
      refine w_putJ hF hH fk_X12_443 dX12_again_267 rfl rfl rfl hw (fun σ53 H locs hw hH => ?_)
      refine lv_aload_n hx hb dX12_again_270 rfl (lv_at hl 15 rfl) ?_
      refine lv_iload hx hb dX12_again_271 (lv_at hl 3 rfl) ?_
      refine w_putZ hF hH fk_X12_446 dX12_again_273 rfl rfl hw (fun σ54 H locs hw hH => ?_)
      refine lv_aload_n hx hb dX12_again_276 rfl (lv_at hl 15 rfl) ?_
      refine lv_iload hx hb dX12_again_277 (lv_at hl 2 rfl) ?_
      refine w_putI hF hH fk_X12_368 dX12_again_279 rfl rfl rfl hw (fun σ55 H locs hw hH => ?_)
      refine lv_aload_n hx hb dX12_again_282 rfl (lv_at hl 15 rfl) ?_
      refine lv_iload hx hb dX12_again_283 (lv_at hl 1 rfl) ?_
      refine w_putI hF hH fk_X12_371 dX12_again_285 rfl rfl rfl hw (fun σ56 H locs hw hH => ?_)
      refine lv_iload hx hb dX12_again_288 (lv_at hl 0 rfl) ?_
      exact w_retz hF hH hr hlk dX12_again_290 hw
    · skip
      refine w_if_eq (tgt := 206) hF dX12_again_191 rfl hw (fun hw => ?_) (fun hw => ?_)
      · have hl : lv_has ls 20 [(19, .int x33), (16, .int z14), (15, .int z13), (14, .int z12), (12, .long z11), (11, .int z10), (10, .int z9), (9, .int z8), (8, .int z7), (7, .int z6), (6, .int z5), (5, .int z4), (4, .int z3), (3, .int z2), (2, va_rf z1), (0, .ref h0)] := lv_sub hl [0, 2, 3, 4, 5, 6, 7, 8, 9, 10, 11, 12, 13, 14, 15, 17] rfl
        exact jn42 () σ34 ls _ _ hl hw hH
      · refine lv_aload_n hx hb dX12_again_194 rfl (lv_at hl 17 rfl) ?_
        refine lv_iload_n hx hb dX12_again_195 rfl (lv_at hl 16 rfl) ?_
        refine lv_lload hx hb dX12_again_196 (lv_at hl 1 rfl) ?_
        refine w_cVv (As := [.int a1, .long z32]) (rest := []) hF hH hA mv_X12_576 (fun sz => c_X12_late l D t h0 L _ hH.2 a1 z32 _ hw sz) dX12_again_198 rfl rfl (by decide) rfl hl.1 (Nat.le_of_ble_eq_true rfl) (by decide) rfl (fun σ57 H locs hw hH => ?_)
        refine lv_aload_n hx hb dX12_again_201 rfl (lv_at hl 17 rfl) ?_
        refine lv_iload_n hx hb dX12_again_202 rfl (lv_at hl 16 rfl) ?_
        refine w_cVv (As := [.int a1]) (rest := []) hF hH hA mv_X12_332 (fun sz => c_X12_forget l D t h0 L _ hH.2 a1 _ hw sz) dX12_again_203 rfl rfl (by decide) rfl hl.1 (Nat.le_of_ble_eq_true rfl) (by decide) rfl (fun σ59 H locs hw hH => ?_)
        have hl : lv_has ls 20 [(19, .int x33), (16, .int z14), (15, .int z13), (14, .int z12), (12, .long z11), (11, .int z10), (10, .int z9), (9, .int z8), (8, .int z7), (7, .int z6), (6, .int z5), (5, .int z4), (4, .int z3), (3, .int z2), (2, va_rf z1), (0, .ref h0)] := lv_sub hl [0, 2, 3, 4, 5, 6, 7, 8, 9, 10, 11, 12, 13, 14, 15, 17] rfl
        exact jn42 () σ59 ls _ _ hl hw hH
  · skip
    refine w_lif_eq (tgt := 186) hF dX12_again_178 dX12_again_179 rfl hw (fun hw => ?_) (fun hw => ?_)
    · refine lv_iconst (v := 0) hx hb dX12_again_186 (by decide) ?_
      have hl : lv_has ls 20 [(17, .long z32), (16, .int z14), (15, .int z13), (14, .int z12), (12, .long z11), (11, .int z10), (10, .int z9), (9, .int z8), (8, .int z7), (7, .int z6), (6, .int z5), (5, .int z4), (4, .int z3), (3, .int z2), (2, va_rf z1), (1, .int a1), (0, .ref h0)] := lv_sub hl [0, 1, 2, 3, 4, 5, 6, 7, 8, 9, 10, 11, 12, 13, 14, 16, 15] rfl
      exact jn37 0 σ31 ls _ _ hl hw hH
    · refine lv_iconst (v := 1) hx hb dX12_again_182 (by decide) ?_
      refine lv_goto (tgt := 187) hx hb dX12_again_183 rfl ?_
      have hl : lv_has ls 20 [(17, .long z32), (16, .int z14), (15, .int z13), (14, .int z12), (12, .long z11), (11, .int z10), (10, .int z9), (9, .int z8), (8, .int z7), (7, .int z6), (6, .int z5), (5, .int z4), (4, .int z3), (3, .int z2), (2, va_rf z1), (1, .int a1), (0, .ref h0)] := lv_sub hl [0, 1, 2, 3, 4, 5, 6, 7, 8, 9, 10, 11, 12, 13, 14, 16, 15] rfl
      exact jn37 1 σ31 ls _ _ hl hw hH
def F_X12_redo (h0 : Nat) (L : Nat → Nat) (a1 : Int32) (post : HS → Prop) (σ : HS) : Prop := lw (fun (K3 : Int32 → HS → Prop) (x1 : Int32) (σ2 : HS) => ∀ z5 : Int32, z5 = sI σ2 h0 69 → ((z5.toInt ≤ x1.toInt) → post σ2) ∧ ((x1.toInt < z5.toInt) → (0 ≤ x1.toInt ∧ x1.toInt < 16) ∧ ∀ z6 : Int32, z6 = sI σ2 (L 62) x1.toInt.toNat → jn (fun (K9 : Unit → HS → Prop) => ((¬ z6.toInt = (5 : Int32).toInt) → K9 () σ2) ∧ ((z6.toInt = (5 : Int32).toInt) → (0 ≤ x1.toInt ∧ x1.toInt < 16) ∧ ∀ z13 : Int32, z13 = sI σ2 (L 70) x1.toInt.toNat → ((¬ z13.toInt = a1.toInt) → K9 () σ2) ∧ ((z13.toInt = a1.toInt) → F_X12_again h0 L x1 (fun (z15 : Int32) (σ14 : HS) => ((¬ z15.toInt = 0) → K3 x1 σ14) ∧ ((z15.toInt = 0) → K9 () σ14)) σ2))) (fun (x7 : Unit) (σ8 : HS) => ∀ z12 : Int32, z12 = x1 + 1 → K3 z12 σ8))) 0 σ
theorem dX12_redo_0 : decode cX12_redo 0 = .ok (.iconst 0, 1) := by decide +kernel
theorem dX12_redo_1 : decode cX12_redo 1 = .ok (.istore_n 2, 1) := by decide +kernel
theorem dX12_redo_2 : decode cX12_redo 2 = .ok (.iload_n 2, 1) := by decide +kernel
theorem dX12_redo_3 : decode cX12_redo 3 = .ok (.aload_n 0, 1) := by decide +kernel
theorem dX12_redo_4 : decode cX12_redo 4 = .ok (.getfield 292, 3) := by decide +kernel
theorem dX12_redo_7 : decode cX12_redo 7 = .ok (.if_icmp .ge 37, 3) := by decide +kernel
theorem dX12_redo_10 : decode cX12_redo 10 = .ok (.aload_n 0, 1) := by decide +kernel
theorem dX12_redo_11 : decode cX12_redo 11 = .ok (.getfield 202, 3) := by decide +kernel
theorem dX12_redo_14 : decode cX12_redo 14 = .ok (.iload_n 2, 1) := by decide +kernel
theorem dX12_redo_15 : decode cX12_redo 15 = .ok (.iaload, 1) := by decide +kernel
theorem dX12_redo_16 : decode cX12_redo 16 = .ok (.iconst 5, 1) := by decide +kernel
theorem dX12_redo_17 : decode cX12_redo 17 = .ok (.if_icmp .ne 21, 3) := by decide +kernel
theorem dX12_redo_20 : decode cX12_redo 20 = .ok (.aload_n 0, 1) := by decide +kernel
theorem dX12_redo_21 : decode cX12_redo 21 = .ok (.getfield 226, 3) := by decide +kernel
theorem dX12_redo_24 : decode cX12_redo 24 = .ok (.iload_n 2, 1) := by decide +kernel
theorem dX12_redo_25 : decode cX12_redo 25 = .ok (.iaload, 1) := by decide +kernel
theorem dX12_redo_26 : decode cX12_redo 26 = .ok (.iload_n 1, 1) := by decide +kernel
theorem dX12_redo_27 : decode cX12_redo 27 = .ok (.if_icmp .ne 11, 3) := by decide +kernel
theorem dX12_redo_30 : decode cX12_redo 30 = .ok (.aload_n 0, 1) := by decide +kernel
theorem dX12_redo_31 : decode cX12_redo 31 = .ok (.iload_n 2, 1) := by decide +kernel
theorem dX12_redo_32 : decode cX12_redo 32 = .ok (.invokevirtual 589, 3) := by decide +kernel
theorem dX12_redo_35 : decode cX12_redo 35 = .ok (.ifCond .ne (-33), 3) := by decide +kernel
theorem dX12_redo_38 : decode cX12_redo 38 = .ok (.iinc 2 1, 3) := by decide +kernel
theorem dX12_redo_41 : decode cX12_redo 41 = .ok (.goto (-39), 3) := by decide +kernel
theorem dX12_redo_44 : decode cX12_redo 44 = .ok (.return_, 1) := by decide +kernel
set_option maxRecDepth 100000 in
set_option maxHeartbeats 4000000 in
theorem c_X12_redo (l : Launch) (D : va_G) (t : Nat → ClassId) (h0 : Nat) (L : Nat → Nat) (σ : HS) (hM : MdI h0 L σ) (a1 : Int32) (post : HS → Prop) (hw : F_X12_redo h0 L a1 post σ) (sz : Nat) : RMv l D t yX12_redo cX12_redo 3 ({ frames := 8, cells := 0, slots := 0, locals := 217 }) h0 L σ sz [.ref h0, .int a1] post := by
  refine h_go (τ := τT) okT (by decide) (Nat.le_of_ble_eq_true rfl) ?_
  intro p e s m below meth c ls A hF hr hlk hAe hH0 hA hl
  unfold hB
  rw [hAe]
  clear hAe
  have hF : FX p m c cX12_redo 3 s _ RX12 D t := hF
  have hx := hF.1.1
  have hb := hF.1.2.1
  have hH : RT D t A s.heap h0 L σ s.heap [] := ⟨hH0, hM⟩
  have hl : lv_has ls 3 [(0, .ref h0), (1, .int a1)] := hl
  unfold F_X12_redo at hw
  refine lv_iconst (v := 0) hx hb dX12_redo_0 (by decide) ?_
  refine lv_istore_n (lv' := [(2, .int 0), (0, .ref h0), (1, .int a1)]) hx hb dX12_redo_1 rfl hl (by decide) rfl (fun ls hl => ?_)
  have hl : lv_has ls 3 [(2, .int 0), (1, .int a1), (0, .ref h0)] := lv_sub hl [0, 2, 1] rfl
  refine w_loop (β := Int32) (fun x1 => [(2, .int x1), (1, .int a1), (0, .ref h0)]) 0 hl hw hH (fun K3 x1 σ2 ls H locs hl hw hH ih4 => ?_)
  have hl : lv_has ls 3 [(2, .int x1), (1, .int a1), (0, .ref h0)] := hl
  refine lv_iload_n hx hb dX12_redo_2 rfl (lv_at hl 0 rfl) ?_
  refine lv_aload_n hx hb dX12_redo_3 rfl (lv_at hl 2 rfl) ?_
  refine w_getI hF hH fk_X12_292 dX12_redo_4 hw (fun z5 hw => ?_)
  refine w_icmp_ge (tgt := 44) hF dX12_redo_7 rfl hw (fun hw => ?_) (fun hw => ?_)
  · exact w_retv hF hH hr hlk dX12_redo_44 hw
  · refine lv_aload_n hx hb dX12_redo_10 rfl (lv_at hl 2 rfl) ?_
    refine w_getA 62 hF hH fk_X12_202 dX12_redo_11 (by decide) rfl ?_
    refine lv_iload_n hx hb dX12_redo_14 rfl (lv_at hl 0 rfl) ?_
    refine w_iald 62 16 hF hH dX12_redo_15 (by decide) rfl rfl hw (fun z6 hw => ?_)
    refine lv_iconst (v := 5) hx hb dX12_redo_16 (by decide) ?_
    obtain ⟨K9, hK10, hw⟩ := jn_open hw
    refine w_join (K := K9) 38 (fun (x7 : Unit) => [(2, .int x1), (1, .int a1), (0, .ref h0)]) (fun (x7 : Unit) => []) hl hH (fun x7 σ8 ls H locs hl hw hH => ?_) (fun jn11 => ?_)
    · have hw := hK10 x7 σ8 hw
      have hl : lv_has ls 3 [(2, .int x1), (1, .int a1), (0, .ref h0)] := hl
      obtain ⟨z12, ez12⟩ : ∃ z : Int32, z = x1 + 1 := ⟨_, rfl⟩
      have hw := hw z12 ez12
      refine lv_iinc (lv' := [(2, .int z12), (1, .int a1), (0, .ref h0)]) (k := 0) (v := z12) hx hb dX12_redo_38 hl rfl ez12.symm (by decide) rfl (fun ls hl => ?_)
      refine lv_goto (tgt := 2) hx hb dX12_redo_41 rfl ?_
      exact ih4 z12 σ8 ls _ _ hl hw hH
    · skip
      refine w_icmp_ne (tgt := 38) hF dX12_redo_17 rfl hw (fun hw => ?_) (fun hw => ?_)
      · exact jn11 () σ2 ls _ _ hl hw hH
      · refine lv_aload_n hx hb dX12_redo_20 rfl (lv_at hl 2 rfl) ?_
        refine w_getA 70 hF hH fk_X12_226 dX12_redo_21 (by decide) rfl ?_
        refine lv_iload_n hx hb dX12_redo_24 rfl (lv_at hl 0 rfl) ?_
        refine w_iald 70 16 hF hH dX12_redo_25 (by decide) rfl rfl hw (fun z13 hw => ?_)
        refine lv_iload_n hx hb dX12_redo_26 rfl (lv_at hl 1 rfl) ?_
        refine w_icmp_ne (tgt := 38) hF dX12_redo_27 rfl hw (fun hw => ?_) (fun hw => ?_)
        · exact jn11 () σ2 ls _ _ hl hw hH
        · refine lv_aload_n hx hb dX12_redo_30 rfl (lv_at hl 2 rfl) ?_
          refine lv_iload_n hx hb dX12_redo_31 rfl (lv_at hl 0 rfl) ?_
          refine w_cVi (As := [.int x1]) (rest := []) hF hH hA mv_X12_589 (fun sz => c_X12_again l D t h0 L _ hH.2 x1 _ hw sz) dX12_redo_32 rfl rfl (by decide) rfl hl.1 (Nat.le_of_ble_eq_true rfl) (by decide) rfl (fun z15 σ14 H locs hw hH => ?_)
          refine w_if_ne (tgt := 2) hF dX12_redo_35 rfl hw (fun hw => ?_) (fun hw => ?_)
          · exact ih4 x1 σ14 ls _ _ hl hw hH
          · exact jn11 () σ14 ls _ _ hl hw hH
def F_X12_closes (h0 : Nat) (L : Nat → Nat) (a1 : Int32) (post : HS → Prop) (σ : HS) : Prop := (0 ≤ a1.toInt ∧ a1.toInt < 40) ∧ ∀ z1 : Int64, z1 = sJ σ (L 41) a1.toInt.toNat → (0 ≤ a1.toInt ∧ a1.toInt < 40) ∧ ∀ z2 : Int32, z2 = sI σ (L 43) a1.toInt.toNat → lw (fun (K5 : Int32 → HS → Prop) (x3 : Int32) (σ4 : HS) => ∀ z7 : Int32, z7 = sI σ4 h0 69 → ((z7.toInt ≤ x3.toInt) → ∀ z8 : Int32, z8 = sI σ4 h0 63 → ∀ z9 : Int32, z9 = z8 - 1 → lw (fun (K12 : Int32 → HS → Prop) (x10 : Int32) (σ11 : HS) => ((x10.toInt < 0) → (0 ≤ a1.toInt ∧ a1.toInt < 40) ∧ ∀ z14 : Int32, z14 = sI σ11 (L 50) a1.toInt.toNat → jn (fun (K17 : Unit → HS → Prop) => ((z14.toInt = 0) → K17 () σ11) ∧ ((¬ z14.toInt = 0) → (0 ≤ z2.toInt ∧ z2.toInt < 80) ∧ ∀ σ48 : HS, σ48 = h_uI σ11 (L 10) z2.toInt.toNat (vp_nar .boolean 1) → K17 () σ48)) (fun (x15 : Unit) (σ16 : HS) => (0 ≤ a1.toInt ∧ a1.toInt < 40) ∧ ∀ σ20 : HS, σ20 = h_uJ σ16 (L 41) a1.toInt.toNat 0 → F_X12_isOpened h0 L z2 (fun (z22 : Int32) (σ21 : HS) => jn (fun (K25 : Unit → HS → Prop) => ((¬ z22.toInt = 0) → K25 () σ21) ∧ ((z22.toInt = 0) → (0 ≤ z2.toInt ∧ z2.toInt < 80) ∧ ∀ z34 : Int32, z34 = sI σ21 (L 10) z2.toInt.toNat → ((z34.toInt = 0) → K25 () σ21) ∧ ((¬ z34.toInt = 0) → (0 ≤ z2.toInt ∧ z2.toInt < 80) ∧ ∀ σ35 : HS, σ35 = h_uI σ21 (L 10) z2.toInt.toNat (vp_nar .boolean 0) → (0 ≤ z2.toInt ∧ z2.toInt < 160) ∧ ∀ z36 : Int32, z36 = sI σ35 (L 3) z2.toInt.toNat → jn (fun (K39 : Unit → HS → Prop) => ((z36.toInt = 0) → K39 () σ35) ∧ ((¬ z36.toInt = 0) → F_X12_isEmpty h0 L z2 (fun (z47 : Int32) (σ46 : HS) => ((z47.toInt = 0) → K25 () σ46) ∧ ((¬ z47.toInt = 0) → K39 () σ46)) σ35)) (fun (x37 : Unit) (σ38 : HS) => F_X12_record h0 L 5 z2 (fun (z43 : Int32) (σ42 : HS) => F_X12_done h0 L  (fun (σ44 : HS) => K25 () σ44) σ42) σ38)))) (fun (x23 : Unit) (σ24 : HS) => F_X12_allCome h0 L  (fun (σ28 : HS) => F_X12_lookLocks h0 L  (fun (σ30 : HS) => F_X12_redo h0 L z2 (fun (σ32 : HS) => post σ32) σ30) σ28) σ24)) σ20)) ∧ ((0 ≤ x10.toInt) → (0 ≤ x10.toInt ∧ x10.toInt < 80) ∧ ∀ z49 : Int64, z49 = sJ σ11 (L 56) x10.toInt.toNat → jn (fun (K52 : Unit → HS → Prop) => ((¬ z49.toInt = z1.toInt) → K52 () σ11) ∧ ((z49.toInt = z1.toInt) → F_X12_unlock h0 L x10 (fun (σ56 : HS) => K52 () σ56) σ11)) (fun (x50 : Unit) (σ51 : HS) => ∀ z55 : Int32, z55 = x10 + (-1) → K12 z55 σ51))) z9 σ4) ∧ ((x3.toInt < z7.toInt) → (0 ≤ x3.toInt ∧ x3.toInt < 16) ∧ ∀ z58 : Int32, z58 = sI σ4 (L 62) x3.toInt.toNat → jn (fun (K61 : Unit → HS → Prop) => ((¬ z58.toInt = (10 : Int32).toInt) → K61 () σ4) ∧ ((z58.toInt = (10 : Int32).toInt) → (0 ≤ x3.toInt ∧ x3.toInt < 16) ∧ ∀ z65 : Int64, z65 = sJ σ4 (L 69) x3.toInt.toNat → ((¬ z65.toInt = z1.toInt) → K61 () σ4) ∧ ((z65.toInt = z1.toInt) → F_X12_give h0 L x3 3221225760 (fun (σ66 : HS) => K5 x3 σ66) σ4))) (fun (x59 : Unit) (σ60 : HS) => ∀ z64 : Int32, z64 = x3 + 1 → K5 z64 σ60))) 0 σ
theorem dX12_closes_0 : decode cX12_closes 0 = .ok (.aload_n 0, 1) := by decide +kernel
theorem dX12_closes_1 : decode cX12_closes 1 = .ok (.getfield 139, 3) := by decide +kernel
theorem dX12_closes_4 : decode cX12_closes 4 = .ok (.iload_n 1, 1) := by decide +kernel
theorem dX12_closes_5 : decode cX12_closes 5 = .ok (.laload, 1) := by decide +kernel
theorem dX12_closes_6 : decode cX12_closes 6 = .ok (.lstore_n 2, 1) := by decide +kernel
theorem dX12_closes_7 : decode cX12_closes 7 = .ok (.aload_n 0, 1) := by decide +kernel
theorem dX12_closes_8 : decode cX12_closes 8 = .ok (.getfield 145, 3) := by decide +kernel
theorem dX12_closes_11 : decode cX12_closes 11 = .ok (.iload_n 1, 1) := by decide +kernel
theorem dX12_closes_12 : decode cX12_closes 12 = .ok (.iaload, 1) := by decide +kernel
theorem dX12_closes_13 : decode cX12_closes 13 = .ok (.istore 4, 2) := by decide +kernel
theorem dX12_closes_15 : decode cX12_closes 15 = .ok (.iconst 0, 1) := by decide +kernel
theorem dX12_closes_16 : decode cX12_closes 16 = .ok (.istore 5, 2) := by decide +kernel
theorem dX12_closes_18 : decode cX12_closes 18 = .ok (.iload 5, 2) := by decide +kernel
theorem dX12_closes_20 : decode cX12_closes 20 = .ok (.aload_n 0, 1) := by decide +kernel
theorem dX12_closes_21 : decode cX12_closes 21 = .ok (.getfield 292, 3) := by decide +kernel
theorem dX12_closes_24 : decode cX12_closes 24 = .ok (.if_icmp .ge 45, 3) := by decide +kernel
theorem dX12_closes_27 : decode cX12_closes 27 = .ok (.aload_n 0, 1) := by decide +kernel
theorem dX12_closes_28 : decode cX12_closes 28 = .ok (.getfield 202, 3) := by decide +kernel
theorem dX12_closes_31 : decode cX12_closes 31 = .ok (.iload 5, 2) := by decide +kernel
theorem dX12_closes_33 : decode cX12_closes 33 = .ok (.iaload, 1) := by decide +kernel
theorem dX12_closes_34 : decode cX12_closes 34 = .ok (.bipush 10, 2) := by decide +kernel
theorem dX12_closes_36 : decode cX12_closes 36 = .ok (.if_icmp .ne 27, 3) := by decide +kernel
theorem dX12_closes_39 : decode cX12_closes 39 = .ok (.aload_n 0, 1) := by decide +kernel
theorem dX12_closes_40 : decode cX12_closes 40 = .ok (.getfield 223, 3) := by decide +kernel
theorem dX12_closes_43 : decode cX12_closes 43 = .ok (.iload 5, 2) := by decide +kernel
theorem dX12_closes_45 : decode cX12_closes 45 = .ok (.laload, 1) := by decide +kernel
theorem dX12_closes_46 : decode cX12_closes 46 = .ok (.lload_n 2, 1) := by decide +kernel
theorem dX12_closes_47 : decode cX12_closes 47 = .ok (.lcmp, 1) := by decide +kernel
theorem dX12_closes_48 : decode cX12_closes 48 = .ok (.ifCond .ne 15, 3) := by decide +kernel
theorem dX12_closes_51 : decode cX12_closes 51 = .ok (.aload_n 0, 1) := by decide +kernel
theorem dX12_closes_52 : decode cX12_closes 52 = .ok (.iload 5, 2) := by decide +kernel
theorem dX12_closes_54 : decode cX12_closes 54 = .ok (.ldc2_w 584, 3) := by decide +kernel
theorem dX12_closes_57 : decode cX12_closes 57 = .ok (.invokevirtual 586, 3) := by decide +kernel
theorem dX12_closes_60 : decode cX12_closes 60 = .ok (.goto (-42), 3) := by decide +kernel
theorem dX12_closes_63 : decode cX12_closes 63 = .ok (.iinc 5 1, 3) := by decide +kernel
theorem dX12_closes_66 : decode cX12_closes 66 = .ok (.goto (-48), 3) := by decide +kernel
theorem dX12_closes_69 : decode cX12_closes 69 = .ok (.aload_n 0, 1) := by decide +kernel
theorem dX12_closes_70 : decode cX12_closes 70 = .ok (.getfield 289, 3) := by decide +kernel
theorem dX12_closes_73 : decode cX12_closes 73 = .ok (.iconst 1, 1) := by decide +kernel
theorem dX12_closes_74 : decode cX12_closes 74 = .ok (.isub, 1) := by decide +kernel
theorem dX12_closes_75 : decode cX12_closes 75 = .ok (.istore 6, 2) := by decide +kernel
theorem dX12_closes_77 : decode cX12_closes 77 = .ok (.iload 6, 2) := by decide +kernel
theorem dX12_closes_79 : decode cX12_closes 79 = .ok (.ifCond .lt 27, 3) := by decide +kernel
theorem dX12_closes_82 : decode cX12_closes 82 = .ok (.aload_n 0, 1) := by decide +kernel
theorem dX12_closes_83 : decode cX12_closes 83 = .ok (.getfield 184, 3) := by decide +kernel
theorem dX12_closes_86 : decode cX12_closes 86 = .ok (.iload 6, 2) := by decide +kernel
theorem dX12_closes_88 : decode cX12_closes 88 = .ok (.laload, 1) := by decide +kernel
theorem dX12_closes_89 : decode cX12_closes 89 = .ok (.lload_n 2, 1) := by decide +kernel
theorem dX12_closes_90 : decode cX12_closes 90 = .ok (.lcmp, 1) := by decide +kernel
theorem dX12_closes_91 : decode cX12_closes 91 = .ok (.ifCond .ne 9, 3) := by decide +kernel
theorem dX12_closes_94 : decode cX12_closes 94 = .ok (.aload_n 0, 1) := by decide +kernel
theorem dX12_closes_95 : decode cX12_closes 95 = .ok (.iload 6, 2) := by decide +kernel
theorem dX12_closes_97 : decode cX12_closes 97 = .ok (.invokevirtual 751, 3) := by decide +kernel
theorem dX12_closes_100 : decode cX12_closes 100 = .ok (.iinc 6 (-1), 3) := by decide +kernel
theorem dX12_closes_103 : decode cX12_closes 103 = .ok (.goto (-26), 3) := by decide +kernel
theorem dX12_closes_106 : decode cX12_closes 106 = .ok (.aload_n 0, 1) := by decide +kernel
theorem dX12_closes_107 : decode cX12_closes 107 = .ok (.getfield 166, 3) := by decide +kernel
theorem dX12_closes_110 : decode cX12_closes 110 = .ok (.iload_n 1, 1) := by decide +kernel
theorem dX12_closes_111 : decode cX12_closes 111 = .ok (.baload, 1) := by decide +kernel
theorem dX12_closes_112 : decode cX12_closes 112 = .ok (.ifCond .eq 11, 3) := by decide +kernel
theorem dX12_closes_115 : decode cX12_closes 115 = .ok (.aload_n 0, 1) := by decide +kernel
theorem dX12_closes_116 : decode cX12_closes 116 = .ok (.getfield 44, 3) := by decide +kernel
theorem dX12_closes_119 : decode cX12_closes 119 = .ok (.iload 4, 2) := by decide +kernel
theorem dX12_closes_121 : decode cX12_closes 121 = .ok (.iconst 1, 1) := by decide +kernel
theorem dX12_closes_122 : decode cX12_closes 122 = .ok (.bastore, 1) := by decide +kernel
theorem dX12_closes_123 : decode cX12_closes 123 = .ok (.aload_n 0, 1) := by decide +kernel
theorem dX12_closes_124 : decode cX12_closes 124 = .ok (.getfield 139, 3) := by decide +kernel
theorem dX12_closes_127 : decode cX12_closes 127 = .ok (.iload_n 1, 1) := by decide +kernel
theorem dX12_closes_128 : decode cX12_closes 128 = .ok (.lconst 0, 1) := by decide +kernel
theorem dX12_closes_129 : decode cX12_closes 129 = .ok (.lastore, 1) := by decide +kernel
theorem dX12_closes_130 : decode cX12_closes 130 = .ok (.aload_n 0, 1) := by decide +kernel
theorem dX12_closes_131 : decode cX12_closes 131 = .ok (.iload 4, 2) := by decide +kernel
theorem dX12_closes_133 : decode cX12_closes 133 = .ok (.invokevirtual 746, 3) := by decide +kernel
theorem dX12_closes_136 : decode cX12_closes 136 = .ok (.ifCond .ne 52, 3) := by decide +kernel
theorem dX12_closes_139 : decode cX12_closes 139 = .ok (.aload_n 0, 1) := by decide +kernel
theorem dX12_closes_140 : decode cX12_closes 140 = .ok (.getfield 44, 3) := by decide +kernel
theorem dX12_closes_143 : decode cX12_closes 143 = .ok (.iload 4, 2) := by decide +kernel
theorem dX12_closes_145 : decode cX12_closes 145 = .ok (.baload, 1) := by decide +kernel
theorem dX12_closes_146 : decode cX12_closes 146 = .ok (.ifCond .eq 42, 3) := by decide +kernel
theorem dX12_closes_149 : decode cX12_closes 149 = .ok (.aload_n 0, 1) := by decide +kernel
theorem dX12_closes_150 : decode cX12_closes 150 = .ok (.getfield 44, 3) := by decide +kernel
theorem dX12_closes_153 : decode cX12_closes 153 = .ok (.iload 4, 2) := by decide +kernel
theorem dX12_closes_155 : decode cX12_closes 155 = .ok (.iconst 0, 1) := by decide +kernel
theorem dX12_closes_156 : decode cX12_closes 156 = .ok (.bastore, 1) := by decide +kernel
theorem dX12_closes_157 : decode cX12_closes 157 = .ok (.aload_n 0, 1) := by decide +kernel
theorem dX12_closes_158 : decode cX12_closes 158 = .ok (.getfield 21, 3) := by decide +kernel
theorem dX12_closes_161 : decode cX12_closes 161 = .ok (.iload 4, 2) := by decide +kernel
theorem dX12_closes_163 : decode cX12_closes 163 = .ok (.baload, 1) := by decide +kernel
theorem dX12_closes_164 : decode cX12_closes 164 = .ok (.ifCond .eq 12, 3) := by decide +kernel
theorem dX12_closes_167 : decode cX12_closes 167 = .ok (.aload_n 0, 1) := by decide +kernel
theorem dX12_closes_168 : decode cX12_closes 168 = .ok (.iload 4, 2) := by decide +kernel
theorem dX12_closes_170 : decode cX12_closes 170 = .ok (.invokevirtual 754, 3) := by decide +kernel
theorem dX12_closes_173 : decode cX12_closes 173 = .ok (.ifCond .eq 15, 3) := by decide +kernel
theorem dX12_closes_176 : decode cX12_closes 176 = .ok (.aload_n 0, 1) := by decide +kernel
theorem dX12_closes_177 : decode cX12_closes 177 = .ok (.iconst 5, 1) := by decide +kernel
theorem dX12_closes_178 : decode cX12_closes 178 = .ok (.iload 4, 2) := by decide +kernel
theorem dX12_closes_180 : decode cX12_closes 180 = .ok (.invokevirtual 734, 3) := by decide +kernel
theorem dX12_closes_183 : decode cX12_closes 183 = .ok (.pop, 1) := by decide +kernel
theorem dX12_closes_184 : decode cX12_closes 184 = .ok (.aload_n 0, 1) := by decide +kernel
theorem dX12_closes_185 : decode cX12_closes 185 = .ok (.invokevirtual 737, 3) := by decide +kernel
theorem dX12_closes_188 : decode cX12_closes 188 = .ok (.aload_n 0, 1) := by decide +kernel
theorem dX12_closes_189 : decode cX12_closes 189 = .ok (.invokevirtual 278, 3) := by decide +kernel
theorem dX12_closes_192 : decode cX12_closes 192 = .ok (.aload_n 0, 1) := by decide +kernel
theorem dX12_closes_193 : decode cX12_closes 193 = .ok (.invokevirtual 757, 3) := by decide +kernel
theorem dX12_closes_196 : decode cX12_closes 196 = .ok (.aload_n 0, 1) := by decide +kernel
theorem dX12_closes_197 : decode cX12_closes 197 = .ok (.iload 4, 2) := by decide +kernel
theorem dX12_closes_199 : decode cX12_closes 199 = .ok (.invokevirtual 760, 3) := by decide +kernel
theorem dX12_closes_202 : decode cX12_closes 202 = .ok (.return_, 1) := by decide +kernel
set_option maxRecDepth 100000 in
set_option maxHeartbeats 4000000 in
theorem c_X12_closes (l : Launch) (D : va_G) (t : Nat → ClassId) (h0 : Nat) (L : Nat → Nat) (σ : HS) (hM : MdI h0 L σ) (a1 : Int32) (post : HS → Prop) (hw : F_X12_closes h0 L a1 post σ) (sz : Nat) : RMv l D t yX12_closes cX12_closes 7 ({ frames := 9, cells := 0, slots := 0, locals := 239 }) h0 L σ sz [.ref h0, .int a1] post := by
  refine h_go (τ := τT) okT (by decide) (Nat.le_of_ble_eq_true rfl) ?_
  intro p e s m below meth c ls A hF hr hlk hAe hH0 hA hl
  unfold hB
  rw [hAe]
  clear hAe
  have hF : FX p m c cX12_closes 7 s _ RX12 D t := hF
  have hx := hF.1.1
  have hb := hF.1.2.1
  have hH : RT D t A s.heap h0 L σ s.heap [] := ⟨hH0, hM⟩
  have hl : lv_has ls 7 [(0, .ref h0), (1, .int a1)] := hl
  unfold F_X12_closes at hw
  refine lv_aload_n hx hb dX12_closes_0 rfl (lv_at hl 0 rfl) ?_
  refine w_getA 41 hF hH fk_X12_139 dX12_closes_1 (by decide) rfl ?_
  refine lv_iload_n hx hb dX12_closes_4 rfl (lv_at hl 1 rfl) ?_
  refine w_lald 41 40 hF hH dX12_closes_5 (by decide) rfl rfl hw (fun z1 hw => ?_)
  refine lv_lstore_n (lv' := [(2, .long z1), (0, .ref h0), (1, .int a1)]) hx hb dX12_closes_6 rfl hl (by decide) rfl (fun ls hl => ?_)
  refine lv_aload_n hx hb dX12_closes_7 rfl (lv_at hl 1 rfl) ?_
  refine w_getA 43 hF hH fk_X12_145 dX12_closes_8 (by decide) rfl ?_
  refine lv_iload_n hx hb dX12_closes_11 rfl (lv_at hl 2 rfl) ?_
  refine w_iald 43 40 hF hH dX12_closes_12 (by decide) rfl rfl hw (fun z2 hw => ?_)
  refine lv_istore (lv' := [(4, .int z2), (2, .long z1), (0, .ref h0), (1, .int a1)]) hx hb dX12_closes_13 hl (by decide) rfl (fun ls hl => ?_)
  refine lv_iconst (v := 0) hx hb dX12_closes_15 (by decide) ?_
  refine lv_istore (lv' := [(5, .int 0), (4, .int z2), (2, .long z1), (0, .ref h0), (1, .int a1)]) hx hb dX12_closes_16 hl (by decide) rfl (fun ls hl => ?_)
  have hl : lv_has ls 7 [(5, .int 0), (4, .int z2), (2, .long z1), (1, .int a1), (0, .ref h0)] := lv_sub hl [0, 1, 2, 4, 3] rfl
  refine w_loop (β := Int32) (fun x3 => [(5, .int x3), (4, .int z2), (2, .long z1), (1, .int a1), (0, .ref h0)]) 0 hl hw hH (fun K5 x3 σ4 ls H locs hl hw hH ih6 => ?_)
  have hl : lv_has ls 7 [(5, .int x3), (4, .int z2), (2, .long z1), (1, .int a1), (0, .ref h0)] := hl
  refine lv_iload hx hb dX12_closes_18 (lv_at hl 0 rfl) ?_
  refine lv_aload_n hx hb dX12_closes_20 rfl (lv_at hl 4 rfl) ?_
  refine w_getI hF hH fk_X12_292 dX12_closes_21 hw (fun z7 hw => ?_)
  refine w_icmp_ge (tgt := 69) hF dX12_closes_24 rfl hw (fun hw => ?_) (fun hw => ?_)
  · refine lv_aload_n hx hb dX12_closes_69 rfl (lv_at hl 4 rfl) ?_
    refine w_getI hF hH fk_X12_289 dX12_closes_70 hw (fun z8 hw => ?_)
    refine lv_iconst (v := 1) hx hb dX12_closes_73 (by decide) ?_
    refine lv_isub hx hb dX12_closes_74 ?_
    refine w_nmi hw (fun z9 hw => ?_)
    refine lv_istore (lv' := [(6, .int z9), (5, .int x3), (4, .int z2), (2, .long z1), (1, .int a1), (0, .ref h0)]) hx hb dX12_closes_75 hl (by decide) rfl (fun ls hl => ?_)
    have hl : lv_has ls 7 [(6, .int z9), (4, .int z2), (2, .long z1), (1, .int a1), (0, .ref h0)] := lv_sub hl [0, 2, 3, 4, 5] rfl
    refine w_loop (β := Int32) (fun x10 => [(6, .int x10), (4, .int z2), (2, .long z1), (1, .int a1), (0, .ref h0)]) z9 hl hw hH (fun K12 x10 σ11 ls H locs hl hw hH ih13 => ?_)
    have hl : lv_has ls 7 [(6, .int x10), (4, .int z2), (2, .long z1), (1, .int a1), (0, .ref h0)] := hl
    refine lv_iload hx hb dX12_closes_77 (lv_at hl 0 rfl) ?_
    refine w_if_lt (tgt := 106) hF dX12_closes_79 rfl hw (fun hw => ?_) (fun hw => ?_)
    · refine lv_aload_n hx hb dX12_closes_106 rfl (lv_at hl 4 rfl) ?_
      refine w_getA 50 hF hH fk_X12_166 dX12_closes_107 (by decide) rfl ?_
      refine lv_iload_n hx hb dX12_closes_110 rfl (lv_at hl 3 rfl) ?_
      refine w_zald 50 40 hF hH dX12_closes_111 (by decide) rfl rfl hw (fun z14 hw => ?_)
      obtain ⟨K17, hK18, hw⟩ := jn_open hw
      refine w_join (K := K17) 123 (fun (x15 : Unit) => [(4, .int z2), (1, .int a1), (0, .ref h0)]) (fun (x15 : Unit) => []) hl hH (fun x15 σ16 ls H locs hl hw hH => ?_) (fun jn19 => ?_)
      · have hw := hK18 x15 σ16 hw
        have hl : lv_has ls 7 [(4, .int z2), (1, .int a1), (0, .ref h0)] := hl
        refine lv_aload_n hx hb dX12_closes_123 rfl (lv_at hl 2 rfl) ?_
        refine w_getA 41 hF hH fk_X12_139 dX12_closes_124 (by decide) rfl ?_
        refine lv_iload_n hx hb dX12_closes_127 rfl (lv_at hl 1 rfl) ?_
        refine lv_lconst (v := 0) hx hb dX12_closes_128 (by decide) ?_
        refine w_last 41 40 hF hH dX12_closes_129 (by decide) rfl rfl hw (fun σ20 H locs hw hH => ?_)
        refine lv_aload_n hx hb dX12_closes_130 rfl (lv_at hl 2 rfl) ?_
        refine lv_iload hx hb dX12_closes_131 (lv_at hl 0 rfl) ?_
        refine w_cVi (As := [.int z2]) (rest := []) hF hH hA mv_X12_746 (fun sz => c_X12_isOpened l D t h0 L _ hH.2 z2 _ hw sz) dX12_closes_133 rfl rfl (by decide) rfl hl.1 (Nat.le_of_ble_eq_true rfl) (by decide) rfl (fun z22 σ21 H locs hw hH => ?_)
        obtain ⟨K25, hK26, hw⟩ := jn_open hw
        refine w_join (K := K25) 188 (fun (x23 : Unit) => [(4, .int z2), (0, .ref h0)]) (fun (x23 : Unit) => []) hl hH (fun x23 σ24 ls H locs hl hw hH => ?_) (fun jn27 => ?_)
        · have hw := hK26 x23 σ24 hw
          have hl : lv_has ls 7 [(4, .int z2), (0, .ref h0)] := hl
          refine lv_aload_n hx hb dX12_closes_188 rfl (lv_at hl 1 rfl) ?_
          refine w_cVv (As := []) (rest := []) hF hH hA mv_X12_278 (fun sz => c_X12_allCome l D t h0 L _ hH.2  _ hw sz) dX12_closes_189 rfl rfl (by decide) rfl hl.1 (Nat.le_of_ble_eq_true rfl) (by decide) rfl (fun σ28 H locs hw hH => ?_)
          refine lv_aload_n hx hb dX12_closes_192 rfl (lv_at hl 1 rfl) ?_
          refine w_cVv (As := []) (rest := []) hF hH hA mv_X12_757 (fun sz => c_X12_lookLocks l D t h0 L _ hH.2  _ hw sz) dX12_closes_193 rfl rfl (by decide) rfl hl.1 (Nat.le_of_ble_eq_true rfl) (by decide) rfl (fun σ30 H locs hw hH => ?_)
          refine lv_aload_n hx hb dX12_closes_196 rfl (lv_at hl 1 rfl) ?_
          refine lv_iload hx hb dX12_closes_197 (lv_at hl 0 rfl) ?_
          refine w_cVv (As := [.int z2]) (rest := []) hF hH hA mv_X12_760 (fun sz => c_X12_redo l D t h0 L _ hH.2 z2 _ hw sz) dX12_closes_199 rfl rfl (by decide) rfl hl.1 (Nat.le_of_ble_eq_true rfl) (by decide) rfl (fun σ32 H locs hw hH => ?_)
          exact w_retv hF hH hr hlk dX12_closes_202 hw
        · skip
          refine w_if_ne (tgt := 188) hF dX12_closes_136 rfl hw (fun hw => ?_) (fun hw => ?_)
          · have hl : lv_has ls 7 [(4, .int z2), (0, .ref h0)] := lv_sub hl [0, 2] rfl
            exact jn27 () σ21 ls _ _ hl hw hH
          · refine lv_aload_n hx hb dX12_closes_139 rfl (lv_at hl 2 rfl) ?_
            refine w_getA 10 hF hH fk_X12_44 dX12_closes_140 (by decide) rfl ?_
            refine lv_iload hx hb dX12_closes_143 (lv_at hl 0 rfl) ?_
            refine w_zald 10 80 hF hH dX12_closes_145 (by decide) rfl rfl hw (fun z34 hw => ?_)
            refine w_if_eq (tgt := 188) hF dX12_closes_146 rfl hw (fun hw => ?_) (fun hw => ?_)
            · have hl : lv_has ls 7 [(4, .int z2), (0, .ref h0)] := lv_sub hl [0, 2] rfl
              exact jn27 () σ21 ls _ _ hl hw hH
            · refine lv_aload_n hx hb dX12_closes_149 rfl (lv_at hl 2 rfl) ?_
              refine w_getA 10 hF hH fk_X12_44 dX12_closes_150 (by decide) rfl ?_
              refine lv_iload hx hb dX12_closes_153 (lv_at hl 0 rfl) ?_
              refine lv_iconst (v := 0) hx hb dX12_closes_155 (by decide) ?_
              refine w_zast 10 80 hF hH dX12_closes_156 (by decide) rfl rfl hw (fun σ35 H locs hw hH => ?_)
              refine lv_aload_n hx hb dX12_closes_157 rfl (lv_at hl 2 rfl) ?_
              refine w_getA 3 hF hH fk_X12_21 dX12_closes_158 (by decide) rfl ?_
              refine lv_iload hx hb dX12_closes_161 (lv_at hl 0 rfl) ?_
              refine w_zald 3 160 hF hH dX12_closes_163 (by decide) rfl rfl hw (fun z36 hw => ?_)
              obtain ⟨K39, hK40, hw⟩ := jn_open hw
              refine w_join (K := K39) 176 (fun (x37 : Unit) => [(4, .int z2), (0, .ref h0)]) (fun (x37 : Unit) => []) hl hH (fun x37 σ38 ls H locs hl hw hH => ?_) (fun jn41 => ?_)
              · have hw := hK40 x37 σ38 hw
                have hl : lv_has ls 7 [(4, .int z2), (0, .ref h0)] := hl
                refine lv_aload_n hx hb dX12_closes_176 rfl (lv_at hl 1 rfl) ?_
                refine lv_iconst (v := 5) hx hb dX12_closes_177 (by decide) ?_
                refine lv_iload hx hb dX12_closes_178 (lv_at hl 0 rfl) ?_
                refine w_cVi (As := [.int 5, .int z2]) (rest := []) hF hH hA mv_X12_734 (fun sz => c_X12_record l D t h0 L _ hH.2 5 z2 _ hw sz) dX12_closes_180 rfl rfl (by decide) rfl hl.1 (Nat.le_of_ble_eq_true rfl) (by decide) rfl (fun z43 σ42 H locs hw hH => ?_)
                refine lv_pop hx hb dX12_closes_183 rfl ?_
                refine lv_aload_n hx hb dX12_closes_184 rfl (lv_at hl 1 rfl) ?_
                refine w_cVv (As := []) (rest := []) hF hH hA mv_X12_737 (fun sz => c_X12_done l D t h0 L _ hH.2  _ hw sz) dX12_closes_185 rfl rfl (by decide) rfl hl.1 (Nat.le_of_ble_eq_true rfl) (by decide) rfl (fun σ44 H locs hw hH => ?_)
                exact jn27 () σ44 ls _ _ hl hw hH
              · skip
                refine w_if_eq (tgt := 176) hF dX12_closes_164 rfl hw (fun hw => ?_) (fun hw => ?_)
                · have hl : lv_has ls 7 [(4, .int z2), (0, .ref h0)] := lv_sub hl [0, 2] rfl
                  exact jn41 () σ35 ls _ _ hl hw hH
                · refine lv_aload_n hx hb dX12_closes_167 rfl (lv_at hl 2 rfl) ?_
                  refine lv_iload hx hb dX12_closes_168 (lv_at hl 0 rfl) ?_
                  refine w_cVi (As := [.int z2]) (rest := []) hF hH hA mv_X12_754 (fun sz => c_X12_isEmpty l D t h0 L _ hH.2 z2 _ hw sz) dX12_closes_170 rfl rfl (by decide) rfl hl.1 (Nat.le_of_ble_eq_true rfl) (by decide) rfl (fun z47 σ46 H locs hw hH => ?_)
                  refine w_if_eq (tgt := 188) hF dX12_closes_173 rfl hw (fun hw => ?_) (fun hw => ?_)
                  · have hl : lv_has ls 7 [(4, .int z2), (0, .ref h0)] := lv_sub hl [0, 2] rfl
                    exact jn27 () σ46 ls _ _ hl hw hH
                  · have hl : lv_has ls 7 [(4, .int z2), (0, .ref h0)] := lv_sub hl [0, 2] rfl
                    exact jn41 () σ46 ls _ _ hl hw hH
      · skip
        refine w_if_eq (tgt := 123) hF dX12_closes_112 rfl hw (fun hw => ?_) (fun hw => ?_)
        · have hl : lv_has ls 7 [(4, .int z2), (1, .int a1), (0, .ref h0)] := lv_sub hl [1, 3, 4] rfl
          exact jn19 () σ11 ls _ _ hl hw hH
        · refine lv_aload_n hx hb dX12_closes_115 rfl (lv_at hl 4 rfl) ?_
          refine w_getA 10 hF hH fk_X12_44 dX12_closes_116 (by decide) rfl ?_
          refine lv_iload hx hb dX12_closes_119 (lv_at hl 1 rfl) ?_
          refine lv_iconst (v := 1) hx hb dX12_closes_121 (by decide) ?_
          refine w_zast 10 80 hF hH dX12_closes_122 (by decide) rfl rfl hw (fun σ48 H locs hw hH => ?_)
          have hl : lv_has ls 7 [(4, .int z2), (1, .int a1), (0, .ref h0)] := lv_sub hl [1, 3, 4] rfl
          exact jn19 () σ48 ls _ _ hl hw hH
    · refine lv_aload_n hx hb dX12_closes_82 rfl (lv_at hl 4 rfl) ?_
      refine w_getA 56 hF hH fk_X12_184 dX12_closes_83 (by decide) rfl ?_
      refine lv_iload hx hb dX12_closes_86 (lv_at hl 0 rfl) ?_
      refine w_lald 56 80 hF hH dX12_closes_88 (by decide) rfl rfl hw (fun z49 hw => ?_)
      refine lv_lload_n hx hb dX12_closes_89 rfl (lv_at hl 2 rfl) ?_
      obtain ⟨K52, hK53, hw⟩ := jn_open hw
      refine w_join (K := K52) 100 (fun (x50 : Unit) => [(6, .int x10), (4, .int z2), (2, .long z1), (1, .int a1), (0, .ref h0)]) (fun (x50 : Unit) => []) hl hH (fun x50 σ51 ls H locs hl hw hH => ?_) (fun jn54 => ?_)
      · have hw := hK53 x50 σ51 hw
        have hl : lv_has ls 7 [(6, .int x10), (4, .int z2), (2, .long z1), (1, .int a1), (0, .ref h0)] := hl
        obtain ⟨z55, ez55⟩ : ∃ z : Int32, z = x10 + (-1) := ⟨_, rfl⟩
        have hw := hw z55 ez55
        refine lv_iinc (lv' := [(6, .int z55), (4, .int z2), (2, .long z1), (1, .int a1), (0, .ref h0)]) (k := 0) (v := z55) hx hb dX12_closes_100 hl rfl ez55.symm (by decide) rfl (fun ls hl => ?_)
        refine lv_goto (tgt := 77) hx hb dX12_closes_103 rfl ?_
        exact ih13 z55 σ51 ls _ _ hl hw hH
      · skip
        refine w_lif_ne (tgt := 100) hF dX12_closes_90 dX12_closes_91 rfl hw (fun hw => ?_) (fun hw => ?_)
        · exact jn54 () σ11 ls _ _ hl hw hH
        · refine lv_aload_n hx hb dX12_closes_94 rfl (lv_at hl 4 rfl) ?_
          refine lv_iload hx hb dX12_closes_95 (lv_at hl 0 rfl) ?_
          refine w_cVv (As := [.int x10]) (rest := []) hF hH hA mv_X12_751 (fun sz => c_X12_unlock l D t h0 L _ hH.2 x10 _ hw sz) dX12_closes_97 rfl rfl (by decide) rfl hl.1 (Nat.le_of_ble_eq_true rfl) (by decide) rfl (fun σ56 H locs hw hH => ?_)
          exact jn54 () σ56 ls _ _ hl hw hH
  · refine lv_aload_n hx hb dX12_closes_27 rfl (lv_at hl 4 rfl) ?_
    refine w_getA 62 hF hH fk_X12_202 dX12_closes_28 (by decide) rfl ?_
    refine lv_iload hx hb dX12_closes_31 (lv_at hl 0 rfl) ?_
    refine w_iald 62 16 hF hH dX12_closes_33 (by decide) rfl rfl hw (fun z58 hw => ?_)
    refine lv_bipush (v := 10) hx hb dX12_closes_34 (by decide) ?_
    obtain ⟨K61, hK62, hw⟩ := jn_open hw
    refine w_join (K := K61) 63 (fun (x59 : Unit) => [(5, .int x3), (4, .int z2), (2, .long z1), (1, .int a1), (0, .ref h0)]) (fun (x59 : Unit) => []) hl hH (fun x59 σ60 ls H locs hl hw hH => ?_) (fun jn63 => ?_)
    · have hw := hK62 x59 σ60 hw
      have hl : lv_has ls 7 [(5, .int x3), (4, .int z2), (2, .long z1), (1, .int a1), (0, .ref h0)] := hl
      obtain ⟨z64, ez64⟩ : ∃ z : Int32, z = x3 + 1 := ⟨_, rfl⟩
      have hw := hw z64 ez64
      refine lv_iinc (lv' := [(5, .int z64), (4, .int z2), (2, .long z1), (1, .int a1), (0, .ref h0)]) (k := 0) (v := z64) hx hb dX12_closes_63 hl rfl ez64.symm (by decide) rfl (fun ls hl => ?_)
      refine lv_goto (tgt := 18) hx hb dX12_closes_66 rfl ?_
      exact ih6 z64 σ60 ls _ _ hl hw hH
    · skip
      refine w_icmp_ne (tgt := 63) hF dX12_closes_36 rfl hw (fun hw => ?_) (fun hw => ?_)
      · exact jn63 () σ4 ls _ _ hl hw hH
      · refine lv_aload_n hx hb dX12_closes_39 rfl (lv_at hl 4 rfl) ?_
        refine w_getA 69 hF hH fk_X12_223 dX12_closes_40 (by decide) rfl ?_
        refine lv_iload hx hb dX12_closes_43 (lv_at hl 0 rfl) ?_
        refine w_lald 69 16 hF hH dX12_closes_45 (by decide) rfl rfl hw (fun z65 hw => ?_)
        refine lv_lload_n hx hb dX12_closes_46 rfl (lv_at hl 2 rfl) ?_
        refine w_lif_ne (tgt := 63) hF dX12_closes_47 dX12_closes_48 rfl hw (fun hw => ?_) (fun hw => ?_)
        · exact jn63 () σ4 ls _ _ hl hw hH
        · refine lv_aload_n hx hb dX12_closes_51 rfl (lv_at hl 4 rfl) ?_
          refine lv_iload hx hb dX12_closes_52 (lv_at hl 0 rfl) ?_
          refine lv_ldc2 (v := 3221225760) hx hb hF.1.2.2.2.1 (hF.1.2.2.2.2 _ (wc_48 6 rfl)) dX12_closes_54 ?_
          refine w_cVv (As := [.int x3, .long 3221225760]) (rest := []) hF hH hA mv_X12_586 (fun sz => c_X12_give l D t h0 L _ hH.2 x3 3221225760 _ hw sz) dX12_closes_57 rfl rfl (by decide) rfl hl.1 (Nat.le_of_ble_eq_true rfl) (by decide) rfl (fun σ66 H locs hw hH => ?_)
          refine lv_goto (tgt := 18) hx hb dX12_closes_60 rfl ?_
          exact ih6 x3 σ66 ls _ _ hl hw hH
def F_X12_endTree (h0 : Nat) (L : Nat → Nat) (a1 : Int32) (post : HS → Prop) (σ : HS) : Prop := ∀ z1 : Int32, z1 = sI σ h0 69 → ∀ z2 : Int32, z2 = z1 - 1 → lw (fun (K5 : Int32 → HS → Prop) (x3 : Int32) (σ4 : HS) => ((x3.toInt < 0) → F_X12_eldestOpen h0 L a1 (fun (z8 : Int32) (σ7 : HS) => lw (fun (K11 : Int32 → HS → Prop) (x9 : Int32) (σ10 : HS) => ((x9.toInt < 0) → (0 ≤ a1.toInt ∧ a1.toInt < 16) ∧ ∀ σ13 : HS, σ13 = h_uJ σ10 (L 38) a1.toInt.toNat 0 → post σ13) ∧ ((0 ≤ x9.toInt) → F_X12_closes h0 L x9 (fun (σ14 : HS) => F_X12_eldestOpen h0 L a1 (fun (z17 : Int32) (σ16 : HS) => K11 z17 σ16) σ14) σ10)) z8 σ7) σ4) ∧ ((0 ≤ x3.toInt) → (0 ≤ x3.toInt ∧ x3.toInt < 16) ∧ ∀ z18 : Int32, z18 = sI σ4 (L 68) x3.toInt.toNat → jn (fun (K21 : Unit → HS → Prop) => ((¬ z18.toInt = a1.toInt) → K21 () σ4) ∧ ((z18.toInt = a1.toInt) → F_X12_forget h0 L x3 (fun (σ25 : HS) => K21 () σ25) σ4)) (fun (x19 : Unit) (σ20 : HS) => ∀ z24 : Int32, z24 = x3 + (-1) → K5 z24 σ20))) z2 σ
theorem dX12_endTree_0 : decode cX12_endTree 0 = .ok (.aload_n 0, 1) := by decide +kernel
theorem dX12_endTree_1 : decode cX12_endTree 1 = .ok (.getfield 292, 3) := by decide +kernel
theorem dX12_endTree_4 : decode cX12_endTree 4 = .ok (.iconst 1, 1) := by decide +kernel
theorem dX12_endTree_5 : decode cX12_endTree 5 = .ok (.isub, 1) := by decide +kernel
theorem dX12_endTree_6 : decode cX12_endTree 6 = .ok (.istore_n 2, 1) := by decide +kernel
theorem dX12_endTree_7 : decode cX12_endTree 7 = .ok (.iload_n 2, 1) := by decide +kernel
theorem dX12_endTree_8 : decode cX12_endTree 8 = .ok (.ifCond .lt 24, 3) := by decide +kernel
theorem dX12_endTree_11 : decode cX12_endTree 11 = .ok (.aload_n 0, 1) := by decide +kernel
theorem dX12_endTree_12 : decode cX12_endTree 12 = .ok (.getfield 220, 3) := by decide +kernel
theorem dX12_endTree_15 : decode cX12_endTree 15 = .ok (.iload_n 2, 1) := by decide +kernel
theorem dX12_endTree_16 : decode cX12_endTree 16 = .ok (.iaload, 1) := by decide +kernel
theorem dX12_endTree_17 : decode cX12_endTree 17 = .ok (.iload_n 1, 1) := by decide +kernel
theorem dX12_endTree_18 : decode cX12_endTree 18 = .ok (.if_icmp .ne 8, 3) := by decide +kernel
theorem dX12_endTree_21 : decode cX12_endTree 21 = .ok (.aload_n 0, 1) := by decide +kernel
theorem dX12_endTree_22 : decode cX12_endTree 22 = .ok (.iload_n 2, 1) := by decide +kernel
theorem dX12_endTree_23 : decode cX12_endTree 23 = .ok (.invokevirtual 332, 3) := by decide +kernel
theorem dX12_endTree_26 : decode cX12_endTree 26 = .ok (.iinc 2 (-1), 3) := by decide +kernel
theorem dX12_endTree_29 : decode cX12_endTree 29 = .ok (.goto (-22), 3) := by decide +kernel
theorem dX12_endTree_32 : decode cX12_endTree 32 = .ok (.aload_n 0, 1) := by decide +kernel
theorem dX12_endTree_33 : decode cX12_endTree 33 = .ok (.iload_n 1, 1) := by decide +kernel
theorem dX12_endTree_34 : decode cX12_endTree 34 = .ok (.invokevirtual 347, 3) := by decide +kernel
theorem dX12_endTree_37 : decode cX12_endTree 37 = .ok (.istore_n 2, 1) := by decide +kernel
theorem dX12_endTree_38 : decode cX12_endTree 38 = .ok (.iload_n 2, 1) := by decide +kernel
theorem dX12_endTree_39 : decode cX12_endTree 39 = .ok (.ifCond .lt 17, 3) := by decide +kernel
theorem dX12_endTree_42 : decode cX12_endTree 42 = .ok (.aload_n 0, 1) := by decide +kernel
theorem dX12_endTree_43 : decode cX12_endTree 43 = .ok (.iload_n 2, 1) := by decide +kernel
theorem dX12_endTree_44 : decode cX12_endTree 44 = .ok (.invokevirtual 350, 3) := by decide +kernel
theorem dX12_endTree_47 : decode cX12_endTree 47 = .ok (.aload_n 0, 1) := by decide +kernel
theorem dX12_endTree_48 : decode cX12_endTree 48 = .ok (.iload_n 1, 1) := by decide +kernel
theorem dX12_endTree_49 : decode cX12_endTree 49 = .ok (.invokevirtual 347, 3) := by decide +kernel
theorem dX12_endTree_52 : decode cX12_endTree 52 = .ok (.istore_n 2, 1) := by decide +kernel
theorem dX12_endTree_53 : decode cX12_endTree 53 = .ok (.goto (-15), 3) := by decide +kernel
theorem dX12_endTree_56 : decode cX12_endTree 56 = .ok (.aload_n 0, 1) := by decide +kernel
theorem dX12_endTree_57 : decode cX12_endTree 57 = .ok (.getfield 130, 3) := by decide +kernel
theorem dX12_endTree_60 : decode cX12_endTree 60 = .ok (.iload_n 1, 1) := by decide +kernel
theorem dX12_endTree_61 : decode cX12_endTree 61 = .ok (.lconst 0, 1) := by decide +kernel
theorem dX12_endTree_62 : decode cX12_endTree 62 = .ok (.lastore, 1) := by decide +kernel
theorem dX12_endTree_63 : decode cX12_endTree 63 = .ok (.return_, 1) := by decide +kernel
set_option maxRecDepth 100000 in
set_option maxHeartbeats 4000000 in
theorem c_X12_endTree (l : Launch) (D : va_G) (t : Nat → ClassId) (h0 : Nat) (L : Nat → Nat) (σ : HS) (hM : MdI h0 L σ) (a1 : Int32) (post : HS → Prop) (hw : F_X12_endTree h0 L a1 post σ) (sz : Nat) : RMv l D t yX12_endTree cX12_endTree 3 ({ frames := 10, cells := 0, slots := 0, locals := 265 }) h0 L σ sz [.ref h0, .int a1] post := by
  refine h_go (τ := τT) okT (by decide) (Nat.le_of_ble_eq_true rfl) ?_
  intro p e s m below meth c ls A hF hr hlk hAe hH0 hA hl
  unfold hB
  rw [hAe]
  clear hAe
  have hF : FX p m c cX12_endTree 3 s _ RX12 D t := hF
  have hx := hF.1.1
  have hb := hF.1.2.1
  have hH : RT D t A s.heap h0 L σ s.heap [] := ⟨hH0, hM⟩
  have hl : lv_has ls 3 [(0, .ref h0), (1, .int a1)] := hl
  unfold F_X12_endTree at hw
  refine lv_aload_n hx hb dX12_endTree_0 rfl (lv_at hl 0 rfl) ?_
  refine w_getI hF hH fk_X12_292 dX12_endTree_1 hw (fun z1 hw => ?_)
  refine lv_iconst (v := 1) hx hb dX12_endTree_4 (by decide) ?_
  refine lv_isub hx hb dX12_endTree_5 ?_
  refine w_nmi hw (fun z2 hw => ?_)
  refine lv_istore_n (lv' := [(2, .int z2), (0, .ref h0), (1, .int a1)]) hx hb dX12_endTree_6 rfl hl (by decide) rfl (fun ls hl => ?_)
  have hl : lv_has ls 3 [(2, .int z2), (1, .int a1), (0, .ref h0)] := lv_sub hl [0, 2, 1] rfl
  refine w_loop (β := Int32) (fun x3 => [(2, .int x3), (1, .int a1), (0, .ref h0)]) z2 hl hw hH (fun K5 x3 σ4 ls H locs hl hw hH ih6 => ?_)
  have hl : lv_has ls 3 [(2, .int x3), (1, .int a1), (0, .ref h0)] := hl
  refine lv_iload_n hx hb dX12_endTree_7 rfl (lv_at hl 0 rfl) ?_
  refine w_if_lt (tgt := 32) hF dX12_endTree_8 rfl hw (fun hw => ?_) (fun hw => ?_)
  · refine lv_aload_n hx hb dX12_endTree_32 rfl (lv_at hl 2 rfl) ?_
    refine lv_iload_n hx hb dX12_endTree_33 rfl (lv_at hl 1 rfl) ?_
    refine w_cVi (As := [.int a1]) (rest := []) hF hH hA mv_X12_347 (fun sz => c_X12_eldestOpen l D t h0 L _ hH.2 a1 _ hw sz) dX12_endTree_34 rfl rfl (by decide) rfl hl.1 (Nat.le_of_ble_eq_true rfl) (by decide) rfl (fun z8 σ7 H locs hw hH => ?_)
    refine lv_istore_n (lv' := [(2, .int z8), (1, .int a1), (0, .ref h0)]) hx hb dX12_endTree_37 rfl hl (by decide) rfl (fun ls hl => ?_)
    refine w_loop (β := Int32) (fun x9 => [(2, .int x9), (1, .int a1), (0, .ref h0)]) z8 hl hw hH (fun K11 x9 σ10 ls H locs hl hw hH ih12 => ?_)
    have hl : lv_has ls 3 [(2, .int x9), (1, .int a1), (0, .ref h0)] := hl
    refine lv_iload_n hx hb dX12_endTree_38 rfl (lv_at hl 0 rfl) ?_
    refine w_if_lt (tgt := 56) hF dX12_endTree_39 rfl hw (fun hw => ?_) (fun hw => ?_)
    · refine lv_aload_n hx hb dX12_endTree_56 rfl (lv_at hl 2 rfl) ?_
      refine w_getA 38 hF hH fk_X12_130 dX12_endTree_57 (by decide) rfl ?_
      refine lv_iload_n hx hb dX12_endTree_60 rfl (lv_at hl 1 rfl) ?_
      refine lv_lconst (v := 0) hx hb dX12_endTree_61 (by decide) ?_
      refine w_last 38 16 hF hH dX12_endTree_62 (by decide) rfl rfl hw (fun σ13 H locs hw hH => ?_)
      exact w_retv hF hH hr hlk dX12_endTree_63 hw
    · refine lv_aload_n hx hb dX12_endTree_42 rfl (lv_at hl 2 rfl) ?_
      refine lv_iload_n hx hb dX12_endTree_43 rfl (lv_at hl 0 rfl) ?_
      refine w_cVv (As := [.int x9]) (rest := []) hF hH hA mv_X12_350 (fun sz => c_X12_closes l D t h0 L _ hH.2 x9 _ hw sz) dX12_endTree_44 rfl rfl (by decide) rfl hl.1 (Nat.le_of_ble_eq_true rfl) (by decide) rfl (fun σ14 H locs hw hH => ?_)
      refine lv_aload_n hx hb dX12_endTree_47 rfl (lv_at hl 2 rfl) ?_
      refine lv_iload_n hx hb dX12_endTree_48 rfl (lv_at hl 1 rfl) ?_
      refine w_cVi (As := [.int a1]) (rest := []) hF hH hA mv_X12_347 (fun sz => c_X12_eldestOpen l D t h0 L _ hH.2 a1 _ hw sz) dX12_endTree_49 rfl rfl (by decide) rfl hl.1 (Nat.le_of_ble_eq_true rfl) (by decide) rfl (fun z17 σ16 H locs hw hH => ?_)
      refine lv_istore_n (lv' := [(2, .int z17), (1, .int a1), (0, .ref h0)]) hx hb dX12_endTree_52 rfl hl (by decide) rfl (fun ls hl => ?_)
      refine lv_goto (tgt := 38) hx hb dX12_endTree_53 rfl ?_
      exact ih12 z17 σ16 ls _ _ hl hw hH
  · refine lv_aload_n hx hb dX12_endTree_11 rfl (lv_at hl 2 rfl) ?_
    refine w_getA 68 hF hH fk_X12_220 dX12_endTree_12 (by decide) rfl ?_
    refine lv_iload_n hx hb dX12_endTree_15 rfl (lv_at hl 0 rfl) ?_
    refine w_iald 68 16 hF hH dX12_endTree_16 (by decide) rfl rfl hw (fun z18 hw => ?_)
    refine lv_iload_n hx hb dX12_endTree_17 rfl (lv_at hl 1 rfl) ?_
    obtain ⟨K21, hK22, hw⟩ := jn_open hw
    refine w_join (K := K21) 26 (fun (x19 : Unit) => [(2, .int x3), (1, .int a1), (0, .ref h0)]) (fun (x19 : Unit) => []) hl hH (fun x19 σ20 ls H locs hl hw hH => ?_) (fun jn23 => ?_)
    · have hw := hK22 x19 σ20 hw
      have hl : lv_has ls 3 [(2, .int x3), (1, .int a1), (0, .ref h0)] := hl
      obtain ⟨z24, ez24⟩ : ∃ z : Int32, z = x3 + (-1) := ⟨_, rfl⟩
      have hw := hw z24 ez24
      refine lv_iinc (lv' := [(2, .int z24), (1, .int a1), (0, .ref h0)]) (k := 0) (v := z24) hx hb dX12_endTree_26 hl rfl ez24.symm (by decide) rfl (fun ls hl => ?_)
      refine lv_goto (tgt := 7) hx hb dX12_endTree_29 rfl ?_
      exact ih6 z24 σ20 ls _ _ hl hw hH
    · skip
      refine w_icmp_ne (tgt := 26) hF dX12_endTree_18 rfl hw (fun hw => ?_) (fun hw => ?_)
      · exact jn23 () σ4 ls _ _ hl hw hH
      · refine lv_aload_n hx hb dX12_endTree_21 rfl (lv_at hl 2 rfl) ?_
        refine lv_iload_n hx hb dX12_endTree_22 rfl (lv_at hl 0 rfl) ?_
        refine w_cVv (As := [.int x3]) (rest := []) hF hH hA mv_X12_332 (fun sz => c_X12_forget l D t h0 L _ hH.2 x3 _ hw sz) dX12_endTree_23 rfl rfl (by decide) rfl hl.1 (Nat.le_of_ble_eq_true rfl) (by decide) rfl (fun σ25 H locs hw hH => ?_)
        exact jn23 () σ25 ls _ _ hl hw hH
def F_X12_endSession (h0 : Nat) (L : Nat → Nat) (a1 : Int32) (post : HS → Prop) (σ : HS) : Prop := ∀ z1 : Int32, z1 = sI σ h0 69 → ∀ z2 : Int32, z2 = z1 - 1 → lw (fun (K5 : Int32 → HS → Prop) (x3 : Int32) (σ4 : HS) => ((x3.toInt < 0) → F_X12_eldestTree h0 L a1 (fun (z8 : Int32) (σ7 : HS) => lw (fun (K11 : Int32 → HS → Prop) (x9 : Int32) (σ10 : HS) => ((x9.toInt < 0) → (0 ≤ a1.toInt ∧ a1.toInt < 8) ∧ ∀ σ13 : HS, σ13 = h_uJ σ10 (L 34) a1.toInt.toNat 0 → post σ13) ∧ ((0 ≤ x9.toInt) → F_X12_endTree h0 L x9 (fun (σ14 : HS) => F_X12_eldestTree h0 L a1 (fun (z17 : Int32) (σ16 : HS) => K11 z17 σ16) σ14) σ10)) z8 σ7) σ4) ∧ ((0 ≤ x3.toInt) → (0 ≤ x3.toInt ∧ x3.toInt < 16) ∧ ∀ z18 : Int32, z18 = sI σ4 (L 67) x3.toInt.toNat → jn (fun (K21 : Unit → HS → Prop) => ((¬ z18.toInt = a1.toInt) → K21 () σ4) ∧ ((z18.toInt = a1.toInt) → F_X12_forget h0 L x3 (fun (σ25 : HS) => K21 () σ25) σ4)) (fun (x19 : Unit) (σ20 : HS) => ∀ z24 : Int32, z24 = x3 + (-1) → K5 z24 σ20))) z2 σ
theorem dX12_endSession_0 : decode cX12_endSession 0 = .ok (.aload_n 0, 1) := by decide +kernel
theorem dX12_endSession_1 : decode cX12_endSession 1 = .ok (.getfield 292, 3) := by decide +kernel
theorem dX12_endSession_4 : decode cX12_endSession 4 = .ok (.iconst 1, 1) := by decide +kernel
theorem dX12_endSession_5 : decode cX12_endSession 5 = .ok (.isub, 1) := by decide +kernel
theorem dX12_endSession_6 : decode cX12_endSession 6 = .ok (.istore_n 2, 1) := by decide +kernel
theorem dX12_endSession_7 : decode cX12_endSession 7 = .ok (.iload_n 2, 1) := by decide +kernel
theorem dX12_endSession_8 : decode cX12_endSession 8 = .ok (.ifCond .lt 24, 3) := by decide +kernel
theorem dX12_endSession_11 : decode cX12_endSession 11 = .ok (.aload_n 0, 1) := by decide +kernel
theorem dX12_endSession_12 : decode cX12_endSession 12 = .ok (.getfield 217, 3) := by decide +kernel
theorem dX12_endSession_15 : decode cX12_endSession 15 = .ok (.iload_n 2, 1) := by decide +kernel
theorem dX12_endSession_16 : decode cX12_endSession 16 = .ok (.iaload, 1) := by decide +kernel
theorem dX12_endSession_17 : decode cX12_endSession 17 = .ok (.iload_n 1, 1) := by decide +kernel
theorem dX12_endSession_18 : decode cX12_endSession 18 = .ok (.if_icmp .ne 8, 3) := by decide +kernel
theorem dX12_endSession_21 : decode cX12_endSession 21 = .ok (.aload_n 0, 1) := by decide +kernel
theorem dX12_endSession_22 : decode cX12_endSession 22 = .ok (.iload_n 2, 1) := by decide +kernel
theorem dX12_endSession_23 : decode cX12_endSession 23 = .ok (.invokevirtual 332, 3) := by decide +kernel
theorem dX12_endSession_26 : decode cX12_endSession 26 = .ok (.iinc 2 (-1), 3) := by decide +kernel
theorem dX12_endSession_29 : decode cX12_endSession 29 = .ok (.goto (-22), 3) := by decide +kernel
theorem dX12_endSession_32 : decode cX12_endSession 32 = .ok (.aload_n 0, 1) := by decide +kernel
theorem dX12_endSession_33 : decode cX12_endSession 33 = .ok (.iload_n 1, 1) := by decide +kernel
theorem dX12_endSession_34 : decode cX12_endSession 34 = .ok (.invokevirtual 341, 3) := by decide +kernel
theorem dX12_endSession_37 : decode cX12_endSession 37 = .ok (.istore_n 2, 1) := by decide +kernel
theorem dX12_endSession_38 : decode cX12_endSession 38 = .ok (.iload_n 2, 1) := by decide +kernel
theorem dX12_endSession_39 : decode cX12_endSession 39 = .ok (.ifCond .lt 17, 3) := by decide +kernel
theorem dX12_endSession_42 : decode cX12_endSession 42 = .ok (.aload_n 0, 1) := by decide +kernel
theorem dX12_endSession_43 : decode cX12_endSession 43 = .ok (.iload_n 2, 1) := by decide +kernel
theorem dX12_endSession_44 : decode cX12_endSession 44 = .ok (.invokevirtual 344, 3) := by decide +kernel
theorem dX12_endSession_47 : decode cX12_endSession 47 = .ok (.aload_n 0, 1) := by decide +kernel
theorem dX12_endSession_48 : decode cX12_endSession 48 = .ok (.iload_n 1, 1) := by decide +kernel
theorem dX12_endSession_49 : decode cX12_endSession 49 = .ok (.invokevirtual 341, 3) := by decide +kernel
theorem dX12_endSession_52 : decode cX12_endSession 52 = .ok (.istore_n 2, 1) := by decide +kernel
theorem dX12_endSession_53 : decode cX12_endSession 53 = .ok (.goto (-15), 3) := by decide +kernel
theorem dX12_endSession_56 : decode cX12_endSession 56 = .ok (.aload_n 0, 1) := by decide +kernel
theorem dX12_endSession_57 : decode cX12_endSession 57 = .ok (.getfield 118, 3) := by decide +kernel
theorem dX12_endSession_60 : decode cX12_endSession 60 = .ok (.iload_n 1, 1) := by decide +kernel
theorem dX12_endSession_61 : decode cX12_endSession 61 = .ok (.lconst 0, 1) := by decide +kernel
theorem dX12_endSession_62 : decode cX12_endSession 62 = .ok (.lastore, 1) := by decide +kernel
theorem dX12_endSession_63 : decode cX12_endSession 63 = .ok (.return_, 1) := by decide +kernel
set_option maxRecDepth 100000 in
set_option maxHeartbeats 4000000 in
theorem c_X12_endSession (l : Launch) (D : va_G) (t : Nat → ClassId) (h0 : Nat) (L : Nat → Nat) (σ : HS) (hM : MdI h0 L σ) (a1 : Int32) (post : HS → Prop) (hw : F_X12_endSession h0 L a1 post σ) (sz : Nat) : RMv l D t yX12_endSession cX12_endSession 3 ({ frames := 11, cells := 0, slots := 0, locals := 287 }) h0 L σ sz [.ref h0, .int a1] post := by
  refine h_go (τ := τT) okT (by decide) (Nat.le_of_ble_eq_true rfl) ?_
  intro p e s m below meth c ls A hF hr hlk hAe hH0 hA hl
  unfold hB
  rw [hAe]
  clear hAe
  have hF : FX p m c cX12_endSession 3 s _ RX12 D t := hF
  have hx := hF.1.1
  have hb := hF.1.2.1
  have hH : RT D t A s.heap h0 L σ s.heap [] := ⟨hH0, hM⟩
  have hl : lv_has ls 3 [(0, .ref h0), (1, .int a1)] := hl
  unfold F_X12_endSession at hw
  refine lv_aload_n hx hb dX12_endSession_0 rfl (lv_at hl 0 rfl) ?_
  refine w_getI hF hH fk_X12_292 dX12_endSession_1 hw (fun z1 hw => ?_)
  refine lv_iconst (v := 1) hx hb dX12_endSession_4 (by decide) ?_
  refine lv_isub hx hb dX12_endSession_5 ?_
  refine w_nmi hw (fun z2 hw => ?_)
  refine lv_istore_n (lv' := [(2, .int z2), (0, .ref h0), (1, .int a1)]) hx hb dX12_endSession_6 rfl hl (by decide) rfl (fun ls hl => ?_)
  have hl : lv_has ls 3 [(2, .int z2), (1, .int a1), (0, .ref h0)] := lv_sub hl [0, 2, 1] rfl
  refine w_loop (β := Int32) (fun x3 => [(2, .int x3), (1, .int a1), (0, .ref h0)]) z2 hl hw hH (fun K5 x3 σ4 ls H locs hl hw hH ih6 => ?_)
  have hl : lv_has ls 3 [(2, .int x3), (1, .int a1), (0, .ref h0)] := hl
  refine lv_iload_n hx hb dX12_endSession_7 rfl (lv_at hl 0 rfl) ?_
  refine w_if_lt (tgt := 32) hF dX12_endSession_8 rfl hw (fun hw => ?_) (fun hw => ?_)
  · refine lv_aload_n hx hb dX12_endSession_32 rfl (lv_at hl 2 rfl) ?_
    refine lv_iload_n hx hb dX12_endSession_33 rfl (lv_at hl 1 rfl) ?_
    refine w_cVi (As := [.int a1]) (rest := []) hF hH hA mv_X12_341 (fun sz => c_X12_eldestTree l D t h0 L _ hH.2 a1 _ hw sz) dX12_endSession_34 rfl rfl (by decide) rfl hl.1 (Nat.le_of_ble_eq_true rfl) (by decide) rfl (fun z8 σ7 H locs hw hH => ?_)
    refine lv_istore_n (lv' := [(2, .int z8), (1, .int a1), (0, .ref h0)]) hx hb dX12_endSession_37 rfl hl (by decide) rfl (fun ls hl => ?_)
    refine w_loop (β := Int32) (fun x9 => [(2, .int x9), (1, .int a1), (0, .ref h0)]) z8 hl hw hH (fun K11 x9 σ10 ls H locs hl hw hH ih12 => ?_)
    have hl : lv_has ls 3 [(2, .int x9), (1, .int a1), (0, .ref h0)] := hl
    refine lv_iload_n hx hb dX12_endSession_38 rfl (lv_at hl 0 rfl) ?_
    refine w_if_lt (tgt := 56) hF dX12_endSession_39 rfl hw (fun hw => ?_) (fun hw => ?_)
    · refine lv_aload_n hx hb dX12_endSession_56 rfl (lv_at hl 2 rfl) ?_
      refine w_getA 34 hF hH fk_X12_118 dX12_endSession_57 (by decide) rfl ?_
      refine lv_iload_n hx hb dX12_endSession_60 rfl (lv_at hl 1 rfl) ?_
      refine lv_lconst (v := 0) hx hb dX12_endSession_61 (by decide) ?_
      refine w_last 34 8 hF hH dX12_endSession_62 (by decide) rfl rfl hw (fun σ13 H locs hw hH => ?_)
      exact w_retv hF hH hr hlk dX12_endSession_63 hw
    · refine lv_aload_n hx hb dX12_endSession_42 rfl (lv_at hl 2 rfl) ?_
      refine lv_iload_n hx hb dX12_endSession_43 rfl (lv_at hl 0 rfl) ?_
      refine w_cVv (As := [.int x9]) (rest := []) hF hH hA mv_X12_344 (fun sz => c_X12_endTree l D t h0 L _ hH.2 x9 _ hw sz) dX12_endSession_44 rfl rfl (by decide) rfl hl.1 (Nat.le_of_ble_eq_true rfl) (by decide) rfl (fun σ14 H locs hw hH => ?_)
      refine lv_aload_n hx hb dX12_endSession_47 rfl (lv_at hl 2 rfl) ?_
      refine lv_iload_n hx hb dX12_endSession_48 rfl (lv_at hl 1 rfl) ?_
      refine w_cVi (As := [.int a1]) (rest := []) hF hH hA mv_X12_341 (fun sz => c_X12_eldestTree l D t h0 L _ hH.2 a1 _ hw sz) dX12_endSession_49 rfl rfl (by decide) rfl hl.1 (Nat.le_of_ble_eq_true rfl) (by decide) rfl (fun z17 σ16 H locs hw hH => ?_)
      refine lv_istore_n (lv' := [(2, .int z17), (1, .int a1), (0, .ref h0)]) hx hb dX12_endSession_52 rfl hl (by decide) rfl (fun ls hl => ?_)
      refine lv_goto (tgt := 38) hx hb dX12_endSession_53 rfl ?_
      exact ih12 z17 σ16 ls _ _ hl hw hH
  · refine lv_aload_n hx hb dX12_endSession_11 rfl (lv_at hl 2 rfl) ?_
    refine w_getA 67 hF hH fk_X12_217 dX12_endSession_12 (by decide) rfl ?_
    refine lv_iload_n hx hb dX12_endSession_15 rfl (lv_at hl 0 rfl) ?_
    refine w_iald 67 16 hF hH dX12_endSession_16 (by decide) rfl rfl hw (fun z18 hw => ?_)
    refine lv_iload_n hx hb dX12_endSession_17 rfl (lv_at hl 1 rfl) ?_
    obtain ⟨K21, hK22, hw⟩ := jn_open hw
    refine w_join (K := K21) 26 (fun (x19 : Unit) => [(2, .int x3), (1, .int a1), (0, .ref h0)]) (fun (x19 : Unit) => []) hl hH (fun x19 σ20 ls H locs hl hw hH => ?_) (fun jn23 => ?_)
    · have hw := hK22 x19 σ20 hw
      have hl : lv_has ls 3 [(2, .int x3), (1, .int a1), (0, .ref h0)] := hl
      obtain ⟨z24, ez24⟩ : ∃ z : Int32, z = x3 + (-1) := ⟨_, rfl⟩
      have hw := hw z24 ez24
      refine lv_iinc (lv' := [(2, .int z24), (1, .int a1), (0, .ref h0)]) (k := 0) (v := z24) hx hb dX12_endSession_26 hl rfl ez24.symm (by decide) rfl (fun ls hl => ?_)
      refine lv_goto (tgt := 7) hx hb dX12_endSession_29 rfl ?_
      exact ih6 z24 σ20 ls _ _ hl hw hH
    · skip
      refine w_icmp_ne (tgt := 26) hF dX12_endSession_18 rfl hw (fun hw => ?_) (fun hw => ?_)
      · exact jn23 () σ4 ls _ _ hl hw hH
      · refine lv_aload_n hx hb dX12_endSession_21 rfl (lv_at hl 2 rfl) ?_
        refine lv_iload_n hx hb dX12_endSession_22 rfl (lv_at hl 0 rfl) ?_
        refine w_cVv (As := [.int x3]) (rest := []) hF hH hA mv_X12_332 (fun sz => c_X12_forget l D t h0 L _ hH.2 x3 _ hw sz) dX12_endSession_23 rfl rfl (by decide) rfl hl.1 (Nat.le_of_ble_eq_true rfl) (by decide) rfl (fun σ25 H locs hw hH => ?_)
        exact jn23 () σ25 ls _ _ hl hw hH
def F_X12_drops (h0 : Nat) (L : Nat → Nat) (a1 : Int32) (post : HS → Prop) (σ : HS) : Prop := (0 ≤ a1.toInt ∧ a1.toInt < 6) ∧ ∀ σ1 : HS, σ1 = h_uI σ (L 25) a1.toInt.toNat (vp_nar .boolean 0) → (0 ≤ a1.toInt ∧ a1.toInt < 6) ∧ ∀ σ2 : HS, σ2 = h_uI σ1 (L 30) a1.toInt.toNat 0 → ∀ z3 : Int32, z3 = sI σ2 h0 69 → ∀ z4 : Int32, z4 = z3 - 1 → lw (fun (K7 : Int32 → HS → Prop) (x5 : Int32) (σ6 : HS) => ((x5.toInt < 0) → F_X12_eldestSession h0 L a1 (fun (z10 : Int32) (σ9 : HS) => lw (fun (K13 : Int32 → HS → Prop) (x11 : Int32) (σ12 : HS) => ((x11.toInt < 0) → post σ12) ∧ ((0 ≤ x11.toInt) → F_X12_endSession h0 L x11 (fun (σ15 : HS) => F_X12_eldestSession h0 L a1 (fun (z18 : Int32) (σ17 : HS) => K13 z18 σ17) σ15) σ12)) z10 σ9) σ6) ∧ ((0 ≤ x5.toInt) → (0 ≤ x5.toInt ∧ x5.toInt < 16) ∧ ∀ z19 : Int32, z19 = sI σ6 (L 61) x5.toInt.toNat → jn (fun (K22 : Unit → HS → Prop) => ((¬ z19.toInt = a1.toInt) → K22 () σ6) ∧ ((z19.toInt = a1.toInt) → F_X12_forget h0 L x5 (fun (σ26 : HS) => K22 () σ26) σ6)) (fun (x20 : Unit) (σ21 : HS) => ∀ z25 : Int32, z25 = x5 + (-1) → K7 z25 σ21))) z4 σ2
theorem dX12_drops_0 : decode cX12_drops 0 = .ok (.aload_n 0, 1) := by decide +kernel
theorem dX12_drops_1 : decode cX12_drops 1 = .ok (.getfield 89, 3) := by decide +kernel
theorem dX12_drops_4 : decode cX12_drops 4 = .ok (.iload_n 1, 1) := by decide +kernel
theorem dX12_drops_5 : decode cX12_drops 5 = .ok (.iconst 0, 1) := by decide +kernel
theorem dX12_drops_6 : decode cX12_drops 6 = .ok (.bastore, 1) := by decide +kernel
theorem dX12_drops_7 : decode cX12_drops 7 = .ok (.aload_n 0, 1) := by decide +kernel
theorem dX12_drops_8 : decode cX12_drops 8 = .ok (.getfield 106, 3) := by decide +kernel
theorem dX12_drops_11 : decode cX12_drops 11 = .ok (.iload_n 1, 1) := by decide +kernel
theorem dX12_drops_12 : decode cX12_drops 12 = .ok (.iconst 0, 1) := by decide +kernel
theorem dX12_drops_13 : decode cX12_drops 13 = .ok (.iastore, 1) := by decide +kernel
theorem dX12_drops_14 : decode cX12_drops 14 = .ok (.aload_n 0, 1) := by decide +kernel
theorem dX12_drops_15 : decode cX12_drops 15 = .ok (.getfield 292, 3) := by decide +kernel
theorem dX12_drops_18 : decode cX12_drops 18 = .ok (.iconst 1, 1) := by decide +kernel
theorem dX12_drops_19 : decode cX12_drops 19 = .ok (.isub, 1) := by decide +kernel
theorem dX12_drops_20 : decode cX12_drops 20 = .ok (.istore_n 2, 1) := by decide +kernel
theorem dX12_drops_21 : decode cX12_drops 21 = .ok (.iload_n 2, 1) := by decide +kernel
theorem dX12_drops_22 : decode cX12_drops 22 = .ok (.ifCond .lt 24, 3) := by decide +kernel
theorem dX12_drops_25 : decode cX12_drops 25 = .ok (.aload_n 0, 1) := by decide +kernel
theorem dX12_drops_26 : decode cX12_drops 26 = .ok (.getfield 199, 3) := by decide +kernel
theorem dX12_drops_29 : decode cX12_drops 29 = .ok (.iload_n 2, 1) := by decide +kernel
theorem dX12_drops_30 : decode cX12_drops 30 = .ok (.iaload, 1) := by decide +kernel
theorem dX12_drops_31 : decode cX12_drops 31 = .ok (.iload_n 1, 1) := by decide +kernel
theorem dX12_drops_32 : decode cX12_drops 32 = .ok (.if_icmp .ne 8, 3) := by decide +kernel
theorem dX12_drops_35 : decode cX12_drops 35 = .ok (.aload_n 0, 1) := by decide +kernel
theorem dX12_drops_36 : decode cX12_drops 36 = .ok (.iload_n 2, 1) := by decide +kernel
theorem dX12_drops_37 : decode cX12_drops 37 = .ok (.invokevirtual 332, 3) := by decide +kernel
theorem dX12_drops_40 : decode cX12_drops 40 = .ok (.iinc 2 (-1), 3) := by decide +kernel
theorem dX12_drops_43 : decode cX12_drops 43 = .ok (.goto (-22), 3) := by decide +kernel
theorem dX12_drops_46 : decode cX12_drops 46 = .ok (.aload_n 0, 1) := by decide +kernel
theorem dX12_drops_47 : decode cX12_drops 47 = .ok (.iload_n 1, 1) := by decide +kernel
theorem dX12_drops_48 : decode cX12_drops 48 = .ok (.invokevirtual 335, 3) := by decide +kernel
theorem dX12_drops_51 : decode cX12_drops 51 = .ok (.istore_n 2, 1) := by decide +kernel
theorem dX12_drops_52 : decode cX12_drops 52 = .ok (.iload_n 2, 1) := by decide +kernel
theorem dX12_drops_53 : decode cX12_drops 53 = .ok (.ifCond .lt 17, 3) := by decide +kernel
theorem dX12_drops_56 : decode cX12_drops 56 = .ok (.aload_n 0, 1) := by decide +kernel
theorem dX12_drops_57 : decode cX12_drops 57 = .ok (.iload_n 2, 1) := by decide +kernel
theorem dX12_drops_58 : decode cX12_drops 58 = .ok (.invokevirtual 338, 3) := by decide +kernel
theorem dX12_drops_61 : decode cX12_drops 61 = .ok (.aload_n 0, 1) := by decide +kernel
theorem dX12_drops_62 : decode cX12_drops 62 = .ok (.iload_n 1, 1) := by decide +kernel
theorem dX12_drops_63 : decode cX12_drops 63 = .ok (.invokevirtual 335, 3) := by decide +kernel
theorem dX12_drops_66 : decode cX12_drops 66 = .ok (.istore_n 2, 1) := by decide +kernel
theorem dX12_drops_67 : decode cX12_drops 67 = .ok (.goto (-15), 3) := by decide +kernel
theorem dX12_drops_70 : decode cX12_drops 70 = .ok (.return_, 1) := by decide +kernel
set_option maxRecDepth 100000 in
set_option maxHeartbeats 4000000 in
theorem c_X12_drops (l : Launch) (D : va_G) (t : Nat → ClassId) (h0 : Nat) (L : Nat → Nat) (σ : HS) (hM : MdI h0 L σ) (a1 : Int32) (post : HS → Prop) (hw : F_X12_drops h0 L a1 post σ) (sz : Nat) : RMv l D t yX12_drops cX12_drops 3 ({ frames := 12, cells := 0, slots := 0, locals := 309 }) h0 L σ sz [.ref h0, .int a1] post := by
  refine h_go (τ := τT) okT (by decide) (Nat.le_of_ble_eq_true rfl) ?_
  intro p e s m below meth c ls A hF hr hlk hAe hH0 hA hl
  unfold hB
  rw [hAe]
  clear hAe
  have hF : FX p m c cX12_drops 3 s _ RX12 D t := hF
  have hx := hF.1.1
  have hb := hF.1.2.1
  have hH : RT D t A s.heap h0 L σ s.heap [] := ⟨hH0, hM⟩
  have hl : lv_has ls 3 [(0, .ref h0), (1, .int a1)] := hl
  unfold F_X12_drops at hw
  refine lv_aload_n hx hb dX12_drops_0 rfl (lv_at hl 0 rfl) ?_
  refine w_getA 25 hF hH fk_X12_89 dX12_drops_1 (by decide) rfl ?_
  refine lv_iload_n hx hb dX12_drops_4 rfl (lv_at hl 1 rfl) ?_
  refine lv_iconst (v := 0) hx hb dX12_drops_5 (by decide) ?_
  refine w_zast 25 6 hF hH dX12_drops_6 (by decide) rfl rfl hw (fun σ1 H locs hw hH => ?_)
  refine lv_aload_n hx hb dX12_drops_7 rfl (lv_at hl 0 rfl) ?_
  refine w_getA 30 hF hH fk_X12_106 dX12_drops_8 (by decide) rfl ?_
  refine lv_iload_n hx hb dX12_drops_11 rfl (lv_at hl 1 rfl) ?_
  refine lv_iconst (v := 0) hx hb dX12_drops_12 (by decide) ?_
  refine w_iast 30 6 hF hH dX12_drops_13 (by decide) rfl rfl hw (fun σ2 H locs hw hH => ?_)
  refine lv_aload_n hx hb dX12_drops_14 rfl (lv_at hl 0 rfl) ?_
  refine w_getI hF hH fk_X12_292 dX12_drops_15 hw (fun z3 hw => ?_)
  refine lv_iconst (v := 1) hx hb dX12_drops_18 (by decide) ?_
  refine lv_isub hx hb dX12_drops_19 ?_
  refine w_nmi hw (fun z4 hw => ?_)
  refine lv_istore_n (lv' := [(2, .int z4), (0, .ref h0), (1, .int a1)]) hx hb dX12_drops_20 rfl hl (by decide) rfl (fun ls hl => ?_)
  have hl : lv_has ls 3 [(2, .int z4), (1, .int a1), (0, .ref h0)] := lv_sub hl [0, 2, 1] rfl
  refine w_loop (β := Int32) (fun x5 => [(2, .int x5), (1, .int a1), (0, .ref h0)]) z4 hl hw hH (fun K7 x5 σ6 ls H locs hl hw hH ih8 => ?_)
  have hl : lv_has ls 3 [(2, .int x5), (1, .int a1), (0, .ref h0)] := hl
  refine lv_iload_n hx hb dX12_drops_21 rfl (lv_at hl 0 rfl) ?_
  refine w_if_lt (tgt := 46) hF dX12_drops_22 rfl hw (fun hw => ?_) (fun hw => ?_)
  · refine lv_aload_n hx hb dX12_drops_46 rfl (lv_at hl 2 rfl) ?_
    refine lv_iload_n hx hb dX12_drops_47 rfl (lv_at hl 1 rfl) ?_
    refine w_cVi (As := [.int a1]) (rest := []) hF hH hA mv_X12_335 (fun sz => c_X12_eldestSession l D t h0 L _ hH.2 a1 _ hw sz) dX12_drops_48 rfl rfl (by decide) rfl hl.1 (Nat.le_of_ble_eq_true rfl) (by decide) rfl (fun z10 σ9 H locs hw hH => ?_)
    refine lv_istore_n (lv' := [(2, .int z10), (1, .int a1), (0, .ref h0)]) hx hb dX12_drops_51 rfl hl (by decide) rfl (fun ls hl => ?_)
    refine w_loop (β := Int32) (fun x11 => [(2, .int x11), (1, .int a1), (0, .ref h0)]) z10 hl hw hH (fun K13 x11 σ12 ls H locs hl hw hH ih14 => ?_)
    have hl : lv_has ls 3 [(2, .int x11), (1, .int a1), (0, .ref h0)] := hl
    refine lv_iload_n hx hb dX12_drops_52 rfl (lv_at hl 0 rfl) ?_
    refine w_if_lt (tgt := 70) hF dX12_drops_53 rfl hw (fun hw => ?_) (fun hw => ?_)
    · exact w_retv hF hH hr hlk dX12_drops_70 hw
    · refine lv_aload_n hx hb dX12_drops_56 rfl (lv_at hl 2 rfl) ?_
      refine lv_iload_n hx hb dX12_drops_57 rfl (lv_at hl 0 rfl) ?_
      refine w_cVv (As := [.int x11]) (rest := []) hF hH hA mv_X12_338 (fun sz => c_X12_endSession l D t h0 L _ hH.2 x11 _ hw sz) dX12_drops_58 rfl rfl (by decide) rfl hl.1 (Nat.le_of_ble_eq_true rfl) (by decide) rfl (fun σ15 H locs hw hH => ?_)
      refine lv_aload_n hx hb dX12_drops_61 rfl (lv_at hl 2 rfl) ?_
      refine lv_iload_n hx hb dX12_drops_62 rfl (lv_at hl 1 rfl) ?_
      refine w_cVi (As := [.int a1]) (rest := []) hF hH hA mv_X12_335 (fun sz => c_X12_eldestSession l D t h0 L _ hH.2 a1 _ hw sz) dX12_drops_63 rfl rfl (by decide) rfl hl.1 (Nat.le_of_ble_eq_true rfl) (by decide) rfl (fun z18 σ17 H locs hw hH => ?_)
      refine lv_istore_n (lv' := [(2, .int z18), (1, .int a1), (0, .ref h0)]) hx hb dX12_drops_66 rfl hl (by decide) rfl (fun ls hl => ?_)
      refine lv_goto (tgt := 52) hx hb dX12_drops_67 rfl ?_
      exact ih14 z18 σ17 ls _ _ hl hw hH
  · refine lv_aload_n hx hb dX12_drops_25 rfl (lv_at hl 2 rfl) ?_
    refine w_getA 61 hF hH fk_X12_199 dX12_drops_26 (by decide) rfl ?_
    refine lv_iload_n hx hb dX12_drops_29 rfl (lv_at hl 0 rfl) ?_
    refine w_iald 61 16 hF hH dX12_drops_30 (by decide) rfl rfl hw (fun z19 hw => ?_)
    refine lv_iload_n hx hb dX12_drops_31 rfl (lv_at hl 1 rfl) ?_
    obtain ⟨K22, hK23, hw⟩ := jn_open hw
    refine w_join (K := K22) 40 (fun (x20 : Unit) => [(2, .int x5), (1, .int a1), (0, .ref h0)]) (fun (x20 : Unit) => []) hl hH (fun x20 σ21 ls H locs hl hw hH => ?_) (fun jn24 => ?_)
    · have hw := hK23 x20 σ21 hw
      have hl : lv_has ls 3 [(2, .int x5), (1, .int a1), (0, .ref h0)] := hl
      obtain ⟨z25, ez25⟩ : ∃ z : Int32, z = x5 + (-1) := ⟨_, rfl⟩
      have hw := hw z25 ez25
      refine lv_iinc (lv' := [(2, .int z25), (1, .int a1), (0, .ref h0)]) (k := 0) (v := z25) hx hb dX12_drops_40 hl rfl ez25.symm (by decide) rfl (fun ls hl => ?_)
      refine lv_goto (tgt := 21) hx hb dX12_drops_43 rfl ?_
      exact ih8 z25 σ21 ls _ _ hl hw hH
    · skip
      refine w_icmp_ne (tgt := 40) hF dX12_drops_32 rfl hw (fun hw => ?_) (fun hw => ?_)
      · exact jn24 () σ6 ls _ _ hl hw hH
      · refine lv_aload_n hx hb dX12_drops_35 rfl (lv_at hl 2 rfl) ?_
        refine lv_iload_n hx hb dX12_drops_36 rfl (lv_at hl 0 rfl) ?_
        refine w_cVv (As := [.int x5]) (rest := []) hF hH hA mv_X12_332 (fun sz => c_X12_forget l D t h0 L _ hH.2 x5 _ hw sz) dX12_drops_37 rfl rfl (by decide) rfl hl.1 (Nat.le_of_ble_eq_true rfl) (by decide) rfl (fun σ26 H locs hw hH => ?_)
        exact jn24 () σ26 ls _ _ hl hw hH
def F_X12_hang (h0 : Nat) (L : Nat → Nat) (a1 : Int32) (post : Int32 → HS → Prop) (σ : HS) : Prop := F_X12_isLine h0 L a1 (fun (z2 : Int32) (σ1 : HS) => jn (fun (K5 : Unit → HS → Prop) => ((z2.toInt = 0) → K5 () σ1) ∧ ((¬ z2.toInt = 0) → (0 ≤ a1.toInt ∧ a1.toInt < 6) ∧ ∀ z8 : Int32, z8 = sI σ1 (L 25) a1.toInt.toNat → ((¬ z8.toInt = 0) → F_X12_drops h0 L a1 (fun (σ9 : HS) => (0 ≤ (1 : Int32).toInt ∧ (1 : Int32).toInt ≤ 1) ∧ post 1 σ9) σ1) ∧ ((z8.toInt = 0) → K5 () σ1))) (fun (x3 : Unit) (σ4 : HS) => (0 ≤ (0 : Int32).toInt ∧ (0 : Int32).toInt ≤ 1) ∧ post 0 σ4)) σ
theorem dX12_hang_0 : decode cX12_hang 0 = .ok (.iload_n 1, 1) := by decide +kernel
theorem dX12_hang_1 : decode cX12_hang 1 = .ok (.invokestatic 325, 3) := by decide +kernel
theorem dX12_hang_4 : decode cX12_hang 4 = .ok (.ifCond .eq 12, 3) := by decide +kernel
theorem dX12_hang_7 : decode cX12_hang 7 = .ok (.aload_n 0, 1) := by decide +kernel
theorem dX12_hang_8 : decode cX12_hang 8 = .ok (.getfield 89, 3) := by decide +kernel
theorem dX12_hang_11 : decode cX12_hang 11 = .ok (.iload_n 1, 1) := by decide +kernel
theorem dX12_hang_12 : decode cX12_hang 12 = .ok (.baload, 1) := by decide +kernel
theorem dX12_hang_13 : decode cX12_hang 13 = .ok (.ifCond .ne 5, 3) := by decide +kernel
theorem dX12_hang_16 : decode cX12_hang 16 = .ok (.iconst 0, 1) := by decide +kernel
theorem dX12_hang_17 : decode cX12_hang 17 = .ok (.ireturn, 1) := by decide +kernel
theorem dX12_hang_18 : decode cX12_hang 18 = .ok (.aload_n 0, 1) := by decide +kernel
theorem dX12_hang_19 : decode cX12_hang 19 = .ok (.iload_n 1, 1) := by decide +kernel
theorem dX12_hang_20 : decode cX12_hang 20 = .ok (.invokevirtual 329, 3) := by decide +kernel
theorem dX12_hang_23 : decode cX12_hang 23 = .ok (.iconst 1, 1) := by decide +kernel
theorem dX12_hang_24 : decode cX12_hang 24 = .ok (.ireturn, 1) := by decide +kernel
set_option maxRecDepth 100000 in
set_option maxHeartbeats 4000000 in
theorem c_X12_hang (l : Launch) (D : va_G) (t : Nat → ClassId) (h0 : Nat) (L : Nat → Nat) (σ : HS) (hM : MdI h0 L σ) (a1 : Int32) (post : Int32 → HS → Prop) (hw : F_X12_hang h0 L a1 post σ) (sz : Nat) : RMi l D t yX12_hang cX12_hang 2 (some .boolean) ({ frames := 13, cells := 0, slots := 0, locals := 331 }) h0 L σ sz [.ref h0, .int a1] post := by
  refine h_go (τ := τT) okT (by decide) (Nat.le_of_ble_eq_true rfl) ?_
  intro p e s m below meth c ls A hF hr hlk hAe hH0 hA hl
  unfold hB
  rw [hAe]
  clear hAe
  have hF : FX p m c cX12_hang 2 s _ RX12 D t := hF
  have hx := hF.1.1
  have hb := hF.1.2.1
  have hH : RT D t A s.heap h0 L σ s.heap [] := ⟨hH0, hM⟩
  have hl : lv_has ls 2 [(0, .ref h0), (1, .int a1)] := hl
  unfold F_X12_hang at hw
  refine lv_iload_n hx hb dX12_hang_0 rfl (lv_at hl 1 rfl) ?_
  refine w_cSi (As := [.int a1]) (rest := []) hF hH hA ms_X12_325 (fun sz => c_X12_isLine l D t h0 L _ hH.2 a1 _ hw sz) dX12_hang_1 rfl rfl (by decide) rfl hl.1 (Nat.le_of_ble_eq_true rfl) (by decide) rfl (fun z2 σ1 H locs hw hH => ?_)
  obtain ⟨K5, hK6, hw⟩ := jn_open hw
  refine w_join (K := K5) 16 (fun (x3 : Unit) => []) (fun (x3 : Unit) => []) hl hH (fun x3 σ4 ls H locs hl hw hH => ?_) (fun jn7 => ?_)
  · have hw := hK6 x3 σ4 hw
    have hl : lv_has ls 2 [] := hl
    refine lv_iconst (v := 0) hx hb dX12_hang_16 (by decide) ?_
    exact w_retz hF hH hr hlk dX12_hang_17 hw
  · skip
    refine w_if_eq (tgt := 16) hF dX12_hang_4 rfl hw (fun hw => ?_) (fun hw => ?_)
    · have hl : lv_has ls 2 [] := lv_sub hl [] rfl
      exact jn7 () σ1 ls _ _ hl hw hH
    · refine lv_aload_n hx hb dX12_hang_7 rfl (lv_at hl 0 rfl) ?_
      refine w_getA 25 hF hH fk_X12_89 dX12_hang_8 (by decide) rfl ?_
      refine lv_iload_n hx hb dX12_hang_11 rfl (lv_at hl 1 rfl) ?_
      refine w_zald 25 6 hF hH dX12_hang_12 (by decide) rfl rfl hw (fun z8 hw => ?_)
      refine w_if_ne (tgt := 18) hF dX12_hang_13 rfl hw (fun hw => ?_) (fun hw => ?_)
      · refine lv_aload_n hx hb dX12_hang_18 rfl (lv_at hl 0 rfl) ?_
        refine lv_iload_n hx hb dX12_hang_19 rfl (lv_at hl 1 rfl) ?_
        refine w_cVv (As := [.int a1]) (rest := []) hF hH hA mv_X12_329 (fun sz => c_X12_drops l D t h0 L _ hH.2 a1 _ hw sz) dX12_hang_20 rfl rfl (by decide) rfl hl.1 (Nat.le_of_ble_eq_true rfl) (by decide) rfl (fun σ9 H locs hw hH => ?_)
        refine lv_iconst (v := 1) hx hb dX12_hang_23 (by decide) ?_
        exact w_retz hF hH hr hlk dX12_hang_24 hw
      · have hl : lv_has ls 2 [] := lv_sub hl [] rfl
        exact jn7 () σ1 ls _ _ hl hw hH
def F_X12_isOpen (h0 : Nat) (L : Nat → Nat) (a1 : Int32) (post : Int32 → HS → Prop) (σ : HS) : Prop := F_X12_isLine h0 L a1 (fun (z2 : Int32) (σ1 : HS) => jn (fun (K5 : Int32 → HS → Prop) => jn (fun (K10 : Unit → HS → Prop) => ((z2.toInt = 0) → K10 () σ1) ∧ ((¬ z2.toInt = 0) → (0 ≤ a1.toInt ∧ a1.toInt < 6) ∧ ∀ z13 : Int32, z13 = sI σ1 (L 25) a1.toInt.toNat → ((z13.toInt = 0) → K10 () σ1) ∧ ((¬ z13.toInt = 0) → K5 1 σ1))) (fun (x8 : Unit) (σ9 : HS) => K5 0 σ9)) (fun (x3 : Int32) (σ4 : HS) => (0 ≤ x3.toInt ∧ x3.toInt ≤ 1) ∧ post x3 σ4)) σ
theorem dX12_isOpen_0 : decode cX12_isOpen 0 = .ok (.iload_n 1, 1) := by decide +kernel
theorem dX12_isOpen_1 : decode cX12_isOpen 1 = .ok (.invokestatic 325, 3) := by decide +kernel
theorem dX12_isOpen_4 : decode cX12_isOpen 4 = .ok (.ifCond .eq 16, 3) := by decide +kernel
theorem dX12_isOpen_7 : decode cX12_isOpen 7 = .ok (.aload_n 0, 1) := by decide +kernel
theorem dX12_isOpen_8 : decode cX12_isOpen 8 = .ok (.getfield 89, 3) := by decide +kernel
theorem dX12_isOpen_11 : decode cX12_isOpen 11 = .ok (.iload_n 1, 1) := by decide +kernel
theorem dX12_isOpen_12 : decode cX12_isOpen 12 = .ok (.baload, 1) := by decide +kernel
theorem dX12_isOpen_13 : decode cX12_isOpen 13 = .ok (.ifCond .eq 7, 3) := by decide +kernel
theorem dX12_isOpen_16 : decode cX12_isOpen 16 = .ok (.iconst 1, 1) := by decide +kernel
theorem dX12_isOpen_17 : decode cX12_isOpen 17 = .ok (.goto 4, 3) := by decide +kernel
theorem dX12_isOpen_20 : decode cX12_isOpen 20 = .ok (.iconst 0, 1) := by decide +kernel
theorem dX12_isOpen_21 : decode cX12_isOpen 21 = .ok (.ireturn, 1) := by decide +kernel
set_option maxRecDepth 100000 in
set_option maxHeartbeats 4000000 in
theorem c_X12_isOpen (l : Launch) (D : va_G) (t : Nat → ClassId) (h0 : Nat) (L : Nat → Nat) (σ : HS) (hM : MdI h0 L σ) (a1 : Int32) (post : Int32 → HS → Prop) (hw : F_X12_isOpen h0 L a1 post σ) (sz : Nat) : RMi l D t yX12_isOpen cX12_isOpen 2 (some .boolean) ({ frames := 1, cells := 0, slots := 0, locals := 20 }) h0 L σ sz [.ref h0, .int a1] post := by
  refine h_go (τ := τT) okT (by decide) (Nat.le_of_ble_eq_true rfl) ?_
  intro p e s m below meth c ls A hF hr hlk hAe hH0 hA hl
  unfold hB
  rw [hAe]
  clear hAe
  have hF : FX p m c cX12_isOpen 2 s _ RX12 D t := hF
  have hx := hF.1.1
  have hb := hF.1.2.1
  have hH : RT D t A s.heap h0 L σ s.heap [] := ⟨hH0, hM⟩
  have hl : lv_has ls 2 [(0, .ref h0), (1, .int a1)] := hl
  unfold F_X12_isOpen at hw
  refine lv_iload_n hx hb dX12_isOpen_0 rfl (lv_at hl 1 rfl) ?_
  refine w_cSi (As := [.int a1]) (rest := []) hF hH hA ms_X12_325 (fun sz => c_X12_isLine l D t h0 L _ hH.2 a1 _ hw sz) dX12_isOpen_1 rfl rfl (by decide) rfl hl.1 (Nat.le_of_ble_eq_true rfl) (by decide) rfl (fun z2 σ1 H locs hw hH => ?_)
  obtain ⟨K5, hK6, hw⟩ := jn_open hw
  refine w_join (K := K5) 21 (fun (x3 : Int32) => []) (fun (x3 : Int32) => [.int x3]) hl hH (fun x3 σ4 ls H locs hl hw hH => ?_) (fun jn7 => ?_)
  · have hw := hK6 x3 σ4 hw
    have hl : lv_has ls 2 [] := hl
    exact w_retz hF hH hr hlk dX12_isOpen_21 hw
  · skip
    obtain ⟨K10, hK11, hw⟩ := jn_open hw
    refine w_join (K := K10) 20 (fun (x8 : Unit) => []) (fun (x8 : Unit) => []) hl hH (fun x8 σ9 ls H locs hl hw hH => ?_) (fun jn12 => ?_)
    · have hw := hK11 x8 σ9 hw
      have hl : lv_has ls 2 [] := hl
      refine lv_iconst (v := 0) hx hb dX12_isOpen_20 (by decide) ?_
      exact jn7 0 σ9 ls _ _ hl hw hH
    · skip
      refine w_if_eq (tgt := 20) hF dX12_isOpen_4 rfl hw (fun hw => ?_) (fun hw => ?_)
      · have hl : lv_has ls 2 [] := lv_sub hl [] rfl
        exact jn12 () σ1 ls _ _ hl hw hH
      · refine lv_aload_n hx hb dX12_isOpen_7 rfl (lv_at hl 0 rfl) ?_
        refine w_getA 25 hF hH fk_X12_89 dX12_isOpen_8 (by decide) rfl ?_
        refine lv_iload_n hx hb dX12_isOpen_11 rfl (lv_at hl 1 rfl) ?_
        refine w_zald 25 6 hF hH dX12_isOpen_12 (by decide) rfl rfl hw (fun z13 hw => ?_)
        refine w_if_eq (tgt := 20) hF dX12_isOpen_13 rfl hw (fun hw => ?_) (fun hw => ?_)
        · have hl : lv_has ls 2 [] := lv_sub hl [] rfl
          exact jn12 () σ1 ls _ _ hl hw hH
        · refine lv_iconst (v := 1) hx hb dX12_isOpen_16 (by decide) ?_
          refine lv_goto (tgt := 21) hx hb dX12_isOpen_17 rfl ?_
          have hl : lv_has ls 2 [] := lv_sub hl [] rfl
          exact jn7 1 σ1 ls _ _ hl hw hH
def F_X12_openBy (h0 : Nat) (L : Nat → Nat) (a1 : Int64) (post : Int32 → HS → Prop) (σ : HS) : Prop := lw (fun (K3 : Int32 → HS → Prop) (x1 : Int32) (σ2 : HS) => (((40 : Int32).toInt ≤ x1.toInt) → post (-1) σ2) ∧ ((x1.toInt < (40 : Int32).toInt) → jn (fun (K7 : Unit → HS → Prop) => ((a1.toInt = (0 : Int64).toInt) → K7 () σ2) ∧ ((¬ a1.toInt = (0 : Int64).toInt) → (0 ≤ x1.toInt ∧ x1.toInt < 40) ∧ ∀ z11 : Int64, z11 = sJ σ2 (L 41) x1.toInt.toNat → ((¬ z11.toInt = a1.toInt) → K7 () σ2) ∧ ((z11.toInt = a1.toInt) → post x1 σ2))) (fun (x5 : Unit) (σ6 : HS) => ∀ z10 : Int32, z10 = x1 + 1 → K3 z10 σ6))) 0 σ
theorem dX12_openBy_0 : decode cX12_openBy 0 = .ok (.iconst 0, 1) := by decide +kernel
theorem dX12_openBy_1 : decode cX12_openBy 1 = .ok (.istore_n 3, 1) := by decide +kernel
theorem dX12_openBy_2 : decode cX12_openBy 2 = .ok (.iload_n 3, 1) := by decide +kernel
theorem dX12_openBy_3 : decode cX12_openBy 3 = .ok (.bipush 40, 2) := by decide +kernel
theorem dX12_openBy_5 : decode cX12_openBy 5 = .ok (.if_icmp .ge 28, 3) := by decide +kernel
theorem dX12_openBy_8 : decode cX12_openBy 8 = .ok (.lload_n 1, 1) := by decide +kernel
theorem dX12_openBy_9 : decode cX12_openBy 9 = .ok (.lconst 0, 1) := by decide +kernel
theorem dX12_openBy_10 : decode cX12_openBy 10 = .ok (.lcmp, 1) := by decide +kernel
theorem dX12_openBy_11 : decode cX12_openBy 11 = .ok (.ifCond .eq 16, 3) := by decide +kernel
theorem dX12_openBy_14 : decode cX12_openBy 14 = .ok (.aload_n 0, 1) := by decide +kernel
theorem dX12_openBy_15 : decode cX12_openBy 15 = .ok (.getfield 139, 3) := by decide +kernel
theorem dX12_openBy_18 : decode cX12_openBy 18 = .ok (.iload_n 3, 1) := by decide +kernel
theorem dX12_openBy_19 : decode cX12_openBy 19 = .ok (.laload, 1) := by decide +kernel
theorem dX12_openBy_20 : decode cX12_openBy 20 = .ok (.lload_n 1, 1) := by decide +kernel
theorem dX12_openBy_21 : decode cX12_openBy 21 = .ok (.lcmp, 1) := by decide +kernel
theorem dX12_openBy_22 : decode cX12_openBy 22 = .ok (.ifCond .ne 5, 3) := by decide +kernel
theorem dX12_openBy_25 : decode cX12_openBy 25 = .ok (.iload_n 3, 1) := by decide +kernel
theorem dX12_openBy_26 : decode cX12_openBy 26 = .ok (.ireturn, 1) := by decide +kernel
theorem dX12_openBy_27 : decode cX12_openBy 27 = .ok (.iinc 3 1, 3) := by decide +kernel
theorem dX12_openBy_30 : decode cX12_openBy 30 = .ok (.goto (-28), 3) := by decide +kernel
theorem dX12_openBy_33 : decode cX12_openBy 33 = .ok (.iconst (-1), 1) := by decide +kernel
theorem dX12_openBy_34 : decode cX12_openBy 34 = .ok (.ireturn, 1) := by decide +kernel
set_option maxRecDepth 100000 in
set_option maxHeartbeats 4000000 in
theorem c_X12_openBy (l : Launch) (D : va_G) (t : Nat → ClassId) (h0 : Nat) (L : Nat → Nat) (σ : HS) (hM : MdI h0 L σ) (a1 : Int64) (post : Int32 → HS → Prop) (hw : F_X12_openBy h0 L a1 post σ) (sz : Nat) : RMi l D t yX12_openBy cX12_openBy 4 (some .int) ({ frames := 0, cells := 0, slots := 0, locals := 0 }) h0 L σ sz [.ref h0, .long a1] post := by
  refine h_go (τ := τT) okT (by decide) (Nat.le_of_ble_eq_true rfl) ?_
  intro p e s m below meth c ls A hF hr hlk hAe hH0 hA hl
  unfold hB
  rw [hAe]
  clear hAe
  have hF : FX p m c cX12_openBy 4 s _ RX12 D t := hF
  have hx := hF.1.1
  have hb := hF.1.2.1
  have hH : RT D t A s.heap h0 L σ s.heap [] := ⟨hH0, hM⟩
  have hl : lv_has ls 4 [(0, .ref h0), (1, .long a1)] := hl
  unfold F_X12_openBy at hw
  refine lv_iconst (v := 0) hx hb dX12_openBy_0 (by decide) ?_
  refine lv_istore_n (lv' := [(3, .int 0), (0, .ref h0), (1, .long a1)]) hx hb dX12_openBy_1 rfl hl (by decide) rfl (fun ls hl => ?_)
  have hl : lv_has ls 4 [(3, .int 0), (1, .long a1), (0, .ref h0)] := lv_sub hl [0, 2, 1] rfl
  refine w_loop (β := Int32) (fun x1 => [(3, .int x1), (1, .long a1), (0, .ref h0)]) 0 hl hw hH (fun K3 x1 σ2 ls H locs hl hw hH ih4 => ?_)
  have hl : lv_has ls 4 [(3, .int x1), (1, .long a1), (0, .ref h0)] := hl
  refine lv_iload_n hx hb dX12_openBy_2 rfl (lv_at hl 0 rfl) ?_
  refine lv_bipush (v := 40) hx hb dX12_openBy_3 (by decide) ?_
  refine w_icmp_ge (tgt := 33) hF dX12_openBy_5 rfl hw (fun hw => ?_) (fun hw => ?_)
  · refine lv_iconst (v := (-1)) hx hb dX12_openBy_33 (by decide) ?_
    exact w_reti hF hH hr hlk rfl dX12_openBy_34 hw
  · refine lv_lload_n hx hb dX12_openBy_8 rfl (lv_at hl 1 rfl) ?_
    refine lv_lconst (v := 0) hx hb dX12_openBy_9 (by decide) ?_
    obtain ⟨K7, hK8, hw⟩ := jn_open hw
    refine w_join (K := K7) 27 (fun (x5 : Unit) => [(3, .int x1), (1, .long a1), (0, .ref h0)]) (fun (x5 : Unit) => []) hl hH (fun x5 σ6 ls H locs hl hw hH => ?_) (fun jn9 => ?_)
    · have hw := hK8 x5 σ6 hw
      have hl : lv_has ls 4 [(3, .int x1), (1, .long a1), (0, .ref h0)] := hl
      obtain ⟨z10, ez10⟩ : ∃ z : Int32, z = x1 + 1 := ⟨_, rfl⟩
      have hw := hw z10 ez10
      refine lv_iinc (lv' := [(3, .int z10), (1, .long a1), (0, .ref h0)]) (k := 0) (v := z10) hx hb dX12_openBy_27 hl rfl ez10.symm (by decide) rfl (fun ls hl => ?_)
      refine lv_goto (tgt := 2) hx hb dX12_openBy_30 rfl ?_
      exact ih4 z10 σ6 ls _ _ hl hw hH
    · skip
      refine w_lif_eq (tgt := 27) hF dX12_openBy_10 dX12_openBy_11 rfl hw (fun hw => ?_) (fun hw => ?_)
      · exact jn9 () σ2 ls _ _ hl hw hH
      · refine lv_aload_n hx hb dX12_openBy_14 rfl (lv_at hl 2 rfl) ?_
        refine w_getA 41 hF hH fk_X12_139 dX12_openBy_15 (by decide) rfl ?_
        refine lv_iload_n hx hb dX12_openBy_18 rfl (lv_at hl 0 rfl) ?_
        refine w_lald 41 40 hF hH dX12_openBy_19 (by decide) rfl rfl hw (fun z11 hw => ?_)
        refine lv_lload_n hx hb dX12_openBy_20 rfl (lv_at hl 1 rfl) ?_
        refine w_lif_ne (tgt := 27) hF dX12_openBy_21 dX12_openBy_22 rfl hw (fun hw => ?_) (fun hw => ?_)
        · exact jn9 () σ2 ls _ _ hl hw hH
        · refine lv_iload_n hx hb dX12_openBy_25 rfl (lv_at hl 0 rfl) ?_
          exact w_reti hF hH hr hlk rfl dX12_openBy_26 hw
def F_X12_headerGood (h0 : Nat) (L : Nat → Nat) (a1 : Int32) (post : Int32 → HS → Prop) (σ : HS) : Prop := F_X12_number h0 L 20 4 (fun (z2 : Int64) (σ1 : HS) => F_X12_number h0 L 0 4 (fun (z4 : Int64) (σ3 : HS) => jn (fun (K7 : Int32 → HS → Prop) => jn (fun (K30 : Unit → HS → Prop) => ((¬ z4.toInt = (1112364030 : Int64).toInt) → K30 () σ3) ∧ ((z4.toInt = (1112364030 : Int64).toInt) → F_X12_number2 h0 L 4 (fun (z34 : Int32) (σ33 : HS) => ((¬ z34.toInt = (64 : Int32).toInt) → K30 () σ33) ∧ ((z34.toInt = (64 : Int32).toInt) → F_X12_number h0 L 16 4 (fun (z36 : Int64) (σ35 : HS) => ∀ z37 : Int64, z37 = z36 &&& 1 → ((¬ z37.toInt = (0 : Int64).toInt) → K30 () σ35) ∧ ((z37.toInt = (0 : Int64).toInt) → K7 1 σ35)) σ33)) σ3)) (fun (x28 : Unit) (σ29 : HS) => K7 0 σ29)) (fun (x5 : Int32) (σ6 : HS) => jn (fun (K12 : Int32 → HS → Prop) => jn (fun (K17 : Unit → HS → Prop) => ((x5.toInt = 0) → K17 () σ6) ∧ ((¬ x5.toInt = 0) → jn (fun (K22 : Unit → HS → Prop) => ((z2.toInt = (0 : Int64).toInt) → K22 () σ6) ∧ ((¬ z2.toInt = (0 : Int64).toInt) → ((z2.toInt < (64 : Int64).toInt) → K17 () σ6) ∧ (((64 : Int64).toInt ≤ z2.toInt) → ∀ z25 : Int64, z25 = z2 - z2 / 8 * 8 → ((¬ z25.toInt = (0 : Int64).toInt) → K17 () σ6) ∧ ((z25.toInt = (0 : Int64).toInt) → ∀ z26 : Int64, z26 = (a1 : Int32).toInt64 → ∀ z27 : Int64, z27 = z26 - 64 → ((z27.toInt < z2.toInt) → K17 () σ6) ∧ ((z2.toInt ≤ z27.toInt) → K22 () σ6))))) (fun (x20 : Unit) (σ21 : HS) => K12 1 σ21))) (fun (x15 : Unit) (σ16 : HS) => K12 0 σ16)) (fun (x10 : Int32) (σ11 : HS) => (0 ≤ x10.toInt ∧ x10.toInt ≤ 1) ∧ post x10 σ11))) σ1) σ
theorem dX12_headerGood_0 : decode cX12_headerGood 0 = .ok (.aload_n 0, 1) := by decide +kernel
theorem dX12_headerGood_1 : decode cX12_headerGood 1 = .ok (.bipush 20, 2) := by decide +kernel
theorem dX12_headerGood_3 : decode cX12_headerGood 3 = .ok (.iconst 4, 1) := by decide +kernel
theorem dX12_headerGood_4 : decode cX12_headerGood 4 = .ok (.invokevirtual 364, 3) := by decide +kernel
theorem dX12_headerGood_7 : decode cX12_headerGood 7 = .ok (.lstore_n 2, 1) := by decide +kernel
theorem dX12_headerGood_8 : decode cX12_headerGood 8 = .ok (.aload_n 0, 1) := by decide +kernel
theorem dX12_headerGood_9 : decode cX12_headerGood 9 = .ok (.iconst 0, 1) := by decide +kernel
theorem dX12_headerGood_10 : decode cX12_headerGood 10 = .ok (.iconst 4, 1) := by decide +kernel
theorem dX12_headerGood_11 : decode cX12_headerGood 11 = .ok (.invokevirtual 364, 3) := by decide +kernel
theorem dX12_headerGood_14 : decode cX12_headerGood 14 = .ok (.ldc2_w 374, 3) := by decide +kernel
theorem dX12_headerGood_17 : decode cX12_headerGood 17 = .ok (.lcmp, 1) := by decide +kernel
theorem dX12_headerGood_18 : decode cX12_headerGood 18 = .ok (.ifCond .ne 31, 3) := by decide +kernel
theorem dX12_headerGood_21 : decode cX12_headerGood 21 = .ok (.aload_n 0, 1) := by decide +kernel
theorem dX12_headerGood_22 : decode cX12_headerGood 22 = .ok (.iconst 4, 1) := by decide +kernel
theorem dX12_headerGood_23 : decode cX12_headerGood 23 = .ok (.invokevirtual 415, 3) := by decide +kernel
theorem dX12_headerGood_26 : decode cX12_headerGood 26 = .ok (.bipush 64, 2) := by decide +kernel
theorem dX12_headerGood_28 : decode cX12_headerGood 28 = .ok (.if_icmp .ne 21, 3) := by decide +kernel
theorem dX12_headerGood_31 : decode cX12_headerGood 31 = .ok (.aload_n 0, 1) := by decide +kernel
theorem dX12_headerGood_32 : decode cX12_headerGood 32 = .ok (.bipush 16, 2) := by decide +kernel
theorem dX12_headerGood_34 : decode cX12_headerGood 34 = .ok (.iconst 4, 1) := by decide +kernel
theorem dX12_headerGood_35 : decode cX12_headerGood 35 = .ok (.invokevirtual 364, 3) := by decide +kernel
theorem dX12_headerGood_38 : decode cX12_headerGood 38 = .ok (.lconst 1, 1) := by decide +kernel
theorem dX12_headerGood_39 : decode cX12_headerGood 39 = .ok (.land, 1) := by decide +kernel
theorem dX12_headerGood_40 : decode cX12_headerGood 40 = .ok (.lconst 0, 1) := by decide +kernel
theorem dX12_headerGood_41 : decode cX12_headerGood 41 = .ok (.lcmp, 1) := by decide +kernel
theorem dX12_headerGood_42 : decode cX12_headerGood 42 = .ok (.ifCond .ne 7, 3) := by decide +kernel
theorem dX12_headerGood_45 : decode cX12_headerGood 45 = .ok (.iconst 1, 1) := by decide +kernel
theorem dX12_headerGood_46 : decode cX12_headerGood 46 = .ok (.goto 4, 3) := by decide +kernel
theorem dX12_headerGood_49 : decode cX12_headerGood 49 = .ok (.iconst 0, 1) := by decide +kernel
theorem dX12_headerGood_50 : decode cX12_headerGood 50 = .ok (.istore 4, 2) := by decide +kernel
theorem dX12_headerGood_52 : decode cX12_headerGood 52 = .ok (.iload 4, 2) := by decide +kernel
theorem dX12_headerGood_54 : decode cX12_headerGood 54 = .ok (.ifCond .eq 42, 3) := by decide +kernel
theorem dX12_headerGood_57 : decode cX12_headerGood 57 = .ok (.lload_n 2, 1) := by decide +kernel
theorem dX12_headerGood_58 : decode cX12_headerGood 58 = .ok (.lconst 0, 1) := by decide +kernel
theorem dX12_headerGood_59 : decode cX12_headerGood 59 = .ok (.lcmp, 1) := by decide +kernel
theorem dX12_headerGood_60 : decode cX12_headerGood 60 = .ok (.ifCond .eq 32, 3) := by decide +kernel
theorem dX12_headerGood_63 : decode cX12_headerGood 63 = .ok (.lload_n 2, 1) := by decide +kernel
theorem dX12_headerGood_64 : decode cX12_headerGood 64 = .ok (.ldc2_w 380, 3) := by decide +kernel
theorem dX12_headerGood_67 : decode cX12_headerGood 67 = .ok (.lcmp, 1) := by decide +kernel
theorem dX12_headerGood_68 : decode cX12_headerGood 68 = .ok (.ifCond .lt 28, 3) := by decide +kernel
theorem dX12_headerGood_71 : decode cX12_headerGood 71 = .ok (.lload_n 2, 1) := by decide +kernel
theorem dX12_headerGood_72 : decode cX12_headerGood 72 = .ok (.ldc2_w 432, 3) := by decide +kernel
theorem dX12_headerGood_75 : decode cX12_headerGood 75 = .ok (.lrem, 1) := by decide +kernel
theorem dX12_headerGood_76 : decode cX12_headerGood 76 = .ok (.lconst 0, 1) := by decide +kernel
theorem dX12_headerGood_77 : decode cX12_headerGood 77 = .ok (.lcmp, 1) := by decide +kernel
theorem dX12_headerGood_78 : decode cX12_headerGood 78 = .ok (.ifCond .ne 18, 3) := by decide +kernel
theorem dX12_headerGood_81 : decode cX12_headerGood 81 = .ok (.lload_n 2, 1) := by decide +kernel
theorem dX12_headerGood_82 : decode cX12_headerGood 82 = .ok (.iload_n 1, 1) := by decide +kernel
theorem dX12_headerGood_83 : decode cX12_headerGood 83 = .ok (.i2l, 1) := by decide +kernel
theorem dX12_headerGood_84 : decode cX12_headerGood 84 = .ok (.ldc2_w 380, 3) := by decide +kernel
theorem dX12_headerGood_87 : decode cX12_headerGood 87 = .ok (.lsub, 1) := by decide +kernel
theorem dX12_headerGood_88 : decode cX12_headerGood 88 = .ok (.lcmp, 1) := by decide +kernel
theorem dX12_headerGood_89 : decode cX12_headerGood 89 = .ok (.ifCond .gt 7, 3) := by decide +kernel
theorem dX12_headerGood_92 : decode cX12_headerGood 92 = .ok (.iconst 1, 1) := by decide +kernel
theorem dX12_headerGood_93 : decode cX12_headerGood 93 = .ok (.goto 4, 3) := by decide +kernel
theorem dX12_headerGood_96 : decode cX12_headerGood 96 = .ok (.iconst 0, 1) := by decide +kernel
theorem dX12_headerGood_97 : decode cX12_headerGood 97 = .ok (.ireturn, 1) := by decide +kernel
set_option maxRecDepth 100000 in
set_option maxHeartbeats 4000000 in
theorem c_X12_headerGood (l : Launch) (D : va_G) (t : Nat → ClassId) (h0 : Nat) (L : Nat → Nat) (σ : HS) (hM : MdI h0 L σ) (a1 : Int32) (post : Int32 → HS → Prop) (hw : F_X12_headerGood h0 L a1 post σ) (sz : Nat) : RMi l D t yX12_headerGood cX12_headerGood 5 (some .boolean) ({ frames := 2, cells := 0, slots := 0, locals := 46 }) h0 L σ sz [.ref h0, .int a1] post := by
  refine h_go (τ := τT) okT (by decide) (Nat.le_of_ble_eq_true rfl) ?_
  intro p e s m below meth c ls A hF hr hlk hAe hH0 hA hl
  unfold hB
  rw [hAe]
  clear hAe
  have hF : FX p m c cX12_headerGood 5 s _ RX12 D t := hF
  have hx := hF.1.1
  have hb := hF.1.2.1
  have hH : RT D t A s.heap h0 L σ s.heap [] := ⟨hH0, hM⟩
  have hl : lv_has ls 5 [(0, .ref h0), (1, .int a1)] := hl
  unfold F_X12_headerGood at hw
  refine lv_aload_n hx hb dX12_headerGood_0 rfl (lv_at hl 0 rfl) ?_
  refine lv_bipush (v := 20) hx hb dX12_headerGood_1 (by decide) ?_
  refine lv_iconst (v := 4) hx hb dX12_headerGood_3 (by decide) ?_
  refine w_cVl (As := [.int 20, .int 4]) (rest := []) hF hH hA mv_X12_364 (fun sz => c_X12_number l D t h0 L _ hH.2 20 4 _ hw sz) dX12_headerGood_4 rfl rfl (by decide) rfl hl.1 (Nat.le_of_ble_eq_true rfl) (by decide) rfl (fun z2 σ1 H locs hw hH => ?_)
  refine lv_lstore_n (lv' := [(2, .long z2), (0, .ref h0), (1, .int a1)]) hx hb dX12_headerGood_7 rfl hl (by decide) rfl (fun ls hl => ?_)
  refine lv_aload_n hx hb dX12_headerGood_8 rfl (lv_at hl 1 rfl) ?_
  refine lv_iconst (v := 0) hx hb dX12_headerGood_9 (by decide) ?_
  refine lv_iconst (v := 4) hx hb dX12_headerGood_10 (by decide) ?_
  refine w_cVl (As := [.int 0, .int 4]) (rest := []) hF hH hA mv_X12_364 (fun sz => c_X12_number l D t h0 L _ hH.2 0 4 _ hw sz) dX12_headerGood_11 rfl rfl (by decide) rfl hl.1 (Nat.le_of_ble_eq_true rfl) (by decide) rfl (fun z4 σ3 H locs hw hH => ?_)
  refine lv_ldc2 (v := 1112364030) hx hb hF.1.2.2.2.1 (hF.1.2.2.2.2 _ (wc_47 17 rfl)) dX12_headerGood_14 ?_
  obtain ⟨K7, hK8, hw⟩ := jn_open hw
  refine w_join (K := K7) 50 (fun (x5 : Int32) => [(2, .long z2), (1, .int a1)]) (fun (x5 : Int32) => [.int x5]) hl hH (fun x5 σ6 ls H locs hl hw hH => ?_) (fun jn9 => ?_)
  · have hw := hK8 x5 σ6 hw
    have hl : lv_has ls 5 [(2, .long z2), (1, .int a1)] := hl
    refine lv_istore (lv' := [(4, .int x5), (2, .long z2), (1, .int a1)]) hx hb dX12_headerGood_50 hl (by decide) rfl (fun ls hl => ?_)
    refine lv_iload hx hb dX12_headerGood_52 (lv_at hl 0 rfl) ?_
    obtain ⟨K12, hK13, hw⟩ := jn_open hw
    refine w_join (K := K12) 97 (fun (x10 : Int32) => []) (fun (x10 : Int32) => [.int x10]) hl hH (fun x10 σ11 ls H locs hl hw hH => ?_) (fun jn14 => ?_)
    · have hw := hK13 x10 σ11 hw
      have hl : lv_has ls 5 [] := hl
      exact w_retz hF hH hr hlk dX12_headerGood_97 hw
    · skip
      obtain ⟨K17, hK18, hw⟩ := jn_open hw
      refine w_join (K := K17) 96 (fun (x15 : Unit) => []) (fun (x15 : Unit) => []) hl hH (fun x15 σ16 ls H locs hl hw hH => ?_) (fun jn19 => ?_)
      · have hw := hK18 x15 σ16 hw
        have hl : lv_has ls 5 [] := hl
        refine lv_iconst (v := 0) hx hb dX12_headerGood_96 (by decide) ?_
        exact jn14 0 σ16 ls _ _ hl hw hH
      · skip
        refine w_if_eq (tgt := 96) hF dX12_headerGood_54 rfl hw (fun hw => ?_) (fun hw => ?_)
        · have hl : lv_has ls 5 [] := lv_sub hl [] rfl
          exact jn19 () σ6 ls _ _ hl hw hH
        · refine lv_lload_n hx hb dX12_headerGood_57 rfl (lv_at hl 1 rfl) ?_
          refine lv_lconst (v := 0) hx hb dX12_headerGood_58 (by decide) ?_
          obtain ⟨K22, hK23, hw⟩ := jn_open hw
          refine w_join (K := K22) 92 (fun (x20 : Unit) => []) (fun (x20 : Unit) => []) hl hH (fun x20 σ21 ls H locs hl hw hH => ?_) (fun jn24 => ?_)
          · have hw := hK23 x20 σ21 hw
            have hl : lv_has ls 5 [] := hl
            refine lv_iconst (v := 1) hx hb dX12_headerGood_92 (by decide) ?_
            refine lv_goto (tgt := 97) hx hb dX12_headerGood_93 rfl ?_
            exact jn14 1 σ21 ls _ _ hl hw hH
          · skip
            refine w_lif_eq (tgt := 92) hF dX12_headerGood_59 dX12_headerGood_60 rfl hw (fun hw => ?_) (fun hw => ?_)
            · have hl : lv_has ls 5 [] := lv_sub hl [] rfl
              exact jn24 () σ6 ls _ _ hl hw hH
            · refine lv_lload_n hx hb dX12_headerGood_63 rfl (lv_at hl 1 rfl) ?_
              refine lv_ldc2 (v := 64) hx hb hF.1.2.2.2.1 (hF.1.2.2.2.2 _ (wc_47 21 rfl)) dX12_headerGood_64 ?_
              refine w_lif_lt (tgt := 96) hF dX12_headerGood_67 dX12_headerGood_68 rfl hw (fun hw => ?_) (fun hw => ?_)
              · have hl : lv_has ls 5 [] := lv_sub hl [] rfl
                exact jn19 () σ6 ls _ _ hl hw hH
              · refine lv_lload_n hx hb dX12_headerGood_71 rfl (lv_at hl 1 rfl) ?_
                refine lv_ldc2 (v := 8) hx hb hF.1.2.2.2.1 (hF.1.2.2.2.2 _ (wc_51 15 rfl)) dX12_headerGood_72 ?_
                refine lv_lrem hx hb dX12_headerGood_75 (by decide) ?_
                refine w_nml hw (fun z25 hw => ?_)
                refine lv_lconst (v := 0) hx hb dX12_headerGood_76 (by decide) ?_
                refine w_lif_ne (tgt := 96) hF dX12_headerGood_77 dX12_headerGood_78 rfl hw (fun hw => ?_) (fun hw => ?_)
                · have hl : lv_has ls 5 [] := lv_sub hl [] rfl
                  exact jn19 () σ6 ls _ _ hl hw hH
                · refine lv_lload_n hx hb dX12_headerGood_81 rfl (lv_at hl 1 rfl) ?_
                  refine lv_iload_n hx hb dX12_headerGood_82 rfl (lv_at hl 2 rfl) ?_
                  refine lv_i2l hx hb dX12_headerGood_83 rfl ?_
                  refine w_nml hw (fun z26 hw => ?_)
                  refine lv_ldc2 (v := 64) hx hb hF.1.2.2.2.1 (hF.1.2.2.2.2 _ (wc_47 21 rfl)) dX12_headerGood_84 ?_
                  refine lv_lsub hx hb dX12_headerGood_87 ?_
                  refine w_nml hw (fun z27 hw => ?_)
                  refine w_lif_gt (tgt := 96) hF dX12_headerGood_88 dX12_headerGood_89 rfl hw (fun hw => ?_) (fun hw => ?_)
                  · have hl : lv_has ls 5 [] := lv_sub hl [] rfl
                    exact jn19 () σ6 ls _ _ hl hw hH
                  · have hl : lv_has ls 5 [] := lv_sub hl [] rfl
                    exact jn24 () σ6 ls _ _ hl hw hH
  · skip
    obtain ⟨K30, hK31, hw⟩ := jn_open hw
    refine w_join (K := K30) 49 (fun (x28 : Unit) => [(2, .long z2), (1, .int a1)]) (fun (x28 : Unit) => []) hl hH (fun x28 σ29 ls H locs hl hw hH => ?_) (fun jn32 => ?_)
    · have hw := hK31 x28 σ29 hw
      have hl : lv_has ls 5 [(2, .long z2), (1, .int a1)] := hl
      refine lv_iconst (v := 0) hx hb dX12_headerGood_49 (by decide) ?_
      exact jn9 0 σ29 ls _ _ hl hw hH
    · skip
      refine w_lif_ne (tgt := 49) hF dX12_headerGood_17 dX12_headerGood_18 rfl hw (fun hw => ?_) (fun hw => ?_)
      · have hl : lv_has ls 5 [(2, .long z2), (1, .int a1)] := lv_sub hl [0, 2] rfl
        exact jn32 () σ3 ls _ _ hl hw hH
      · refine lv_aload_n hx hb dX12_headerGood_21 rfl (lv_at hl 1 rfl) ?_
        refine lv_iconst (v := 4) hx hb dX12_headerGood_22 (by decide) ?_
        refine w_cVi (As := [.int 4]) (rest := []) hF hH hA mv_X12_415 (fun sz => c_X12_number2 l D t h0 L _ hH.2 4 _ hw sz) dX12_headerGood_23 rfl rfl (by decide) rfl hl.1 (Nat.le_of_ble_eq_true rfl) (by decide) rfl (fun z34 σ33 H locs hw hH => ?_)
        refine lv_bipush (v := 64) hx hb dX12_headerGood_26 (by decide) ?_
        refine w_icmp_ne (tgt := 49) hF dX12_headerGood_28 rfl hw (fun hw => ?_) (fun hw => ?_)
        · have hl : lv_has ls 5 [(2, .long z2), (1, .int a1)] := lv_sub hl [0, 2] rfl
          exact jn32 () σ33 ls _ _ hl hw hH
        · refine lv_aload_n hx hb dX12_headerGood_31 rfl (lv_at hl 1 rfl) ?_
          refine lv_bipush (v := 16) hx hb dX12_headerGood_32 (by decide) ?_
          refine lv_iconst (v := 4) hx hb dX12_headerGood_34 (by decide) ?_
          refine w_cVl (As := [.int 16, .int 4]) (rest := []) hF hH hA mv_X12_364 (fun sz => c_X12_number l D t h0 L _ hH.2 16 4 _ hw sz) dX12_headerGood_35 rfl rfl (by decide) rfl hl.1 (Nat.le_of_ble_eq_true rfl) (by decide) rfl (fun z36 σ35 H locs hw hH => ?_)
          refine lv_lconst (v := 1) hx hb dX12_headerGood_38 (by decide) ?_
          refine lv_land hx hb dX12_headerGood_39 ?_
          refine w_nml hw (fun z37 hw => ?_)
          refine lv_lconst (v := 0) hx hb dX12_headerGood_40 (by decide) ?_
          refine w_lif_ne (tgt := 49) hF dX12_headerGood_41 dX12_headerGood_42 rfl hw (fun hw => ?_) (fun hw => ?_)
          · have hl : lv_has ls 5 [(2, .long z2), (1, .int a1)] := lv_sub hl [0, 2] rfl
            exact jn32 () σ35 ls _ _ hl hw hH
          · refine lv_iconst (v := 1) hx hb dX12_headerGood_45 (by decide) ?_
            refine lv_goto (tgt := 50) hx hb dX12_headerGood_46 rfl ?_
            have hl : lv_has ls 5 [(2, .long z2), (1, .int a1)] := lv_sub hl [0, 2] rfl
            exact jn9 1 σ35 ls _ _ hl hw hH
def F_X12_takeId (h0 : Nat) (L : Nat → Nat) (a1 : Int32) (a2 : Int64) (post : Int32 → HS → Prop) (σ : HS) : Prop := lw (fun (K3 : Int32 → HS → Prop) (x1 : Int32) (σ2 : HS) => (0 ≤ a1.toInt ∧ a1.toInt < 6) ∧ ∀ z5 : Int32, z5 = sI σ2 (L 32) a1.toInt.toNat → ((z5.toInt ≤ x1.toInt) → (0 ≤ (0 : Int32).toInt ∧ (0 : Int32).toInt ≤ 1) ∧ post 0 σ2) ∧ ((x1.toInt < z5.toInt) → ∀ z6 : Int32, z6 = 16 * a1 → ∀ z7 : Int32, z7 = z6 + x1 → (0 ≤ z7.toInt ∧ z7.toInt < 96) ∧ ∀ z8 : Int64, z8 = sJ σ2 (L 31) z7.toInt.toNat → ((¬ z8.toInt = a2.toInt) → ∀ z9 : Int32, z9 = x1 + 1 → K3 z9 σ2) ∧ ((z8.toInt = a2.toInt) → (0 ≤ a1.toInt ∧ a1.toInt < 6) ∧ ∀ z10 : Int32, z10 = sI σ2 (L 32) a1.toInt.toNat → ∀ z11 : Int32, z11 = z10 - 1 → (0 ≤ a1.toInt ∧ a1.toInt < 6) ∧ ∀ σ12 : HS, σ12 = h_uI σ2 (L 32) a1.toInt.toNat z11 → ∀ z13 : Int32, z13 = 16 * a1 → ∀ z14 : Int32, z14 = z13 + x1 → ∀ z15 : Int32, z15 = 16 * a1 → (0 ≤ a1.toInt ∧ a1.toInt < 6) ∧ ∀ z16 : Int32, z16 = sI σ12 (L 32) a1.toInt.toNat → ∀ z17 : Int32, z17 = z15 + z16 → (0 ≤ z17.toInt ∧ z17.toInt < 96) ∧ ∀ z18 : Int64, z18 = sJ σ12 (L 31) z17.toInt.toNat → (0 ≤ z14.toInt ∧ z14.toInt < 96) ∧ ∀ σ19 : HS, σ19 = h_uJ σ12 (L 31) z14.toInt.toNat z18 → (0 ≤ (1 : Int32).toInt ∧ (1 : Int32).toInt ≤ 1) ∧ post 1 σ19))) 0 σ
theorem dX12_takeId_0 : decode cX12_takeId 0 = .ok (.iconst 0, 1) := by decide +kernel
theorem dX12_takeId_1 : decode cX12_takeId 1 = .ok (.istore 4, 2) := by decide +kernel
theorem dX12_takeId_3 : decode cX12_takeId 3 = .ok (.iload 4, 2) := by decide +kernel
theorem dX12_takeId_5 : decode cX12_takeId 5 = .ok (.aload_n 0, 1) := by decide +kernel
theorem dX12_takeId_6 : decode cX12_takeId 6 = .ok (.getfield 112, 3) := by decide +kernel
theorem dX12_takeId_9 : decode cX12_takeId 9 = .ok (.iload_n 1, 1) := by decide +kernel
theorem dX12_takeId_10 : decode cX12_takeId 10 = .ok (.iaload, 1) := by decide +kernel
theorem dX12_takeId_11 : decode cX12_takeId 11 = .ok (.if_icmp .ge 66, 3) := by decide +kernel
theorem dX12_takeId_14 : decode cX12_takeId 14 = .ok (.aload_n 0, 1) := by decide +kernel
theorem dX12_takeId_15 : decode cX12_takeId 15 = .ok (.getfield 109, 3) := by decide +kernel
theorem dX12_takeId_18 : decode cX12_takeId 18 = .ok (.bipush 16, 2) := by decide +kernel
theorem dX12_takeId_20 : decode cX12_takeId 20 = .ok (.iload_n 1, 1) := by decide +kernel
theorem dX12_takeId_21 : decode cX12_takeId 21 = .ok (.imul, 1) := by decide +kernel
theorem dX12_takeId_22 : decode cX12_takeId 22 = .ok (.iload 4, 2) := by decide +kernel
theorem dX12_takeId_24 : decode cX12_takeId 24 = .ok (.iadd, 1) := by decide +kernel
theorem dX12_takeId_25 : decode cX12_takeId 25 = .ok (.laload, 1) := by decide +kernel
theorem dX12_takeId_26 : decode cX12_takeId 26 = .ok (.lload_n 2, 1) := by decide +kernel
theorem dX12_takeId_27 : decode cX12_takeId 27 = .ok (.lcmp, 1) := by decide +kernel
theorem dX12_takeId_28 : decode cX12_takeId 28 = .ok (.ifCond .ne 43, 3) := by decide +kernel
theorem dX12_takeId_31 : decode cX12_takeId 31 = .ok (.aload_n 0, 1) := by decide +kernel
theorem dX12_takeId_32 : decode cX12_takeId 32 = .ok (.getfield 112, 3) := by decide +kernel
theorem dX12_takeId_35 : decode cX12_takeId 35 = .ok (.iload_n 1, 1) := by decide +kernel
theorem dX12_takeId_36 : decode cX12_takeId 36 = .ok (.dup2, 1) := by decide +kernel
theorem dX12_takeId_37 : decode cX12_takeId 37 = .ok (.iaload, 1) := by decide +kernel
theorem dX12_takeId_38 : decode cX12_takeId 38 = .ok (.iconst 1, 1) := by decide +kernel
theorem dX12_takeId_39 : decode cX12_takeId 39 = .ok (.isub, 1) := by decide +kernel
theorem dX12_takeId_40 : decode cX12_takeId 40 = .ok (.iastore, 1) := by decide +kernel
theorem dX12_takeId_41 : decode cX12_takeId 41 = .ok (.aload_n 0, 1) := by decide +kernel
theorem dX12_takeId_42 : decode cX12_takeId 42 = .ok (.getfield 109, 3) := by decide +kernel
theorem dX12_takeId_45 : decode cX12_takeId 45 = .ok (.bipush 16, 2) := by decide +kernel
theorem dX12_takeId_47 : decode cX12_takeId 47 = .ok (.iload_n 1, 1) := by decide +kernel
theorem dX12_takeId_48 : decode cX12_takeId 48 = .ok (.imul, 1) := by decide +kernel
theorem dX12_takeId_49 : decode cX12_takeId 49 = .ok (.iload 4, 2) := by decide +kernel
theorem dX12_takeId_51 : decode cX12_takeId 51 = .ok (.iadd, 1) := by decide +kernel
theorem dX12_takeId_52 : decode cX12_takeId 52 = .ok (.aload_n 0, 1) := by decide +kernel
theorem dX12_takeId_53 : decode cX12_takeId 53 = .ok (.getfield 109, 3) := by decide +kernel
theorem dX12_takeId_56 : decode cX12_takeId 56 = .ok (.bipush 16, 2) := by decide +kernel
theorem dX12_takeId_58 : decode cX12_takeId 58 = .ok (.iload_n 1, 1) := by decide +kernel
theorem dX12_takeId_59 : decode cX12_takeId 59 = .ok (.imul, 1) := by decide +kernel
theorem dX12_takeId_60 : decode cX12_takeId 60 = .ok (.aload_n 0, 1) := by decide +kernel
theorem dX12_takeId_61 : decode cX12_takeId 61 = .ok (.getfield 112, 3) := by decide +kernel
theorem dX12_takeId_64 : decode cX12_takeId 64 = .ok (.iload_n 1, 1) := by decide +kernel
theorem dX12_takeId_65 : decode cX12_takeId 65 = .ok (.iaload, 1) := by decide +kernel
theorem dX12_takeId_66 : decode cX12_takeId 66 = .ok (.iadd, 1) := by decide +kernel
theorem dX12_takeId_67 : decode cX12_takeId 67 = .ok (.laload, 1) := by decide +kernel
theorem dX12_takeId_68 : decode cX12_takeId 68 = .ok (.lastore, 1) := by decide +kernel
theorem dX12_takeId_69 : decode cX12_takeId 69 = .ok (.iconst 1, 1) := by decide +kernel
theorem dX12_takeId_70 : decode cX12_takeId 70 = .ok (.ireturn, 1) := by decide +kernel
theorem dX12_takeId_71 : decode cX12_takeId 71 = .ok (.iinc 4 1, 3) := by decide +kernel
theorem dX12_takeId_74 : decode cX12_takeId 74 = .ok (.goto (-71), 3) := by decide +kernel
theorem dX12_takeId_77 : decode cX12_takeId 77 = .ok (.iconst 0, 1) := by decide +kernel
theorem dX12_takeId_78 : decode cX12_takeId 78 = .ok (.ireturn, 1) := by decide +kernel
set_option maxRecDepth 100000 in
set_option maxHeartbeats 4000000 in
theorem c_X12_takeId (l : Launch) (D : va_G) (t : Nat → ClassId) (h0 : Nat) (L : Nat → Nat) (σ : HS) (hM : MdI h0 L σ) (a1 : Int32) (a2 : Int64) (post : Int32 → HS → Prop) (hw : F_X12_takeId h0 L a1 a2 post σ) (sz : Nat) : RMi l D t yX12_takeId cX12_takeId 5 (some .boolean) ({ frames := 0, cells := 0, slots := 0, locals := 0 }) h0 L σ sz [.ref h0, .int a1, .long a2] post := by
  refine h_go (τ := τT) okT (by decide) (Nat.le_of_ble_eq_true rfl) ?_
  intro p e s m below meth c ls A hF hr hlk hAe hH0 hA hl
  unfold hB
  rw [hAe]
  clear hAe
  have hF : FX p m c cX12_takeId 5 s _ RX12 D t := hF
  have hx := hF.1.1
  have hb := hF.1.2.1
  have hH : RT D t A s.heap h0 L σ s.heap [] := ⟨hH0, hM⟩
  have hl : lv_has ls 5 [(0, .ref h0), (1, .int a1), (2, .long a2)] := hl
  unfold F_X12_takeId at hw
  refine lv_iconst (v := 0) hx hb dX12_takeId_0 (by decide) ?_
  refine lv_istore (lv' := [(4, .int 0), (0, .ref h0), (1, .int a1), (2, .long a2)]) hx hb dX12_takeId_1 hl (by decide) rfl (fun ls hl => ?_)
  have hl : lv_has ls 5 [(4, .int 0), (2, .long a2), (1, .int a1), (0, .ref h0)] := lv_sub hl [0, 3, 2, 1] rfl
  refine w_loop (β := Int32) (fun x1 => [(4, .int x1), (2, .long a2), (1, .int a1), (0, .ref h0)]) 0 hl hw hH (fun K3 x1 σ2 ls H locs hl hw hH ih4 => ?_)
  have hl : lv_has ls 5 [(4, .int x1), (2, .long a2), (1, .int a1), (0, .ref h0)] := hl
  refine lv_iload hx hb dX12_takeId_3 (lv_at hl 0 rfl) ?_
  refine lv_aload_n hx hb dX12_takeId_5 rfl (lv_at hl 3 rfl) ?_
  refine w_getA 32 hF hH fk_X12_112 dX12_takeId_6 (by decide) rfl ?_
  refine lv_iload_n hx hb dX12_takeId_9 rfl (lv_at hl 2 rfl) ?_
  refine w_iald 32 6 hF hH dX12_takeId_10 (by decide) rfl rfl hw (fun z5 hw => ?_)
  refine w_icmp_ge (tgt := 77) hF dX12_takeId_11 rfl hw (fun hw => ?_) (fun hw => ?_)
  · refine lv_iconst (v := 0) hx hb dX12_takeId_77 (by decide) ?_
    exact w_retz hF hH hr hlk dX12_takeId_78 hw
  · refine lv_aload_n hx hb dX12_takeId_14 rfl (lv_at hl 3 rfl) ?_
    refine w_getA 31 hF hH fk_X12_109 dX12_takeId_15 (by decide) rfl ?_
    refine lv_bipush (v := 16) hx hb dX12_takeId_18 (by decide) ?_
    refine lv_iload_n hx hb dX12_takeId_20 rfl (lv_at hl 2 rfl) ?_
    refine lv_imul hx hb dX12_takeId_21 ?_
    refine w_nmi hw (fun z6 hw => ?_)
    refine lv_iload hx hb dX12_takeId_22 (lv_at hl 0 rfl) ?_
    refine lv_iadd hx hb dX12_takeId_24 ?_
    refine w_nmi hw (fun z7 hw => ?_)
    refine w_lald 31 96 hF hH dX12_takeId_25 (by decide) rfl rfl hw (fun z8 hw => ?_)
    refine lv_lload_n hx hb dX12_takeId_26 rfl (lv_at hl 1 rfl) ?_
    refine w_lif_ne (tgt := 71) hF dX12_takeId_27 dX12_takeId_28 rfl hw (fun hw => ?_) (fun hw => ?_)
    · obtain ⟨z9, ez9⟩ : ∃ z : Int32, z = x1 + 1 := ⟨_, rfl⟩
      have hw := hw z9 ez9
      refine lv_iinc (lv' := [(4, .int z9), (2, .long a2), (1, .int a1), (0, .ref h0)]) (k := 0) (v := z9) hx hb dX12_takeId_71 hl rfl ez9.symm (by decide) rfl (fun ls hl => ?_)
      refine lv_goto (tgt := 3) hx hb dX12_takeId_74 rfl ?_
      exact ih4 z9 σ2 ls _ _ hl hw hH
    · refine lv_aload_n hx hb dX12_takeId_31 rfl (lv_at hl 3 rfl) ?_
      refine w_getA 32 hF hH fk_X12_112 dX12_takeId_32 (by decide) rfl ?_
      refine lv_iload_n hx hb dX12_takeId_35 rfl (lv_at hl 2 rfl) ?_
      refine lv_dup2_11 hx hb dX12_takeId_36 rfl rfl ?_
      refine w_iald 32 6 hF hH dX12_takeId_37 (by decide) rfl rfl hw (fun z10 hw => ?_)
      refine lv_iconst (v := 1) hx hb dX12_takeId_38 (by decide) ?_
      refine lv_isub hx hb dX12_takeId_39 ?_
      refine w_nmi hw (fun z11 hw => ?_)
      refine w_iast 32 6 hF hH dX12_takeId_40 (by decide) rfl rfl hw (fun σ12 H locs hw hH => ?_)
      refine lv_aload_n hx hb dX12_takeId_41 rfl (lv_at hl 3 rfl) ?_
      refine w_getA 31 hF hH fk_X12_109 dX12_takeId_42 (by decide) rfl ?_
      refine lv_bipush (v := 16) hx hb dX12_takeId_45 (by decide) ?_
      refine lv_iload_n hx hb dX12_takeId_47 rfl (lv_at hl 2 rfl) ?_
      refine lv_imul hx hb dX12_takeId_48 ?_
      refine w_nmi hw (fun z13 hw => ?_)
      refine lv_iload hx hb dX12_takeId_49 (lv_at hl 0 rfl) ?_
      refine lv_iadd hx hb dX12_takeId_51 ?_
      refine w_nmi hw (fun z14 hw => ?_)
      refine lv_aload_n hx hb dX12_takeId_52 rfl (lv_at hl 3 rfl) ?_
      refine w_getA 31 hF hH fk_X12_109 dX12_takeId_53 (by decide) rfl ?_
      refine lv_bipush (v := 16) hx hb dX12_takeId_56 (by decide) ?_
      refine lv_iload_n hx hb dX12_takeId_58 rfl (lv_at hl 2 rfl) ?_
      refine lv_imul hx hb dX12_takeId_59 ?_
      refine w_nmi hw (fun z15 hw => ?_)
      refine lv_aload_n hx hb dX12_takeId_60 rfl (lv_at hl 3 rfl) ?_
      refine w_getA 32 hF hH fk_X12_112 dX12_takeId_61 (by decide) rfl ?_
      refine lv_iload_n hx hb dX12_takeId_64 rfl (lv_at hl 2 rfl) ?_
      refine w_iald 32 6 hF hH dX12_takeId_65 (by decide) rfl rfl hw (fun z16 hw => ?_)
      refine lv_iadd hx hb dX12_takeId_66 ?_
      refine w_nmi hw (fun z17 hw => ?_)
      refine w_lald 31 96 hF hH dX12_takeId_67 (by decide) rfl rfl hw (fun z18 hw => ?_)
      refine w_last 31 96 hF hH dX12_takeId_68 (by decide) rfl rfl hw (fun σ19 H locs hw hH => ?_)
      refine lv_iconst (v := 1) hx hb dX12_takeId_69 (by decide) ?_
      exact w_retz hF hH hr hlk dX12_takeId_70 hw
def F_X12_cancel (h0 : Nat) (L : Nat → Nat) (a1 : Int32) (a2 : Int64) (post : HS → Prop) (σ : HS) : Prop := ∀ z1 : Int32, z1 = sI σ h0 87 → jn (fun (K4 : Unit → HS → Prop) => ((z1.toInt < (68 : Int32).toInt) → K4 () σ) ∧ (((68 : Int32).toInt ≤ z1.toInt) → F_X12_number2 h0 L 64 (fun (z8 : Int32) (σ7 : HS) => ((z8.toInt = (4 : Int32).toInt) → F_X12_number h0 L 16 4 (fun (z10 : Int64) (σ9 : HS) => ∀ z11 : Int64, z11 = z10 &&& 2 → jn (fun (K14 : Int32 → HS → Prop) => ((z11.toInt = (0 : Int64).toInt) → K14 0 σ9) ∧ ((¬ z11.toInt = (0 : Int64).toInt) → K14 1 σ9)) (fun (x12 : Int32) (σ13 : HS) => jn (fun (K19 : Int64 → HS → Prop) => ((x12.toInt = 0) → K19 a2 σ13) ∧ ((¬ x12.toInt = 0) → F_X12_number h0 L 32 8 (fun (z44 : Int64) (σ43 : HS) => K19 z44 σ43) σ13)) (fun (x17 : Int64) (σ18 : HS) => lw (fun (K24 : Int32 → HS → Prop) (x22 : Int32) (σ23 : HS) => ∀ z26 : Int32, z26 = sI σ23 h0 69 → ((z26.toInt ≤ x22.toInt) → post σ23) ∧ ((x22.toInt < z26.toInt) → (0 ≤ x22.toInt ∧ x22.toInt < 16) ∧ ∀ z27 : Int32, z27 = sI σ23 (L 61) x22.toInt.toNat → jn (fun (K30 : Unit → HS → Prop) => ((¬ z27.toInt = a1.toInt) → K30 () σ23) ∧ ((z27.toInt = a1.toInt) → jn (fun (K36 : Int64 → HS → Prop) => ((x12.toInt = 0) → (0 ≤ x22.toInt ∧ x22.toInt < 16) ∧ ∀ z41 : Int64, z41 = sJ σ23 (L 65) x22.toInt.toNat → K36 z41 σ23) ∧ ((¬ x12.toInt = 0) → (0 ≤ x22.toInt ∧ x22.toInt < 16) ∧ ∀ z42 : Int64, z42 = sJ σ23 (L 66) x22.toInt.toNat → K36 z42 σ23)) (fun (x34 : Int64) (σ35 : HS) => ((¬ x34.toInt = x17.toInt) → K30 () σ35) ∧ ((x34.toInt = x17.toInt) → F_X12_give h0 L x22 3221225760 (fun (σ39 : HS) => post σ39) σ35)))) (fun (x28 : Unit) (σ29 : HS) => ∀ z33 : Int32, z33 = x22 + 1 → K24 z33 σ29))) 0 σ18))) σ7) ∧ ((¬ z8.toInt = (4 : Int32).toInt) → K4 () σ7)) σ)) (fun (x2 : Unit) (σ3 : HS) => post σ3)
theorem dX12_cancel_0 : decode cX12_cancel 0 = .ok (.aload_n 0, 1) := by decide +kernel
theorem dX12_cancel_1 : decode cX12_cancel 1 = .ok (.getfield 404, 3) := by decide +kernel
theorem dX12_cancel_4 : decode cX12_cancel 4 = .ok (.bipush 68, 2) := by decide +kernel
theorem dX12_cancel_6 : decode cX12_cancel 6 = .ok (.if_icmp .lt 13, 3) := by decide +kernel
theorem dX12_cancel_9 : decode cX12_cancel 9 = .ok (.aload_n 0, 1) := by decide +kernel
theorem dX12_cancel_10 : decode cX12_cancel 10 = .ok (.bipush 64, 2) := by decide +kernel
theorem dX12_cancel_12 : decode cX12_cancel 12 = .ok (.invokevirtual 415, 3) := by decide +kernel
theorem dX12_cancel_15 : decode cX12_cancel 15 = .ok (.iconst 4, 1) := by decide +kernel
theorem dX12_cancel_16 : decode cX12_cancel 16 = .ok (.if_icmp .eq 4, 3) := by decide +kernel
theorem dX12_cancel_19 : decode cX12_cancel 19 = .ok (.return_, 1) := by decide +kernel
theorem dX12_cancel_20 : decode cX12_cancel 20 = .ok (.aload_n 0, 1) := by decide +kernel
theorem dX12_cancel_21 : decode cX12_cancel 21 = .ok (.bipush 16, 2) := by decide +kernel
theorem dX12_cancel_23 : decode cX12_cancel 23 = .ok (.iconst 4, 1) := by decide +kernel
theorem dX12_cancel_24 : decode cX12_cancel 24 = .ok (.invokevirtual 364, 3) := by decide +kernel
theorem dX12_cancel_27 : decode cX12_cancel 27 = .ok (.ldc2_w 465, 3) := by decide +kernel
theorem dX12_cancel_30 : decode cX12_cancel 30 = .ok (.land, 1) := by decide +kernel
theorem dX12_cancel_31 : decode cX12_cancel 31 = .ok (.lconst 0, 1) := by decide +kernel
theorem dX12_cancel_32 : decode cX12_cancel 32 = .ok (.lcmp, 1) := by decide +kernel
theorem dX12_cancel_33 : decode cX12_cancel 33 = .ok (.ifCond .eq 7, 3) := by decide +kernel
theorem dX12_cancel_36 : decode cX12_cancel 36 = .ok (.iconst 1, 1) := by decide +kernel
theorem dX12_cancel_37 : decode cX12_cancel 37 = .ok (.goto 4, 3) := by decide +kernel
theorem dX12_cancel_40 : decode cX12_cancel 40 = .ok (.iconst 0, 1) := by decide +kernel
theorem dX12_cancel_41 : decode cX12_cancel 41 = .ok (.istore 4, 2) := by decide +kernel
theorem dX12_cancel_43 : decode cX12_cancel 43 = .ok (.iload 4, 2) := by decide +kernel
theorem dX12_cancel_45 : decode cX12_cancel 45 = .ok (.ifCond .eq 14, 3) := by decide +kernel
theorem dX12_cancel_48 : decode cX12_cancel 48 = .ok (.aload_n 0, 1) := by decide +kernel
theorem dX12_cancel_49 : decode cX12_cancel 49 = .ok (.bipush 32, 2) := by decide +kernel
theorem dX12_cancel_51 : decode cX12_cancel 51 = .ok (.bipush 8, 2) := by decide +kernel
theorem dX12_cancel_53 : decode cX12_cancel 53 = .ok (.invokevirtual 364, 3) := by decide +kernel
theorem dX12_cancel_56 : decode cX12_cancel 56 = .ok (.goto 4, 3) := by decide +kernel
theorem dX12_cancel_59 : decode cX12_cancel 59 = .ok (.lload_n 2, 1) := by decide +kernel
theorem dX12_cancel_60 : decode cX12_cancel 60 = .ok (.lstore 5, 2) := by decide +kernel
theorem dX12_cancel_62 : decode cX12_cancel 62 = .ok (.iconst 0, 1) := by decide +kernel
theorem dX12_cancel_63 : decode cX12_cancel 63 = .ok (.istore 7, 2) := by decide +kernel
theorem dX12_cancel_65 : decode cX12_cancel 65 = .ok (.iload 7, 2) := by decide +kernel
theorem dX12_cancel_67 : decode cX12_cancel 67 = .ok (.aload_n 0, 1) := by decide +kernel
theorem dX12_cancel_68 : decode cX12_cancel 68 = .ok (.getfield 292, 3) := by decide +kernel
theorem dX12_cancel_71 : decode cX12_cancel 71 = .ok (.if_icmp .ge 58, 3) := by decide +kernel
theorem dX12_cancel_74 : decode cX12_cancel 74 = .ok (.aload_n 0, 1) := by decide +kernel
theorem dX12_cancel_75 : decode cX12_cancel 75 = .ok (.getfield 199, 3) := by decide +kernel
theorem dX12_cancel_78 : decode cX12_cancel 78 = .ok (.iload 7, 2) := by decide +kernel
theorem dX12_cancel_80 : decode cX12_cancel 80 = .ok (.iaload, 1) := by decide +kernel
theorem dX12_cancel_81 : decode cX12_cancel 81 = .ok (.iload_n 1, 1) := by decide +kernel
theorem dX12_cancel_82 : decode cX12_cancel 82 = .ok (.if_icmp .ne 41, 3) := by decide +kernel
theorem dX12_cancel_85 : decode cX12_cancel 85 = .ok (.iload 4, 2) := by decide +kernel
theorem dX12_cancel_87 : decode cX12_cancel 87 = .ok (.ifCond .eq 13, 3) := by decide +kernel
theorem dX12_cancel_90 : decode cX12_cancel 90 = .ok (.aload_n 0, 1) := by decide +kernel
theorem dX12_cancel_91 : decode cX12_cancel 91 = .ok (.getfield 214, 3) := by decide +kernel
theorem dX12_cancel_94 : decode cX12_cancel 94 = .ok (.iload 7, 2) := by decide +kernel
theorem dX12_cancel_96 : decode cX12_cancel 96 = .ok (.laload, 1) := by decide +kernel
theorem dX12_cancel_97 : decode cX12_cancel 97 = .ok (.goto 10, 3) := by decide +kernel
theorem dX12_cancel_100 : decode cX12_cancel 100 = .ok (.aload_n 0, 1) := by decide +kernel
theorem dX12_cancel_101 : decode cX12_cancel 101 = .ok (.getfield 211, 3) := by decide +kernel
theorem dX12_cancel_104 : decode cX12_cancel 104 = .ok (.iload 7, 2) := by decide +kernel
theorem dX12_cancel_106 : decode cX12_cancel 106 = .ok (.laload, 1) := by decide +kernel
theorem dX12_cancel_107 : decode cX12_cancel 107 = .ok (.lload 5, 2) := by decide +kernel
theorem dX12_cancel_109 : decode cX12_cancel 109 = .ok (.lcmp, 1) := by decide +kernel
theorem dX12_cancel_110 : decode cX12_cancel 110 = .ok (.ifCond .ne 13, 3) := by decide +kernel
theorem dX12_cancel_113 : decode cX12_cancel 113 = .ok (.aload_n 0, 1) := by decide +kernel
theorem dX12_cancel_114 : decode cX12_cancel 114 = .ok (.iload 7, 2) := by decide +kernel
theorem dX12_cancel_116 : decode cX12_cancel 116 = .ok (.ldc2_w 584, 3) := by decide +kernel
theorem dX12_cancel_119 : decode cX12_cancel 119 = .ok (.invokevirtual 586, 3) := by decide +kernel
theorem dX12_cancel_122 : decode cX12_cancel 122 = .ok (.return_, 1) := by decide +kernel
theorem dX12_cancel_123 : decode cX12_cancel 123 = .ok (.iinc 7 1, 3) := by decide +kernel
theorem dX12_cancel_126 : decode cX12_cancel 126 = .ok (.goto (-61), 3) := by decide +kernel
theorem dX12_cancel_129 : decode cX12_cancel 129 = .ok (.return_, 1) := by decide +kernel
set_option maxRecDepth 100000 in
set_option maxHeartbeats 4000000 in
theorem c_X12_cancel (l : Launch) (D : va_G) (t : Nat → ClassId) (h0 : Nat) (L : Nat → Nat) (σ : HS) (hM : MdI h0 L σ) (a1 : Int32) (a2 : Int64) (post : HS → Prop) (hw : F_X12_cancel h0 L a1 a2 post σ) (sz : Nat) : RMv l D t yX12_cancel cX12_cancel 8 ({ frames := 4, cells := 0, slots := 0, locals := 108 }) h0 L σ sz [.ref h0, .int a1, .long a2] post := by
  refine h_go (τ := τT) okT (by decide) (Nat.le_of_ble_eq_true rfl) ?_
  intro p e s m below meth c ls A hF hr hlk hAe hH0 hA hl
  unfold hB
  rw [hAe]
  clear hAe
  have hF : FX p m c cX12_cancel 8 s _ RX12 D t := hF
  have hx := hF.1.1
  have hb := hF.1.2.1
  have hH : RT D t A s.heap h0 L σ s.heap [] := ⟨hH0, hM⟩
  have hl : lv_has ls 8 [(0, .ref h0), (1, .int a1), (2, .long a2)] := hl
  unfold F_X12_cancel at hw
  refine lv_aload_n hx hb dX12_cancel_0 rfl (lv_at hl 0 rfl) ?_
  refine w_getI hF hH fk_X12_404 dX12_cancel_1 hw (fun z1 hw => ?_)
  refine lv_bipush (v := 68) hx hb dX12_cancel_4 (by decide) ?_
  obtain ⟨K4, hK5, hw⟩ := jn_open hw
  refine w_join (K := K4) 19 (fun (x2 : Unit) => []) (fun (x2 : Unit) => []) hl hH (fun x2 σ3 ls H locs hl hw hH => ?_) (fun jn6 => ?_)
  · have hw := hK5 x2 σ3 hw
    have hl : lv_has ls 8 [] := hl
    exact w_retv hF hH hr hlk dX12_cancel_19 hw
  · skip
    refine w_icmp_lt (tgt := 19) hF dX12_cancel_6 rfl hw (fun hw => ?_) (fun hw => ?_)
    · have hl : lv_has ls 8 [] := lv_sub hl [] rfl
      exact jn6 () σ ls _ _ hl hw hH
    · refine lv_aload_n hx hb dX12_cancel_9 rfl (lv_at hl 0 rfl) ?_
      refine lv_bipush (v := 64) hx hb dX12_cancel_10 (by decide) ?_
      refine w_cVi (As := [.int 64]) (rest := []) hF hH hA mv_X12_415 (fun sz => c_X12_number2 l D t h0 L _ hH.2 64 _ hw sz) dX12_cancel_12 rfl rfl (by decide) rfl hl.1 (Nat.le_of_ble_eq_true rfl) (by decide) rfl (fun z8 σ7 H locs hw hH => ?_)
      refine lv_iconst (v := 4) hx hb dX12_cancel_15 (by decide) ?_
      refine w_icmp_eq (tgt := 20) hF dX12_cancel_16 rfl hw (fun hw => ?_) (fun hw => ?_)
      · refine lv_aload_n hx hb dX12_cancel_20 rfl (lv_at hl 0 rfl) ?_
        refine lv_bipush (v := 16) hx hb dX12_cancel_21 (by decide) ?_
        refine lv_iconst (v := 4) hx hb dX12_cancel_23 (by decide) ?_
        refine w_cVl (As := [.int 16, .int 4]) (rest := []) hF hH hA mv_X12_364 (fun sz => c_X12_number l D t h0 L _ hH.2 16 4 _ hw sz) dX12_cancel_24 rfl rfl (by decide) rfl hl.1 (Nat.le_of_ble_eq_true rfl) (by decide) rfl (fun z10 σ9 H locs hw hH => ?_)
        refine lv_ldc2 (v := 2) hx hb hF.1.2.2.2.1 (hF.1.2.2.2.2 _ (wc_51 22 rfl)) dX12_cancel_27 ?_
        refine lv_land hx hb dX12_cancel_30 ?_
        refine w_nml hw (fun z11 hw => ?_)
        refine lv_lconst (v := 0) hx hb dX12_cancel_31 (by decide) ?_
        obtain ⟨K14, hK15, hw⟩ := jn_open hw
        refine w_join (K := K14) 41 (fun (x12 : Int32) => [(2, .long a2), (1, .int a1), (0, .ref h0)]) (fun (x12 : Int32) => [.int x12]) hl hH (fun x12 σ13 ls H locs hl hw hH => ?_) (fun jn16 => ?_)
        · have hw := hK15 x12 σ13 hw
          have hl : lv_has ls 8 [(2, .long a2), (1, .int a1), (0, .ref h0)] := hl
          refine lv_istore (lv' := [(4, .int x12), (2, .long a2), (1, .int a1), (0, .ref h0)]) hx hb dX12_cancel_41 hl (by decide) rfl (fun ls hl => ?_)
          refine lv_iload hx hb dX12_cancel_43 (lv_at hl 0 rfl) ?_
          obtain ⟨K19, hK20, hw⟩ := jn_open hw
          refine w_join (K := K19) 60 (fun (x17 : Int64) => [(4, .int x12), (1, .int a1), (0, .ref h0)]) (fun (x17 : Int64) => [.long x17]) hl hH (fun x17 σ18 ls H locs hl hw hH => ?_) (fun jn21 => ?_)
          · have hw := hK20 x17 σ18 hw
            have hl : lv_has ls 8 [(4, .int x12), (1, .int a1), (0, .ref h0)] := hl
            refine lv_lstore (lv' := [(5, .long x17), (4, .int x12), (1, .int a1), (0, .ref h0)]) hx hb dX12_cancel_60 hl (by decide) rfl (fun ls hl => ?_)
            refine lv_iconst (v := 0) hx hb dX12_cancel_62 (by decide) ?_
            refine lv_istore (lv' := [(7, .int 0), (5, .long x17), (4, .int x12), (1, .int a1), (0, .ref h0)]) hx hb dX12_cancel_63 hl (by decide) rfl (fun ls hl => ?_)
            refine w_loop (β := Int32) (fun x22 => [(7, .int x22), (5, .long x17), (4, .int x12), (1, .int a1), (0, .ref h0)]) 0 hl hw hH (fun K24 x22 σ23 ls H locs hl hw hH ih25 => ?_)
            have hl : lv_has ls 8 [(7, .int x22), (5, .long x17), (4, .int x12), (1, .int a1), (0, .ref h0)] := hl
            refine lv_iload hx hb dX12_cancel_65 (lv_at hl 0 rfl) ?_
            refine lv_aload_n hx hb dX12_cancel_67 rfl (lv_at hl 4 rfl) ?_
            refine w_getI hF hH fk_X12_292 dX12_cancel_68 hw (fun z26 hw => ?_)
            refine w_icmp_ge (tgt := 129) hF dX12_cancel_71 rfl hw (fun hw => ?_) (fun hw => ?_)
            · exact w_retv hF hH hr hlk dX12_cancel_129 hw
            · refine lv_aload_n hx hb dX12_cancel_74 rfl (lv_at hl 4 rfl) ?_
              refine w_getA 61 hF hH fk_X12_199 dX12_cancel_75 (by decide) rfl ?_
              refine lv_iload hx hb dX12_cancel_78 (lv_at hl 0 rfl) ?_
              refine w_iald 61 16 hF hH dX12_cancel_80 (by decide) rfl rfl hw (fun z27 hw => ?_)
              refine lv_iload_n hx hb dX12_cancel_81 rfl (lv_at hl 3 rfl) ?_
              obtain ⟨K30, hK31, hw⟩ := jn_open hw
              refine w_join (K := K30) 123 (fun (x28 : Unit) => [(7, .int x22), (5, .long x17), (4, .int x12), (1, .int a1), (0, .ref h0)]) (fun (x28 : Unit) => []) hl hH (fun x28 σ29 ls H locs hl hw hH => ?_) (fun jn32 => ?_)
              · have hw := hK31 x28 σ29 hw
                have hl : lv_has ls 8 [(7, .int x22), (5, .long x17), (4, .int x12), (1, .int a1), (0, .ref h0)] := hl
                obtain ⟨z33, ez33⟩ : ∃ z : Int32, z = x22 + 1 := ⟨_, rfl⟩
                have hw := hw z33 ez33
                refine lv_iinc (lv' := [(7, .int z33), (5, .long x17), (4, .int x12), (1, .int a1), (0, .ref h0)]) (k := 0) (v := z33) hx hb dX12_cancel_123 hl rfl ez33.symm (by decide) rfl (fun ls hl => ?_)
                refine lv_goto (tgt := 65) hx hb dX12_cancel_126 rfl ?_
                exact ih25 z33 σ29 ls _ _ hl hw hH
              · skip
                refine w_icmp_ne (tgt := 123) hF dX12_cancel_82 rfl hw (fun hw => ?_) (fun hw => ?_)
                · exact jn32 () σ23 ls _ _ hl hw hH
                · refine lv_iload hx hb dX12_cancel_85 (lv_at hl 2 rfl) ?_
                  obtain ⟨K36, hK37, hw⟩ := jn_open hw
                  refine w_join (K := K36) 107 (fun (x34 : Int64) => [(7, .int x22), (5, .long x17), (4, .int x12), (1, .int a1), (0, .ref h0)]) (fun (x34 : Int64) => [.long x34]) hl hH (fun x34 σ35 ls H locs hl hw hH => ?_) (fun jn38 => ?_)
                  · have hw := hK37 x34 σ35 hw
                    have hl : lv_has ls 8 [(7, .int x22), (5, .long x17), (4, .int x12), (1, .int a1), (0, .ref h0)] := hl
                    refine lv_lload hx hb dX12_cancel_107 (lv_at hl 1 rfl) ?_
                    refine w_lif_ne (tgt := 123) hF dX12_cancel_109 dX12_cancel_110 rfl hw (fun hw => ?_) (fun hw => ?_)
                    · exact jn32 () σ35 ls _ _ hl hw hH
                    · refine lv_aload_n hx hb dX12_cancel_113 rfl (lv_at hl 4 rfl) ?_
                      refine lv_iload hx hb dX12_cancel_114 (lv_at hl 0 rfl) ?_
                      refine lv_ldc2 (v := 3221225760) hx hb hF.1.2.2.2.1 (hF.1.2.2.2.2 _ (wc_48 6 rfl)) dX12_cancel_116 ?_
                      refine w_cVv (As := [.int x22, .long 3221225760]) (rest := []) hF hH hA mv_X12_586 (fun sz => c_X12_give l D t h0 L _ hH.2 x22 3221225760 _ hw sz) dX12_cancel_119 rfl rfl (by decide) rfl hl.1 (Nat.le_of_ble_eq_true rfl) (by decide) rfl (fun σ39 H locs hw hH => ?_)
                      exact w_retv hF hH hr hlk dX12_cancel_122 hw
                  · skip
                    refine w_if_eq (tgt := 100) hF dX12_cancel_87 rfl hw (fun hw => ?_) (fun hw => ?_)
                    · refine lv_aload_n hx hb dX12_cancel_100 rfl (lv_at hl 4 rfl) ?_
                      refine w_getA 65 hF hH fk_X12_211 dX12_cancel_101 (by decide) rfl ?_
                      refine lv_iload hx hb dX12_cancel_104 (lv_at hl 0 rfl) ?_
                      refine w_lald 65 16 hF hH dX12_cancel_106 (by decide) rfl rfl hw (fun z41 hw => ?_)
                      exact jn38 z41 σ23 ls _ _ hl hw hH
                    · refine lv_aload_n hx hb dX12_cancel_90 rfl (lv_at hl 4 rfl) ?_
                      refine w_getA 66 hF hH fk_X12_214 dX12_cancel_91 (by decide) rfl ?_
                      refine lv_iload hx hb dX12_cancel_94 (lv_at hl 0 rfl) ?_
                      refine w_lald 66 16 hF hH dX12_cancel_96 (by decide) rfl rfl hw (fun z42 hw => ?_)
                      refine lv_goto (tgt := 107) hx hb dX12_cancel_97 rfl ?_
                      exact jn38 z42 σ23 ls _ _ hl hw hH
          · skip
            refine w_if_eq (tgt := 59) hF dX12_cancel_45 rfl hw (fun hw => ?_) (fun hw => ?_)
            · refine lv_lload_n hx hb dX12_cancel_59 rfl (lv_at hl 1 rfl) ?_
              have hl : lv_has ls 8 [(4, .int x12), (1, .int a1), (0, .ref h0)] := lv_sub hl [0, 2, 3] rfl
              exact jn21 a2 σ13 ls _ _ hl hw hH
            · refine lv_aload_n hx hb dX12_cancel_48 rfl (lv_at hl 3 rfl) ?_
              refine lv_bipush (v := 32) hx hb dX12_cancel_49 (by decide) ?_
              refine lv_bipush (v := 8) hx hb dX12_cancel_51 (by decide) ?_
              refine w_cVl (As := [.int 32, .int 8]) (rest := []) hF hH hA mv_X12_364 (fun sz => c_X12_number l D t h0 L _ hH.2 32 8 _ hw sz) dX12_cancel_53 rfl rfl (by decide) rfl hl.1 (Nat.le_of_ble_eq_true rfl) (by decide) rfl (fun z44 σ43 H locs hw hH => ?_)
              refine lv_goto (tgt := 60) hx hb dX12_cancel_56 rfl ?_
              have hl : lv_has ls 8 [(4, .int x12), (1, .int a1), (0, .ref h0)] := lv_sub hl [0, 2, 3] rfl
              exact jn21 z44 σ43 ls _ _ hl hw hH
        · skip
          refine w_lif_eq (tgt := 40) hF dX12_cancel_32 dX12_cancel_33 rfl hw (fun hw => ?_) (fun hw => ?_)
          · refine lv_iconst (v := 0) hx hb dX12_cancel_40 (by decide) ?_
            have hl : lv_has ls 8 [(2, .long a2), (1, .int a1), (0, .ref h0)] := lv_sub hl [2, 1, 0] rfl
            exact jn16 0 σ9 ls _ _ hl hw hH
          · refine lv_iconst (v := 1) hx hb dX12_cancel_36 (by decide) ?_
            refine lv_goto (tgt := 41) hx hb dX12_cancel_37 rfl ?_
            have hl : lv_has ls 8 [(2, .long a2), (1, .int a1), (0, .ref h0)] := lv_sub hl [2, 1, 0] rfl
            exact jn16 1 σ9 ls _ _ hl hw hH
      · have hl : lv_has ls 8 [] := lv_sub hl [] rfl
        exact jn6 () σ7 ls _ _ hl hw hH

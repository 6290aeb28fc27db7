/-! the reference, lifted: 8 -/
def F_X12_connectTree (h0 : Nat) (L : Nat → Nat)  (post : Int64 → HS → Prop) (σ : HS) : Prop := F_X12_number2 h0 L 68 (fun (z2 : Int32) (σ1 : HS) => F_X12_number2 h0 L 70 (fun (z4 : Int32) (σ3 : HS) => ∀ z5 : Int32, z5 = z4 - z4 / 2 * 2 → ((z5.toInt = 0) → ∀ z6 : Int32, z6 = z4 / 2 → lw (fun (K9 : (Int32 × Int32) → HS → Prop) (x7 : Int32 × Int32) (σ8 : HS) => ((z6.toInt ≤ x7.1.toInt) → lw (fun (K13 : (Int32 × Int32) → HS → Prop) (x11 : Int32 × Int32) (σ12 : HS) => (((4 : Int32).toInt ≤ x11.1.toInt) → ((0 ≤ x11.2.toInt) → F_X12_vacant h0 L 38 16 (fun (z16 : Int32) (σ15 : HS) => ((¬ z16.toInt = (16 : Int32).toInt) → ∀ z17 : Int64, z17 = sJ σ15 h0 60 → ∀ z18 : Int64, z18 = z17 + 1 → ∀ σ19 : HS, σ19 = h_uJ σ15 h0 60 z18 → ∀ z20 : Int64, z20 = sJ σ19 h0 60 → (0 ≤ z16.toInt ∧ z16.toInt < 16) ∧ ∀ σ21 : HS, σ21 = h_uJ σ19 (L 38) z16.toInt.toNat z20 → ∀ z22 : Int32, z22 = sI σ21 h0 98 → (0 ≤ z16.toInt ∧ z16.toInt < 16) ∧ ∀ σ23 : HS, σ23 = h_uI σ21 (L 39) z16.toInt.toNat z22 → (0 ≤ z16.toInt ∧ z16.toInt < 16) ∧ ∀ σ24 : HS, σ24 = h_uI σ23 (L 40) z16.toInt.toNat x11.2 → ∀ z25 : Int64, z25 = sJ σ24 h0 60 → ∀ σ26 : HS, σ26 = h_uJ σ24 h0 97 z25 → F_X12_body h0 L 16 (fun (σ27 : HS) => F_X12_set h0 L 64 2 16 (fun (σ29 : HS) => F_X12_set h0 L 66 1 1 (fun (σ31 : HS) => F_X12_set h0 L 76 4 2032127 (fun (σ33 : HS) => post 0 σ33) σ31) σ29) σ27) σ26) ∧ ((z16.toInt = (16 : Int32).toInt) → post 3221225626 σ15)) σ12) ∧ ((x11.2.toInt < 0) → post 3221225676 σ12)) ∧ ((x11.1.toInt < (4 : Int32).toInt) → (0 ≤ x11.1.toInt ∧ x11.1.toInt < 4) ∧ ∀ z35 : Int32, z35 = sI σ12 (L 11) x11.1.toInt.toNat → jn (fun (K38 : Int32 → HS → Prop) => jn (fun (K76 : Unit → HS → Prop) => ((z35.toInt < 0) → K76 () σ12) ∧ ((0 ≤ z35.toInt) → (0 ≤ x11.1.toInt ∧ x11.1.toInt < 4) ∧ ∀ z79 : Int32, z79 = sI σ12 (L 13) x11.1.toInt.toNat → ∀ z80 : Int32, z80 = z6 - x7.2 → ((¬ z79.toInt = z80.toInt) → K76 () σ12) ∧ ((z79.toInt = z80.toInt) → K38 1 σ12))) (fun (x74 : Unit) (σ75 : HS) => K38 0 σ75)) (fun (x36 : Int32) (σ37 : HS) => lw (fun (K43 : (Int32 × Int32) → HS → Prop) (x41 : Int32 × Int32) (σ42 : HS) => jn (fun (K47 : Unit → HS → Prop) => ((z6.toInt ≤ x41.1.toInt) → K47 () σ42) ∧ ((x41.1.toInt < z6.toInt) → ((x41.2.toInt = 0) → K47 () σ42) ∧ ((¬ x41.2.toInt = 0) → ∀ z56 : Int32, z56 = 2 * x41.1 → ∀ z57 : Int32, z57 = z2 + z56 → F_X12_number2 h0 L z57 (fun (z59 : Int32) (σ58 : HS) => F_X12_folded h0 L z59 (fun (z61 : Int32) (σ60 : HS) => ∀ z62 : Int32, z62 = 12 * x11.1 → ∀ z63 : Int32, z63 = z62 + x41.1 → ∀ z64 : Int32, z64 = z63 - x7.2 → (0 ≤ z64.toInt ∧ z64.toInt < 48) ∧ ∀ z65 : Int32, z65 = sI σ60 (L 12) z64.toInt.toNat → F_X12_folded h0 L z65 (fun (z67 : Int32) (σ66 : HS) => jn (fun (K70 : Int32 → HS → Prop) => ((¬ z61.toInt = z67.toInt) → K70 0 σ66) ∧ ((z61.toInt = z67.toInt) → K70 1 σ66)) (fun (x68 : Int32) (σ69 : HS) => ∀ z73 : Int32, z73 = x41.1 + 1 → K43 (z73, x68) σ69)) σ60) σ58) σ42))) (fun (x45 : Unit) (σ46 : HS) => jn (fun (K52 : Int32 → HS → Prop) => ((x41.2.toInt = 0) → K52 x11.2 σ46) ∧ ((¬ x41.2.toInt = 0) → K52 x11.1 σ46)) (fun (x50 : Int32) (σ51 : HS) => ∀ z55 : Int32, z55 = x11.1 + 1 → K13 (z55, x50) σ51))) (x7.2, x36) σ37))) (0, (-1)) σ8) ∧ ((x7.1.toInt < z6.toInt) → ∀ z81 : Int32, z81 = 2 * x7.1 → ∀ z82 : Int32, z82 = z2 + z81 → F_X12_number2 h0 L z82 (fun (z84 : Int32) (σ83 : HS) => jn (fun (K87 : Int32 → HS → Prop) => ((¬ z84.toInt = (92 : Int32).toInt) → K87 x7.2 σ83) ∧ ((z84.toInt = (92 : Int32).toInt) → ∀ z91 : Int32, z91 = x7.1 + 1 → K87 z91 σ83)) (fun (x85 : Int32) (σ86 : HS) => ∀ z90 : Int32, z90 = x7.1 + 1 → K9 (z90, x85) σ86)) σ8)) (0, 0) σ3) ∧ ((¬ z5.toInt = 0) → post 3221225485 σ3)) σ1) σ
theorem dX12_connectTree_0 : decode cX12_connectTree 0 = .ok (.aload_n 0, 1) := by decide +kernel
theorem dX12_connectTree_1 : decode cX12_connectTree 1 = .ok (.bipush 68, 2) := by decide +kernel
theorem dX12_connectTree_3 : decode cX12_connectTree 3 = .ok (.invokevirtual 415, 3) := by decide +kernel
theorem dX12_connectTree_6 : decode cX12_connectTree 6 = .ok (.istore_n 1, 1) := by decide +kernel
theorem dX12_connectTree_7 : decode cX12_connectTree 7 = .ok (.aload_n 0, 1) := by decide +kernel
theorem dX12_connectTree_8 : decode cX12_connectTree 8 = .ok (.bipush 70, 2) := by decide +kernel
theorem dX12_connectTree_10 : decode cX12_connectTree 10 = .ok (.invokevirtual 415, 3) := by decide +kernel
theorem dX12_connectTree_13 : decode cX12_connectTree 13 = .ok (.istore_n 2, 1) := by decide +kernel
theorem dX12_connectTree_14 : decode cX12_connectTree 14 = .ok (.iload_n 2, 1) := by decide +kernel
theorem dX12_connectTree_15 : decode cX12_connectTree 15 = .ok (.iconst 2, 1) := by decide +kernel
theorem dX12_connectTree_16 : decode cX12_connectTree 16 = .ok (.irem, 1) := by decide +kernel
theorem dX12_connectTree_17 : decode cX12_connectTree 17 = .ok (.ifCond .eq 7, 3) := by decide +kernel
theorem dX12_connectTree_20 : decode cX12_connectTree 20 = .ok (.ldc2_w 518, 3) := by decide +kernel
theorem dX12_connectTree_23 : decode cX12_connectTree 23 = .ok (.lreturn, 1) := by decide +kernel
theorem dX12_connectTree_24 : decode cX12_connectTree 24 = .ok (.iload_n 2, 1) := by decide +kernel
theorem dX12_connectTree_25 : decode cX12_connectTree 25 = .ok (.iconst 2, 1) := by decide +kernel
theorem dX12_connectTree_26 : decode cX12_connectTree 26 = .ok (.idiv, 1) := by decide +kernel
theorem dX12_connectTree_27 : decode cX12_connectTree 27 = .ok (.istore_n 3, 1) := by decide +kernel
theorem dX12_connectTree_28 : decode cX12_connectTree 28 = .ok (.iconst 0, 1) := by decide +kernel
theorem dX12_connectTree_29 : decode cX12_connectTree 29 = .ok (.istore 4, 2) := by decide +kernel
theorem dX12_connectTree_31 : decode cX12_connectTree 31 = .ok (.iconst 0, 1) := by decide +kernel
theorem dX12_connectTree_32 : decode cX12_connectTree 32 = .ok (.istore 5, 2) := by decide +kernel
theorem dX12_connectTree_34 : decode cX12_connectTree 34 = .ok (.iload 5, 2) := by decide +kernel
theorem dX12_connectTree_36 : decode cX12_connectTree 36 = .ok (.iload_n 3, 1) := by decide +kernel
theorem dX12_connectTree_37 : decode cX12_connectTree 37 = .ok (.if_icmp .ge 35, 3) := by decide +kernel
theorem dX12_connectTree_40 : decode cX12_connectTree 40 = .ok (.aload_n 0, 1) := by decide +kernel
theorem dX12_connectTree_41 : decode cX12_connectTree 41 = .ok (.iload_n 1, 1) := by decide +kernel
theorem dX12_connectTree_42 : decode cX12_connectTree 42 = .ok (.iconst 2, 1) := by decide +kernel
theorem dX12_connectTree_43 : decode cX12_connectTree 43 = .ok (.iload 5, 2) := by decide +kernel
theorem dX12_connectTree_45 : decode cX12_connectTree 45 = .ok (.imul, 1) := by decide +kernel
theorem dX12_connectTree_46 : decode cX12_connectTree 46 = .ok (.iadd, 1) := by decide +kernel
theorem dX12_connectTree_47 : decode cX12_connectTree 47 = .ok (.invokevirtual 415, 3) := by decide +kernel
theorem dX12_connectTree_50 : decode cX12_connectTree 50 = .ok (.bipush 92, 2) := by decide +kernel
theorem dX12_connectTree_52 : decode cX12_connectTree 52 = .ok (.if_icmp .ne 10, 3) := by decide +kernel
theorem dX12_connectTree_55 : decode cX12_connectTree 55 = .ok (.iload 5, 2) := by decide +kernel
theorem dX12_connectTree_57 : decode cX12_connectTree 57 = .ok (.iconst 1, 1) := by decide +kernel
theorem dX12_connectTree_58 : decode cX12_connectTree 58 = .ok (.iadd, 1) := by decide +kernel
theorem dX12_connectTree_59 : decode cX12_connectTree 59 = .ok (.goto 5, 3) := by decide +kernel
theorem dX12_connectTree_62 : decode cX12_connectTree 62 = .ok (.iload 4, 2) := by decide +kernel
theorem dX12_connectTree_64 : decode cX12_connectTree 64 = .ok (.istore 4, 2) := by decide +kernel
theorem dX12_connectTree_66 : decode cX12_connectTree 66 = .ok (.iinc 5 1, 3) := by decide +kernel
theorem dX12_connectTree_69 : decode cX12_connectTree 69 = .ok (.goto (-35), 3) := by decide +kernel
theorem dX12_connectTree_72 : decode cX12_connectTree 72 = .ok (.iconst (-1), 1) := by decide +kernel
theorem dX12_connectTree_73 : decode cX12_connectTree 73 = .ok (.istore 5, 2) := by decide +kernel
theorem dX12_connectTree_75 : decode cX12_connectTree 75 = .ok (.iconst 0, 1) := by decide +kernel
theorem dX12_connectTree_76 : decode cX12_connectTree 76 = .ok (.istore 6, 2) := by decide +kernel
theorem dX12_connectTree_78 : decode cX12_connectTree 78 = .ok (.iload 6, 2) := by decide +kernel
theorem dX12_connectTree_80 : decode cX12_connectTree 80 = .ok (.iconst 4, 1) := by decide +kernel
theorem dX12_connectTree_81 : decode cX12_connectTree 81 = .ok (.if_icmp .ge 117, 3) := by decide +kernel
theorem dX12_connectTree_84 : decode cX12_connectTree 84 = .ok (.aload_n 0, 1) := by decide +kernel
theorem dX12_connectTree_85 : decode cX12_connectTree 85 = .ok (.getfield 47, 3) := by decide +kernel
theorem dX12_connectTree_88 : decode cX12_connectTree 88 = .ok (.iload 6, 2) := by decide +kernel
theorem dX12_connectTree_90 : decode cX12_connectTree 90 = .ok (.iaload, 1) := by decide +kernel
theorem dX12_connectTree_91 : decode cX12_connectTree 91 = .ok (.ifCond .lt 21, 3) := by decide +kernel
theorem dX12_connectTree_94 : decode cX12_connectTree 94 = .ok (.aload_n 0, 1) := by decide +kernel
theorem dX12_connectTree_95 : decode cX12_connectTree 95 = .ok (.getfield 53, 3) := by decide +kernel
theorem dX12_connectTree_98 : decode cX12_connectTree 98 = .ok (.iload 6, 2) := by decide +kernel
theorem dX12_connectTree_100 : decode cX12_connectTree 100 = .ok (.iaload, 1) := by decide +kernel
theorem dX12_connectTree_101 : decode cX12_connectTree 101 = .ok (.iload_n 3, 1) := by decide +kernel
theorem dX12_connectTree_102 : decode cX12_connectTree 102 = .ok (.iload 4, 2) := by decide +kernel
theorem dX12_connectTree_104 : decode cX12_connectTree 104 = .ok (.isub, 1) := by decide +kernel
theorem dX12_connectTree_105 : decode cX12_connectTree 105 = .ok (.if_icmp .ne 7, 3) := by decide +kernel
theorem dX12_connectTree_108 : decode cX12_connectTree 108 = .ok (.iconst 1, 1) := by decide +kernel
theorem dX12_connectTree_109 : decode cX12_connectTree 109 = .ok (.goto 4, 3) := by decide +kernel
theorem dX12_connectTree_112 : decode cX12_connectTree 112 = .ok (.iconst 0, 1) := by decide +kernel
theorem dX12_connectTree_113 : decode cX12_connectTree 113 = .ok (.istore 7, 2) := by decide +kernel
theorem dX12_connectTree_115 : decode cX12_connectTree 115 = .ok (.iload 4, 2) := by decide +kernel
theorem dX12_connectTree_117 : decode cX12_connectTree 117 = .ok (.istore 8, 2) := by decide +kernel
theorem dX12_connectTree_119 : decode cX12_connectTree 119 = .ok (.iload 8, 2) := by decide +kernel
theorem dX12_connectTree_121 : decode cX12_connectTree 121 = .ok (.iload_n 3, 1) := by decide +kernel
theorem dX12_connectTree_122 : decode cX12_connectTree 122 = .ok (.if_icmp .ge 56, 3) := by decide +kernel
theorem dX12_connectTree_125 : decode cX12_connectTree 125 = .ok (.iload 7, 2) := by decide +kernel
theorem dX12_connectTree_127 : decode cX12_connectTree 127 = .ok (.ifCond .eq 51, 3) := by decide +kernel
theorem dX12_connectTree_130 : decode cX12_connectTree 130 = .ok (.aload_n 0, 1) := by decide +kernel
theorem dX12_connectTree_131 : decode cX12_connectTree 131 = .ok (.iload_n 1, 1) := by decide +kernel
theorem dX12_connectTree_132 : decode cX12_connectTree 132 = .ok (.iconst 2, 1) := by decide +kernel
theorem dX12_connectTree_133 : decode cX12_connectTree 133 = .ok (.iload 8, 2) := by decide +kernel
theorem dX12_connectTree_135 : decode cX12_connectTree 135 = .ok (.imul, 1) := by decide +kernel
theorem dX12_connectTree_136 : decode cX12_connectTree 136 = .ok (.iadd, 1) := by decide +kernel
theorem dX12_connectTree_137 : decode cX12_connectTree 137 = .ok (.invokevirtual 415, 3) := by decide +kernel
theorem dX12_connectTree_140 : decode cX12_connectTree 140 = .ok (.invokestatic 311, 3) := by decide +kernel
theorem dX12_connectTree_143 : decode cX12_connectTree 143 = .ok (.aload_n 0, 1) := by decide +kernel
theorem dX12_connectTree_144 : decode cX12_connectTree 144 = .ok (.getfield 50, 3) := by decide +kernel
theorem dX12_connectTree_147 : decode cX12_connectTree 147 = .ok (.bipush 12, 2) := by decide +kernel
theorem dX12_connectTree_149 : decode cX12_connectTree 149 = .ok (.iload 6, 2) := by decide +kernel
theorem dX12_connectTree_151 : decode cX12_connectTree 151 = .ok (.imul, 1) := by decide +kernel
theorem dX12_connectTree_152 : decode cX12_connectTree 152 = .ok (.iload 8, 2) := by decide +kernel
theorem dX12_connectTree_154 : decode cX12_connectTree 154 = .ok (.iadd, 1) := by decide +kernel
theorem dX12_connectTree_155 : decode cX12_connectTree 155 = .ok (.iload 4, 2) := by decide +kernel
theorem dX12_connectTree_157 : decode cX12_connectTree 157 = .ok (.isub, 1) := by decide +kernel
theorem dX12_connectTree_158 : decode cX12_connectTree 158 = .ok (.baload, 1) := by decide +kernel
theorem dX12_connectTree_159 : decode cX12_connectTree 159 = .ok (.invokestatic 311, 3) := by decide +kernel
theorem dX12_connectTree_162 : decode cX12_connectTree 162 = .ok (.if_icmp .ne 7, 3) := by decide +kernel
theorem dX12_connectTree_165 : decode cX12_connectTree 165 = .ok (.iconst 1, 1) := by decide +kernel
theorem dX12_connectTree_166 : decode cX12_connectTree 166 = .ok (.goto 4, 3) := by decide +kernel
theorem dX12_connectTree_169 : decode cX12_connectTree 169 = .ok (.iconst 0, 1) := by decide +kernel
theorem dX12_connectTree_170 : decode cX12_connectTree 170 = .ok (.istore 7, 2) := by decide +kernel
theorem dX12_connectTree_172 : decode cX12_connectTree 172 = .ok (.iinc 8 1, 3) := by decide +kernel
theorem dX12_connectTree_175 : decode cX12_connectTree 175 = .ok (.goto (-56), 3) := by decide +kernel
theorem dX12_connectTree_178 : decode cX12_connectTree 178 = .ok (.iload 7, 2) := by decide +kernel
theorem dX12_connectTree_180 : decode cX12_connectTree 180 = .ok (.ifCond .eq 8, 3) := by decide +kernel
theorem dX12_connectTree_183 : decode cX12_connectTree 183 = .ok (.iload 6, 2) := by decide +kernel
theorem dX12_connectTree_185 : decode cX12_connectTree 185 = .ok (.goto 5, 3) := by decide +kernel
theorem dX12_connectTree_188 : decode cX12_connectTree 188 = .ok (.iload 5, 2) := by decide +kernel
theorem dX12_connectTree_190 : decode cX12_connectTree 190 = .ok (.istore 5, 2) := by decide +kernel
theorem dX12_connectTree_192 : decode cX12_connectTree 192 = .ok (.iinc 6 1, 3) := by decide +kernel
theorem dX12_connectTree_195 : decode cX12_connectTree 195 = .ok (.goto (-117), 3) := by decide +kernel
theorem dX12_connectTree_198 : decode cX12_connectTree 198 = .ok (.iload 5, 2) := by decide +kernel
theorem dX12_connectTree_200 : decode cX12_connectTree 200 = .ok (.ifCond .ge 7, 3) := by decide +kernel
theorem dX12_connectTree_203 : decode cX12_connectTree 203 = .ok (.ldc2_w 611, 3) := by decide +kernel
theorem dX12_connectTree_206 : decode cX12_connectTree 206 = .ok (.lreturn, 1) := by decide +kernel
theorem dX12_connectTree_207 : decode cX12_connectTree 207 = .ok (.aload_n 0, 1) := by decide +kernel
theorem dX12_connectTree_208 : decode cX12_connectTree 208 = .ok (.aload_n 0, 1) := by decide +kernel
theorem dX12_connectTree_209 : decode cX12_connectTree 209 = .ok (.getfield 130, 3) := by decide +kernel
theorem dX12_connectTree_212 : decode cX12_connectTree 212 = .ok (.invokevirtual 603, 3) := by decide +kernel
theorem dX12_connectTree_215 : decode cX12_connectTree 215 = .ok (.istore 6, 2) := by decide +kernel
theorem dX12_connectTree_217 : decode cX12_connectTree 217 = .ok (.iload 6, 2) := by decide +kernel
theorem dX12_connectTree_219 : decode cX12_connectTree 219 = .ok (.bipush 16, 2) := by decide +kernel
theorem dX12_connectTree_221 : decode cX12_connectTree 221 = .ok (.if_icmp .ne 7, 3) := by decide +kernel
theorem dX12_connectTree_224 : decode cX12_connectTree 224 = .ok (.ldc2_w 607, 3) := by decide +kernel
theorem dX12_connectTree_227 : decode cX12_connectTree 227 = .ok (.lreturn, 1) := by decide +kernel
theorem dX12_connectTree_228 : decode cX12_connectTree 228 = .ok (.aload_n 0, 1) := by decide +kernel
theorem dX12_connectTree_229 : decode cX12_connectTree 229 = .ok (.dup, 1) := by decide +kernel
theorem dX12_connectTree_230 : decode cX12_connectTree 230 = .ok (.getfield 299, 3) := by decide +kernel
theorem dX12_connectTree_233 : decode cX12_connectTree 233 = .ok (.lconst 1, 1) := by decide +kernel
theorem dX12_connectTree_234 : decode cX12_connectTree 234 = .ok (.ladd, 1) := by decide +kernel
theorem dX12_connectTree_235 : decode cX12_connectTree 235 = .ok (.putfield 299, 3) := by decide +kernel
theorem dX12_connectTree_238 : decode cX12_connectTree 238 = .ok (.aload_n 0, 1) := by decide +kernel
theorem dX12_connectTree_239 : decode cX12_connectTree 239 = .ok (.getfield 130, 3) := by decide +kernel
theorem dX12_connectTree_242 : decode cX12_connectTree 242 = .ok (.iload 6, 2) := by decide +kernel
theorem dX12_connectTree_244 : decode cX12_connectTree 244 = .ok (.aload_n 0, 1) := by decide +kernel
theorem dX12_connectTree_245 : decode cX12_connectTree 245 = .ok (.getfield 299, 3) := by decide +kernel
theorem dX12_connectTree_248 : decode cX12_connectTree 248 = .ok (.lastore, 1) := by decide +kernel
theorem dX12_connectTree_249 : decode cX12_connectTree 249 = .ok (.aload_n 0, 1) := by decide +kernel
theorem dX12_connectTree_250 : decode cX12_connectTree 250 = .ok (.getfield 133, 3) := by decide +kernel
theorem dX12_connectTree_253 : decode cX12_connectTree 253 = .ok (.iload 6, 2) := by decide +kernel
theorem dX12_connectTree_255 : decode cX12_connectTree 255 = .ok (.aload_n 0, 1) := by decide +kernel
theorem dX12_connectTree_256 : decode cX12_connectTree 256 = .ok (.getfield 492, 3) := by decide +kernel
theorem dX12_connectTree_259 : decode cX12_connectTree 259 = .ok (.iastore, 1) := by decide +kernel
theorem dX12_connectTree_260 : decode cX12_connectTree 260 = .ok (.aload_n 0, 1) := by decide +kernel
theorem dX12_connectTree_261 : decode cX12_connectTree 261 = .ok (.getfield 136, 3) := by decide +kernel
theorem dX12_connectTree_264 : decode cX12_connectTree 264 = .ok (.iload 6, 2) := by decide +kernel
theorem dX12_connectTree_266 : decode cX12_connectTree 266 = .ok (.iload 5, 2) := by decide +kernel
theorem dX12_connectTree_268 : decode cX12_connectTree 268 = .ok (.iastore, 1) := by decide +kernel
theorem dX12_connectTree_269 : decode cX12_connectTree 269 = .ok (.aload_n 0, 1) := by decide +kernel
theorem dX12_connectTree_270 : decode cX12_connectTree 270 = .ok (.aload_n 0, 1) := by decide +kernel
theorem dX12_connectTree_271 : decode cX12_connectTree 271 = .ok (.getfield 299, 3) := by decide +kernel
theorem dX12_connectTree_274 : decode cX12_connectTree 274 = .ok (.putfield 437, 3) := by decide +kernel
theorem dX12_connectTree_277 : decode cX12_connectTree 277 = .ok (.aload_n 0, 1) := by decide +kernel
theorem dX12_connectTree_278 : decode cX12_connectTree 278 = .ok (.bipush 16, 2) := by decide +kernel
theorem dX12_connectTree_280 : decode cX12_connectTree 280 = .ok (.invokevirtual 456, 3) := by decide +kernel
theorem dX12_connectTree_283 : decode cX12_connectTree 283 = .ok (.aload_n 0, 1) := by decide +kernel
theorem dX12_connectTree_284 : decode cX12_connectTree 284 = .ok (.bipush 64, 2) := by decide +kernel
theorem dX12_connectTree_286 : decode cX12_connectTree 286 = .ok (.iconst 2, 1) := by decide +kernel
theorem dX12_connectTree_287 : decode cX12_connectTree 287 = .ok (.ldc2_w 613, 3) := by decide +kernel
theorem dX12_connectTree_290 : decode cX12_connectTree 290 = .ok (.invokevirtual 376, 3) := by decide +kernel
theorem dX12_connectTree_293 : decode cX12_connectTree 293 = .ok (.aload_n 0, 1) := by decide +kernel
theorem dX12_connectTree_294 : decode cX12_connectTree 294 = .ok (.bipush 66, 2) := by decide +kernel
theorem dX12_connectTree_296 : decode cX12_connectTree 296 = .ok (.iconst 1, 1) := by decide +kernel
theorem dX12_connectTree_297 : decode cX12_connectTree 297 = .ok (.lconst 1, 1) := by decide +kernel
theorem dX12_connectTree_298 : decode cX12_connectTree 298 = .ok (.invokevirtual 376, 3) := by decide +kernel
theorem dX12_connectTree_301 : decode cX12_connectTree 301 = .ok (.aload_n 0, 1) := by decide +kernel
theorem dX12_connectTree_302 : decode cX12_connectTree 302 = .ok (.bipush 76, 2) := by decide +kernel
theorem dX12_connectTree_304 : decode cX12_connectTree 304 = .ok (.iconst 4, 1) := by decide +kernel
theorem dX12_connectTree_305 : decode cX12_connectTree 305 = .ok (.ldc2_w 615, 3) := by decide +kernel
theorem dX12_connectTree_308 : decode cX12_connectTree 308 = .ok (.invokevirtual 376, 3) := by decide +kernel
theorem dX12_connectTree_311 : decode cX12_connectTree 311 = .ok (.lconst 0, 1) := by decide +kernel
theorem dX12_connectTree_312 : decode cX12_connectTree 312 = .ok (.lreturn, 1) := by decide +kernel
set_option maxRecDepth 100000 in
set_option maxHeartbeats 4000000 in
theorem c_X12_connectTree (l : Launch) (D : va_G) (t : Nat → ClassId) (h0 : Nat) (L : Nat → Nat) (σ : HS) (hM : MdI h0 L σ)  (post : Int64 → HS → Prop) (hw : F_X12_connectTree h0 L  post σ) (sz : Nat) : RMl l D t yX12_connectTree cX12_connectTree 9 (some .long) ({ frames := 2, cells := 0, slots := 0, locals := 46 }) h0 L σ sz [.ref h0] post := by
  refine h_go (τ := τT) okT (by decide) (Nat.le_of_ble_eq_true rfl) ?_
  intro p e s m below meth c ls A hF hr hlk hAe hH0 hA hl
  unfold hB
  rw [hAe]
  clear hAe
  have hF : FX p m c cX12_connectTree 9 s _ RX12 D t := hF
  have hx := hF.1.1
  have hb := hF.1.2.1
  have hH : RT D t A s.heap h0 L σ s.heap [] := ⟨hH0, hM⟩
  have hl : lv_has ls 9 [(0, .ref h0)] := hl
  unfold F_X12_connectTree at hw
  refine lv_aload_n hx hb dX12_connectTree_0 rfl (lv_at hl 0 rfl) ?_
  refine lv_bipush (v := 68) hx hb dX12_connectTree_1 (by decide) ?_
  refine w_cVi (As := [.int 68]) (rest := []) hF hH hA mv_X12_415 (fun sz => c_X12_number2 l D t h0 L _ hH.2 68 _ hw sz) dX12_connectTree_3 rfl rfl (by decide) rfl hl.1 (Nat.le_of_ble_eq_true rfl) (by decide) rfl (fun z2 σ1 H locs hw hH => ?_)
  refine lv_istore_n (lv' := [(1, .int z2), (0, .ref h0)]) hx hb dX12_connectTree_6 rfl hl (by decide) rfl (fun ls hl => ?_)
  refine lv_aload_n hx hb dX12_connectTree_7 rfl (lv_at hl 1 rfl) ?_
  refine lv_bipush (v := 70) hx hb dX12_connectTree_8 (by decide) ?_
  refine w_cVi (As := [.int 70]) (rest := []) hF hH hA mv_X12_415 (fun sz => c_X12_number2 l D t h0 L _ hH.2 70 _ hw sz) dX12_connectTree_10 rfl rfl (by decide) rfl hl.1 (Nat.le_of_ble_eq_true rfl) (by decide) rfl (fun z4 σ3 H locs hw hH => ?_)
  refine lv_istore_n (lv' := [(2, .int z4), (1, .int z2), (0, .ref h0)]) hx hb dX12_connectTree_13 rfl hl (by decide) rfl (fun ls hl => ?_)
  refine lv_iload_n hx hb dX12_connectTree_14 rfl (lv_at hl 0 rfl) ?_
  refine lv_iconst (v := 2) hx hb dX12_connectTree_15 (by decide) ?_
  refine lv_irem hx hb dX12_connectTree_16 (by decide) ?_
  refine w_nmi hw (fun z5 hw => ?_)
  refine w_if_eq (tgt := 24) hF dX12_connectTree_17 rfl hw (fun hw => ?_) (fun hw => ?_)
  · refine lv_iload_n hx hb dX12_connectTree_24 rfl (lv_at hl 0 rfl) ?_
    refine lv_iconst (v := 2) hx hb dX12_connectTree_25 (by decide) ?_
    refine lv_idiv hx hb dX12_connectTree_26 (by decide) ?_
    refine w_nmi hw (fun z6 hw => ?_)
    refine lv_istore_n (lv' := [(3, .int z6), (2, .int z4), (1, .int z2), (0, .ref h0)]) hx hb dX12_connectTree_27 rfl hl (by decide) rfl (fun ls hl => ?_)
    refine lv_iconst (v := 0) hx hb dX12_connectTree_28 (by decide) ?_
    refine lv_istore (lv' := [(4, .int 0), (3, .int z6), (2, .int z4), (1, .int z2), (0, .ref h0)]) hx hb dX12_connectTree_29 hl (by decide) rfl (fun ls hl => ?_)
    refine lv_iconst (v := 0) hx hb dX12_connectTree_31 (by decide) ?_
    refine lv_istore (lv' := [(5, .int 0), (4, .int 0), (3, .int z6), (2, .int z4), (1, .int z2), (0, .ref h0)]) hx hb dX12_connectTree_32 hl (by decide) rfl (fun ls hl => ?_)
    have hl : lv_has ls 9 [(5, .int 0), (4, .int 0), (3, .int z6), (1, .int z2), (0, .ref h0)] := lv_sub hl [0, 1, 2, 4, 5] rfl
    refine w_loop (β := Int32 × Int32) (fun x7 => [(5, .int x7.1), (4, .int x7.2), (3, .int z6), (1, .int z2), (0, .ref h0)]) (0, 0) hl hw hH (fun K9 x7 σ8 ls H locs hl hw hH ih10 => ?_)
    have hl : lv_has ls 9 [(5, .int x7.1), (4, .int x7.2), (3, .int z6), (1, .int z2), (0, .ref h0)] := hl
    refine lv_iload hx hb dX12_connectTree_34 (lv_at hl 0 rfl) ?_
    refine lv_iload_n hx hb dX12_connectTree_36 rfl (lv_at hl 2 rfl) ?_
    refine w_icmp_ge (tgt := 72) hF dX12_connectTree_37 rfl hw (fun hw => ?_) (fun hw => ?_)
    · refine lv_iconst (v := (-1)) hx hb dX12_connectTree_72 (by decide) ?_
      refine lv_istore (lv' := [(5, .int (-1)), (4, .int x7.2), (3, .int z6), (1, .int z2), (0, .ref h0)]) hx hb dX12_connectTree_73 hl (by decide) rfl (fun ls hl => ?_)
      refine lv_iconst (v := 0) hx hb dX12_connectTree_75 (by decide) ?_
      refine lv_istore (lv' := [(6, .int 0), (5, .int (-1)), (4, .int x7.2), (3, .int z6), (1, .int z2), (0, .ref h0)]) hx hb dX12_connectTree_76 hl (by decide) rfl (fun ls hl => ?_)
      refine w_loop (β := Int32 × Int32) (fun x11 => [(6, .int x11.1), (5, .int x11.2), (4, .int x7.2), (3, .int z6), (1, .int z2), (0, .ref h0)]) (0, (-1)) hl hw hH (fun K13 x11 σ12 ls H locs hl hw hH ih14 => ?_)
      have hl : lv_has ls 9 [(6, .int x11.1), (5, .int x11.2), (4, .int x7.2), (3, .int z6), (1, .int z2), (0, .ref h0)] := hl
      refine lv_iload hx hb dX12_connectTree_78 (lv_at hl 0 rfl) ?_
      refine lv_iconst (v := 4) hx hb dX12_connectTree_80 (by decide) ?_
      refine w_icmp_ge (tgt := 198) hF dX12_connectTree_81 rfl hw (fun hw => ?_) (fun hw => ?_)
      · refine lv_iload hx hb dX12_connectTree_198 (lv_at hl 1 rfl) ?_
        refine w_if_ge (tgt := 207) hF dX12_connectTree_200 rfl hw (fun hw => ?_) (fun hw => ?_)
        · refine lv_aload_n hx hb dX12_connectTree_207 rfl (lv_at hl 5 rfl) ?_
          refine lv_aload_n hx hb dX12_connectTree_208 rfl (lv_at hl 5 rfl) ?_
          refine w_getA 38 hF hH fk_X12_130 dX12_connectTree_209 (by decide) rfl ?_
          refine w_cVi (As := [.ref (L 38)]) (rest := []) hF hH hA mv_X12_603 (fun sz => c_X12_vacant l D t h0 L _ hH.2 38 16 (by decide) rfl rfl (by decide) _ hw sz) dX12_connectTree_212 rfl rfl (by decide) rfl hl.1 (Nat.le_of_ble_eq_true rfl) (by decide) rfl (fun z16 σ15 H locs hw hH => ?_)
          refine lv_istore (lv' := [(6, .int z16), (5, .int x11.2), (4, .int x7.2), (3, .int z6), (1, .int z2), (0, .ref h0)]) hx hb dX12_connectTree_215 hl (by decide) rfl (fun ls hl => ?_)
          refine lv_iload hx hb dX12_connectTree_217 (lv_at hl 0 rfl) ?_
          refine lv_bipush (v := 16) hx hb dX12_connectTree_219 (by decide) ?_
          refine w_icmp_ne (tgt := 228) hF dX12_connectTree_221 rfl hw (fun hw => ?_) (fun hw => ?_)
          · refine lv_aload_n hx hb dX12_connectTree_228 rfl (lv_at hl 5 rfl) ?_
            refine lv_dup hx hb dX12_connectTree_229 rfl ?_
            refine w_getJ hF hH fk_X12_299 dX12_connectTree_230 hw (fun z17 hw => ?_)
            refine lv_lconst (v := 1) hx hb dX12_connectTree_233 (by decide) ?_
            refine lv_ladd hx hb dX12_connectTree_234 ?_
            refine w_nml hw (fun z18 hw => ?_)
            refine w_putJ hF hH fk_X12_299 dX12_connectTree_235 rfl rfl rfl hw (fun σ19 H locs hw hH => ?_)
            refine lv_aload_n hx hb dX12_connectTree_238 rfl (lv_at hl 5 rfl) ?_
            refine w_getA 38 hF hH fk_X12_130 dX12_connectTree_239 (by decide) rfl ?_
            refine lv_iload hx hb dX12_connectTree_242 (lv_at hl 0 rfl) ?_
            refine lv_aload_n hx hb dX12_connectTree_244 rfl (lv_at hl 5 rfl) ?_
            refine w_getJ hF hH fk_X12_299 dX12_connectTree_245 hw (fun z20 hw => ?_)
            refine w_last 38 16 hF hH dX12_connectTree_248 (by decide) rfl rfl hw (fun σ21 H locs hw hH => ?_)
            refine lv_aload_n hx hb dX12_connectTree_249 rfl (lv_at hl 5 rfl) ?_
            refine w_getA 39 hF hH fk_X12_133 dX12_connectTree_250 (by decide) rfl ?_
            refine lv_iload hx hb dX12_connectTree_253 (lv_at hl 0 rfl) ?_
            refine lv_aload_n hx hb dX12_connectTree_255 rfl (lv_at hl 5 rfl) ?_
            refine w_getI hF hH fk_X12_492 dX12_connectTree_256 hw (fun z22 hw => ?_)
            refine w_iast 39 16 hF hH dX12_connectTree_259 (by decide) rfl rfl hw (fun σ23 H locs hw hH => ?_)
            refine lv_aload_n hx hb dX12_connectTree_260 rfl (lv_at hl 5 rfl) ?_
            refine w_getA 40 hF hH fk_X12_136 dX12_connectTree_261 (by decide) rfl ?_
            refine lv_iload hx hb dX12_connectTree_264 (lv_at hl 0 rfl) ?_
            refine lv_iload hx hb dX12_connectTree_266 (lv_at hl 1 rfl) ?_
            refine w_iast 40 16 hF hH dX12_connectTree_268 (by decide) rfl rfl hw (fun σ24 H locs hw hH => ?_)
            refine lv_aload_n hx hb dX12_connectTree_269 rfl (lv_at hl 5 rfl) ?_
            refine lv_aload_n hx hb dX12_connectTree_270 rfl (lv_at hl 5 rfl) ?_
            refine w_getJ hF hH fk_X12_299 dX12_connectTree_271 hw (fun z25 hw => ?_)
            refine w_putJ hF hH fk_X12_437 dX12_connectTree_274 rfl rfl rfl hw (fun σ26 H locs hw hH => ?_)
            refine lv_aload_n hx hb dX12_connectTree_277 rfl (lv_at hl 5 rfl) ?_
            refine lv_bipush (v := 16) hx hb dX12_connectTree_278 (by decide) ?_
            refine w_cVv (As := [.int 16]) (rest := []) hF hH hA mv_X12_456 (fun sz => c_X12_body l D t h0 L _ hH.2 16 _ hw sz) dX12_connectTree_280 rfl rfl (by decide) rfl hl.1 (Nat.le_of_ble_eq_true rfl) (by decide) rfl (fun σ27 H locs hw hH => ?_)
            refine lv_aload_n hx hb dX12_connectTree_283 rfl (lv_at hl 5 rfl) ?_
            refine lv_bipush (v := 64) hx hb dX12_connectTree_284 (by decide) ?_
            refine lv_iconst (v := 2) hx hb dX12_connectTree_286 (by decide) ?_
            refine lv_ldc2 (v := 16) hx hb hF.1.2.2.2.1 (hF.1.2.2.2.2 _ (wc_53 11 rfl)) dX12_connectTree_287 ?_
            refine w_cVv (As := [.int 64, .int 2, .long 16]) (rest := []) hF hH hA mv_X12_376 (fun sz => c_X12_set l D t h0 L _ hH.2 64 2 16 _ hw sz) dX12_connectTree_290 rfl rfl (by decide) rfl hl.1 (Nat.le_of_ble_eq_true rfl) (by decide) rfl (fun σ29 H locs hw hH => ?_)
            refine lv_aload_n hx hb dX12_connectTree_293 rfl (lv_at hl 5 rfl) ?_
            refine lv_bipush (v := 66) hx hb dX12_connectTree_294 (by decide) ?_
            refine lv_iconst (v := 1) hx hb dX12_connectTree_296 (by decide) ?_
            refine lv_lconst (v := 1) hx hb dX12_connectTree_297 (by decide) ?_
            refine w_cVv (As := [.int 66, .int 1, .long 1]) (rest := []) hF hH hA mv_X12_376 (fun sz => c_X12_set l D t h0 L _ hH.2 66 1 1 _ hw sz) dX12_connectTree_298 rfl rfl (by decide) rfl hl.1 (Nat.le_of_ble_eq_true rfl) (by decide) rfl (fun σ31 H locs hw hH => ?_)
            refine lv_aload_n hx hb dX12_connectTree_301 rfl (lv_at hl 5 rfl) ?_
            refine lv_bipush (v := 76) hx hb dX12_connectTree_302 (by decide) ?_
            refine lv_iconst (v := 4) hx hb dX12_connectTree_304 (by decide) ?_
            refine lv_ldc2 (v := 2032127) hx hb hF.1.2.2.2.1 (hF.1.2.2.2.2 _ (wc_53 12 rfl)) dX12_connectTree_305 ?_
            refine w_cVv (As := [.int 76, .int 4, .long 2032127]) (rest := []) hF hH hA mv_X12_376 (fun sz => c_X12_set l D t h0 L _ hH.2 76 4 2032127 _ hw sz) dX12_connectTree_308 rfl rfl (by decide) rfl hl.1 (Nat.le_of_ble_eq_true rfl) (by decide) rfl (fun σ33 H locs hw hH => ?_)
            refine lv_lconst (v := 0) hx hb dX12_connectTree_311 (by decide) ?_
            exact w_retl hF hH hr hlk dX12_connectTree_312 hw
          · refine lv_ldc2 (v := 3221225626) hx hb hF.1.2.2.2.1 (hF.1.2.2.2.2 _ (wc_53 8 rfl)) dX12_connectTree_224 ?_
            exact w_retl hF hH hr hlk dX12_connectTree_227 hw
        · refine lv_ldc2 (v := 3221225676) hx hb hF.1.2.2.2.1 (hF.1.2.2.2.2 _ (wc_53 10 rfl)) dX12_connectTree_203 ?_
          exact w_retl hF hH hr hlk dX12_connectTree_206 hw
      · refine lv_aload_n hx hb dX12_connectTree_84 rfl (lv_at hl 5 rfl) ?_
        refine w_getA 11 hF hH fk_X12_47 dX12_connectTree_85 (by decide) rfl ?_
        refine lv_iload hx hb dX12_connectTree_88 (lv_at hl 0 rfl) ?_
        refine w_iald 11 4 hF hH dX12_connectTree_90 (by decide) rfl rfl hw (fun z35 hw => ?_)
        obtain ⟨K38, hK39, hw⟩ := jn_open hw
        refine w_join (K := K38) 113 (fun (x36 : Int32) => [(6, .int x11.1), (5, .int x11.2), (4, .int x7.2), (3, .int z6), (1, .int z2), (0, .ref h0)]) (fun (x36 : Int32) => [.int x36]) hl hH (fun x36 σ37 ls H locs hl hw hH => ?_) (fun jn40 => ?_)
        · have hw := hK39 x36 σ37 hw
          have hl : lv_has ls 9 [(6, .int x11.1), (5, .int x11.2), (4, .int x7.2), (3, .int z6), (1, .int z2), (0, .ref h0)] := hl
          refine lv_istore (lv' := [(7, .int x36), (6, .int x11.1), (5, .int x11.2), (4, .int x7.2), (3, .int z6), (1, .int z2), (0, .ref h0)]) hx hb dX12_connectTree_113 hl (by decide) rfl (fun ls hl => ?_)
          refine lv_iload hx hb dX12_connectTree_115 (lv_at hl 3 rfl) ?_
          refine lv_istore (lv' := [(8, .int x7.2), (7, .int x36), (6, .int x11.1), (5, .int x11.2), (4, .int x7.2), (3, .int z6), (1, .int z2), (0, .ref h0)]) hx hb dX12_connectTree_117 hl (by decide) rfl (fun ls hl => ?_)
          refine w_loop (β := Int32 × Int32) (fun x41 => [(8, .int x41.1), (7, .int x41.2), (6, .int x11.1), (5, .int x11.2), (4, .int x7.2), (3, .int z6), (1, .int z2), (0, .ref h0)]) (x7.2, x36) hl hw hH (fun K43 x41 σ42 ls H locs hl hw hH ih44 => ?_)
          have hl : lv_has ls 9 [(8, .int x41.1), (7, .int x41.2), (6, .int x11.1), (5, .int x11.2), (4, .int x7.2), (3, .int z6), (1, .int z2), (0, .ref h0)] := hl
          refine lv_iload hx hb dX12_connectTree_119 (lv_at hl 0 rfl) ?_
          refine lv_iload_n hx hb dX12_connectTree_121 rfl (lv_at hl 5 rfl) ?_
          obtain ⟨K47, hK48, hw⟩ := jn_open hw
          refine w_join (K := K47) 178 (fun (x45 : Unit) => [(7, .int x41.2), (6, .int x11.1), (5, .int x11.2), (4, .int x7.2), (3, .int z6), (1, .int z2), (0, .ref h0)]) (fun (x45 : Unit) => []) hl hH (fun x45 σ46 ls H locs hl hw hH => ?_) (fun jn49 => ?_)
          · have hw := hK48 x45 σ46 hw
            have hl : lv_has ls 9 [(7, .int x41.2), (6, .int x11.1), (5, .int x11.2), (4, .int x7.2), (3, .int z6), (1, .int z2), (0, .ref h0)] := hl
            refine lv_iload hx hb dX12_connectTree_178 (lv_at hl 0 rfl) ?_
            obtain ⟨K52, hK53, hw⟩ := jn_open hw
            refine w_join (K := K52) 190 (fun (x50 : Int32) => [(6, .int x11.1), (4, .int x7.2), (3, .int z6), (1, .int z2), (0, .ref h0)]) (fun (x50 : Int32) => [.int x50]) hl hH (fun x50 σ51 ls H locs hl hw hH => ?_) (fun jn54 => ?_)
            · have hw := hK53 x50 σ51 hw
              have hl : lv_has ls 9 [(6, .int x11.1), (4, .int x7.2), (3, .int z6), (1, .int z2), (0, .ref h0)] := hl
              refine lv_istore (lv' := [(5, .int x50), (6, .int x11.1), (4, .int x7.2), (3, .int z6), (1, .int z2), (0, .ref h0)]) hx hb dX12_connectTree_190 hl (by decide) rfl (fun ls hl => ?_)
              obtain ⟨z55, ez55⟩ : ∃ z : Int32, z = x11.1 + 1 := ⟨_, rfl⟩
              have hw := hw z55 ez55
              refine lv_iinc (lv' := [(6, .int z55), (5, .int x50), (4, .int x7.2), (3, .int z6), (1, .int z2), (0, .ref h0)]) (k := 1) (v := z55) hx hb dX12_connectTree_192 hl rfl ez55.symm (by decide) rfl (fun ls hl => ?_)
              refine lv_goto (tgt := 78) hx hb dX12_connectTree_195 rfl ?_
              exact ih14 (z55, x50) σ51 ls _ _ hl hw hH
            · skip
              refine w_if_eq (tgt := 188) hF dX12_connectTree_180 rfl hw (fun hw => ?_) (fun hw => ?_)
              · refine lv_iload hx hb dX12_connectTree_188 (lv_at hl 2 rfl) ?_
                have hl : lv_has ls 9 [(6, .int x11.1), (4, .int x7.2), (3, .int z6), (1, .int z2), (0, .ref h0)] := lv_sub hl [1, 3, 4, 5, 6] rfl
                exact jn54 x11.2 σ46 ls _ _ hl hw hH
              · refine lv_iload hx hb dX12_connectTree_183 (lv_at hl 1 rfl) ?_
                refine lv_goto (tgt := 190) hx hb dX12_connectTree_185 rfl ?_
                have hl : lv_has ls 9 [(6, .int x11.1), (4, .int x7.2), (3, .int z6), (1, .int z2), (0, .ref h0)] := lv_sub hl [1, 3, 4, 5, 6] rfl
                exact jn54 x11.1 σ46 ls _ _ hl hw hH
          · skip
            refine w_icmp_ge (tgt := 178) hF dX12_connectTree_122 rfl hw (fun hw => ?_) (fun hw => ?_)
            · have hl : lv_has ls 9 [(7, .int x41.2), (6, .int x11.1), (5, .int x11.2), (4, .int x7.2), (3, .int z6), (1, .int z2), (0, .ref h0)] := lv_sub hl [1, 2, 3, 4, 5, 6, 7] rfl
              exact jn49 () σ42 ls _ _ hl hw hH
            · refine lv_iload hx hb dX12_connectTree_125 (lv_at hl 1 rfl) ?_
              refine w_if_eq (tgt := 178) hF dX12_connectTree_127 rfl hw (fun hw => ?_) (fun hw => ?_)
              · have hl : lv_has ls 9 [(7, .int x41.2), (6, .int x11.1), (5, .int x11.2), (4, .int x7.2), (3, .int z6), (1, .int z2), (0, .ref h0)] := lv_sub hl [1, 2, 3, 4, 5, 6, 7] rfl
                exact jn49 () σ42 ls _ _ hl hw hH
              · refine lv_aload_n hx hb dX12_connectTree_130 rfl (lv_at hl 7 rfl) ?_
                refine lv_iload_n hx hb dX12_connectTree_131 rfl (lv_at hl 6 rfl) ?_
                refine lv_iconst (v := 2) hx hb dX12_connectTree_132 (by decide) ?_
                refine lv_iload hx hb dX12_connectTree_133 (lv_at hl 0 rfl) ?_
                refine lv_imul hx hb dX12_connectTree_135 ?_
                refine w_nmi hw (fun z56 hw => ?_)
                refine lv_iadd hx hb dX12_connectTree_136 ?_
                refine w_nmi hw (fun z57 hw => ?_)
                refine w_cVi (As := [.int z57]) (rest := []) hF hH hA mv_X12_415 (fun sz => c_X12_number2 l D t h0 L _ hH.2 z57 _ hw sz) dX12_connectTree_137 rfl rfl (by decide) rfl hl.1 (Nat.le_of_ble_eq_true rfl) (by decide) rfl (fun z59 σ58 H locs hw hH => ?_)
                refine w_cSi (As := [.int z59]) (rest := []) hF hH hA ms_X12_311 (fun sz => c_X12_folded l D t h0 L _ hH.2 z59 _ hw sz) dX12_connectTree_140 rfl rfl (by decide) rfl hl.1 (Nat.le_of_ble_eq_true rfl) (by decide) rfl (fun z61 σ60 H locs hw hH => ?_)
                refine lv_aload_n hx hb dX12_connectTree_143 rfl (lv_at hl 7 rfl) ?_
                refine w_getA 12 hF hH fk_X12_50 dX12_connectTree_144 (by decide) rfl ?_
                refine lv_bipush (v := 12) hx hb dX12_connectTree_147 (by decide) ?_
                refine lv_iload hx hb dX12_connectTree_149 (lv_at hl 2 rfl) ?_
                refine lv_imul hx hb dX12_connectTree_151 ?_
                refine w_nmi hw (fun z62 hw => ?_)
                refine lv_iload hx hb dX12_connectTree_152 (lv_at hl 0 rfl) ?_
                refine lv_iadd hx hb dX12_connectTree_154 ?_
                refine w_nmi hw (fun z63 hw => ?_)
                refine lv_iload hx hb dX12_connectTree_155 (lv_at hl 4 rfl) ?_
                refine lv_isub hx hb dX12_connectTree_157 ?_
                refine w_nmi hw (fun z64 hw => ?_)
                refine w_bald 12 48 hF hH dX12_connectTree_158 (by decide) rfl rfl hw (fun z65 hw => ?_)
                refine w_cSi (As := [.int z65]) (rest := [.int z61]) hF hH hA ms_X12_311 (fun sz => c_X12_folded l D t h0 L _ hH.2 z65 _ hw sz) dX12_connectTree_159 rfl rfl (by decide) rfl hl.1 (Nat.le_of_ble_eq_true rfl) (by decide) rfl (fun z67 σ66 H locs hw hH => ?_)
                obtain ⟨K70, hK71, hw⟩ := jn_open hw
                refine w_join (K := K70) 170 (fun (x68 : Int32) => [(8, .int x41.1), (6, .int x11.1), (5, .int x11.2), (4, .int x7.2), (3, .int z6), (1, .int z2), (0, .ref h0)]) (fun (x68 : Int32) => [.int x68]) hl hH (fun x68 σ69 ls H locs hl hw hH => ?_) (fun jn72 => ?_)
                · have hw := hK71 x68 σ69 hw
                  have hl : lv_has ls 9 [(8, .int x41.1), (6, .int x11.1), (5, .int x11.2), (4, .int x7.2), (3, .int z6), (1, .int z2), (0, .ref h0)] := hl
                  refine lv_istore (lv' := [(7, .int x68), (8, .int x41.1), (6, .int x11.1), (5, .int x11.2), (4, .int x7.2), (3, .int z6), (1, .int z2), (0, .ref h0)]) hx hb dX12_connectTree_170 hl (by decide) rfl (fun ls hl => ?_)
                  obtain ⟨z73, ez73⟩ : ∃ z : Int32, z = x41.1 + 1 := ⟨_, rfl⟩
                  have hw := hw z73 ez73
                  refine lv_iinc (lv' := [(8, .int z73), (7, .int x68), (6, .int x11.1), (5, .int x11.2), (4, .int x7.2), (3, .int z6), (1, .int z2), (0, .ref h0)]) (k := 1) (v := z73) hx hb dX12_connectTree_172 hl rfl ez73.symm (by decide) rfl (fun ls hl => ?_)
                  refine lv_goto (tgt := 119) hx hb dX12_connectTree_175 rfl ?_
                  exact ih44 (z73, x68) σ69 ls _ _ hl hw hH
                · skip
                  refine w_icmp_ne (tgt := 169) hF dX12_connectTree_162 rfl hw (fun hw => ?_) (fun hw => ?_)
                  · refine lv_iconst (v := 0) hx hb dX12_connectTree_169 (by decide) ?_
                    have hl : lv_has ls 9 [(8, .int x41.1), (6, .int x11.1), (5, .int x11.2), (4, .int x7.2), (3, .int z6), (1, .int z2), (0, .ref h0)] := lv_sub hl [0, 2, 3, 4, 5, 6, 7] rfl
                    exact jn72 0 σ66 ls _ _ hl hw hH
                  · refine lv_iconst (v := 1) hx hb dX12_connectTree_165 (by decide) ?_
                    refine lv_goto (tgt := 170) hx hb dX12_connectTree_166 rfl ?_
                    have hl : lv_has ls 9 [(8, .int x41.1), (6, .int x11.1), (5, .int x11.2), (4, .int x7.2), (3, .int z6), (1, .int z2), (0, .ref h0)] := lv_sub hl [0, 2, 3, 4, 5, 6, 7] rfl
                    exact jn72 1 σ66 ls _ _ hl hw hH
        · skip
          obtain ⟨K76, hK77, hw⟩ := jn_open hw
          refine w_join (K := K76) 112 (fun (x74 : Unit) => [(6, .int x11.1), (5, .int x11.2), (4, .int x7.2), (3, .int z6), (1, .int z2), (0, .ref h0)]) (fun (x74 : Unit) => []) hl hH (fun x74 σ75 ls H locs hl hw hH => ?_) (fun jn78 => ?_)
          · have hw := hK77 x74 σ75 hw
            have hl : lv_has ls 9 [(6, .int x11.1), (5, .int x11.2), (4, .int x7.2), (3, .int z6), (1, .int z2), (0, .ref h0)] := hl
            refine lv_iconst (v := 0) hx hb dX12_connectTree_112 (by decide) ?_
            exact jn40 0 σ75 ls _ _ hl hw hH
          · skip
            refine w_if_lt (tgt := 112) hF dX12_connectTree_91 rfl hw (fun hw => ?_) (fun hw => ?_)
            · exact jn78 () σ12 ls _ _ hl hw hH
            · refine lv_aload_n hx hb dX12_connectTree_94 rfl (lv_at hl 5 rfl) ?_
              refine w_getA 13 hF hH fk_X12_53 dX12_connectTree_95 (by decide) rfl ?_
              refine lv_iload hx hb dX12_connectTree_98 (lv_at hl 0 rfl) ?_
              refine w_iald 13 4 hF hH dX12_connectTree_100 (by decide) rfl rfl hw (fun z79 hw => ?_)
              refine lv_iload_n hx hb dX12_connectTree_101 rfl (lv_at hl 3 rfl) ?_
              refine lv_iload hx hb dX12_connectTree_102 (lv_at hl 2 rfl) ?_
              refine lv_isub hx hb dX12_connectTree_104 ?_
              refine w_nmi hw (fun z80 hw => ?_)
              refine w_icmp_ne (tgt := 112) hF dX12_connectTree_105 rfl hw (fun hw => ?_) (fun hw => ?_)
              · exact jn78 () σ12 ls _ _ hl hw hH
              · refine lv_iconst (v := 1) hx hb dX12_connectTree_108 (by decide) ?_
                refine lv_goto (tgt := 113) hx hb dX12_connectTree_109 rfl ?_
                exact jn40 1 σ12 ls _ _ hl hw hH
    · refine lv_aload_n hx hb dX12_connectTree_40 rfl (lv_at hl 4 rfl) ?_
      refine lv_iload_n hx hb dX12_connectTree_41 rfl (lv_at hl 3 rfl) ?_
      refine lv_iconst (v := 2) hx hb dX12_connectTree_42 (by decide) ?_
      refine lv_iload hx hb dX12_connectTree_43 (lv_at hl 0 rfl) ?_
      refine lv_imul hx hb dX12_connectTree_45 ?_
      refine w_nmi hw (fun z81 hw => ?_)
      refine lv_iadd hx hb dX12_connectTree_46 ?_
      refine w_nmi hw (fun z82 hw => ?_)
      refine w_cVi (As := [.int z82]) (rest := []) hF hH hA mv_X12_415 (fun sz => c_X12_number2 l D t h0 L _ hH.2 z82 _ hw sz) dX12_connectTree_47 rfl rfl (by decide) rfl hl.1 (Nat.le_of_ble_eq_true rfl) (by decide) rfl (fun z84 σ83 H locs hw hH => ?_)
      refine lv_bipush (v := 92) hx hb dX12_connectTree_50 (by decide) ?_
      obtain ⟨K87, hK88, hw⟩ := jn_open hw
      refine w_join (K := K87) 64 (fun (x85 : Int32) => [(5, .int x7.1), (3, .int z6), (1, .int z2), (0, .ref h0)]) (fun (x85 : Int32) => [.int x85]) hl hH (fun x85 σ86 ls H locs hl hw hH => ?_) (fun jn89 => ?_)
      · have hw := hK88 x85 σ86 hw
        have hl : lv_has ls 9 [(5, .int x7.1), (3, .int z6), (1, .int z2), (0, .ref h0)] := hl
        refine lv_istore (lv' := [(4, .int x85), (5, .int x7.1), (3, .int z6), (1, .int z2), (0, .ref h0)]) hx hb dX12_connectTree_64 hl (by decide) rfl (fun ls hl => ?_)
        obtain ⟨z90, ez90⟩ : ∃ z : Int32, z = x7.1 + 1 := ⟨_, rfl⟩
        have hw := hw z90 ez90
        refine lv_iinc (lv' := [(5, .int z90), (4, .int x85), (3, .int z6), (1, .int z2), (0, .ref h0)]) (k := 1) (v := z90) hx hb dX12_connectTree_66 hl rfl ez90.symm (by decide) rfl (fun ls hl => ?_)
        refine lv_goto (tgt := 34) hx hb dX12_connectTree_69 rfl ?_
        exact ih10 (z90, x85) σ86 ls _ _ hl hw hH
      · skip
        refine w_icmp_ne (tgt := 62) hF dX12_connectTree_52 rfl hw (fun hw => ?_) (fun hw => ?_)
        · refine lv_iload hx hb dX12_connectTree_62 (lv_at hl 1 rfl) ?_
          have hl : lv_has ls 9 [(5, .int x7.1), (3, .int z6), (1, .int z2), (0, .ref h0)] := lv_sub hl [0, 2, 3, 4] rfl
          exact jn89 x7.2 σ83 ls _ _ hl hw hH
        · refine lv_iload hx hb dX12_connectTree_55 (lv_at hl 0 rfl) ?_
          refine lv_iconst (v := 1) hx hb dX12_connectTree_57 (by decide) ?_
          refine lv_iadd hx hb dX12_connectTree_58 ?_
          refine w_nmi hw (fun z91 hw => ?_)
          refine lv_goto (tgt := 64) hx hb dX12_connectTree_59 rfl ?_
          have hl : lv_has ls 9 [(5, .int x7.1), (3, .int z6), (1, .int z2), (0, .ref h0)] := lv_sub hl [0, 2, 3, 4] rfl
          exact jn89 z91 σ83 ls _ _ hl hw hH
  · refine lv_ldc2 (v := 3221225485) hx hb hF.1.2.2.2.1 (hF.1.2.2.2.2 _ (wc_47 33 rfl)) dX12_connectTree_20 ?_
    exact w_retl hF hH hr hlk dX12_connectTree_23 hw
def F_X12_close (h0 : Nat) (L : Nat → Nat)  (post : Int64 → HS → Prop) (σ : HS) : Prop := ∀ z1 : Int32, z1 = sI σ h0 100 → (0 ≤ z1.toInt ∧ z1.toInt < 40) ∧ ∀ z2 : Int32, z2 = sI σ (L 43) z1.toInt.toNat → F_X12_number2 h0 L 66 (fun (z4 : Int32) (σ3 : HS) => ∀ z5 : Int32, z5 = z4 &&& 1 → ∀ z6 : Int32, z6 = 4 * z2 → (0 ≤ z6.toInt ∧ z6.toInt < 640) ∧ ∀ z7 : Int64, z7 = sJ σ3 (L 7) z6.toInt.toNat → ∀ z8 : Int32, z8 = 4 * z2 → ∀ z9 : Int32, z9 = z8 + 1 → (0 ≤ z9.toInt ∧ z9.toInt < 640) ∧ ∀ z10 : Int64, z10 = sJ σ3 (L 7) z9.toInt.toNat → ∀ z11 : Int32, z11 = 4 * z2 → ∀ z12 : Int32, z12 = z11 + 2 → (0 ≤ z12.toInt ∧ z12.toInt < 640) ∧ ∀ z13 : Int64, z13 = sJ σ3 (L 7) z12.toInt.toNat → ∀ z14 : Int32, z14 = 4 * z2 → ∀ z15 : Int32, z15 = z14 + 3 → (0 ≤ z15.toInt ∧ z15.toInt < 640) ∧ ∀ z16 : Int64, z16 = sJ σ3 (L 7) z15.toInt.toNat → F_X12_room h0 L z2 (fun (z18 : Int32) (σ17 : HS) => (0 ≤ z2.toInt ∧ z2.toInt < 160) ∧ ∀ z19 : Int32, z19 = sI σ17 (L 8) z2.toInt.toNat → F_X12_shown h0 L z2 (fun (z21 : Int32) (σ20 : HS) => ∀ z22 : Int32, z22 = sI σ20 h0 100 → F_X12_closes h0 L z22 (fun (σ23 : HS) => F_X12_body h0 L 60 (fun (σ25 : HS) => F_X12_set h0 L 64 2 60 (fun (σ27 : HS) => ∀ z29 : Int64, z29 = (z5 : Int32).toInt64 → F_X12_set h0 L 66 2 z29 (fun (σ30 : HS) => jn (fun (K34 : Unit → HS → Prop) => ((¬ z5.toInt = (1 : Int32).toInt) → K34 () σ30) ∧ ((z5.toInt = (1 : Int32).toInt) → F_X12_set h0 L 72 8 z7 (fun (σ37 : HS) => F_X12_set h0 L 80 8 z10 (fun (σ39 : HS) => F_X12_set h0 L 88 8 z13 (fun (σ41 : HS) => F_X12_set h0 L 96 8 z16 (fun (σ43 : HS) => ∀ z45 : Int64, z45 = (z18 : Int32).toInt64 → F_X12_set h0 L 104 8 z45 (fun (σ46 : HS) => ∀ z48 : Int64, z48 = (z19 : Int32).toInt64 → F_X12_set h0 L 112 8 z48 (fun (σ49 : HS) => ∀ z51 : Int64, z51 = (z21 : Int32).toInt64 → F_X12_set h0 L 120 4 z51 (fun (σ52 : HS) => K34 () σ52) σ49) σ46) σ43) σ41) σ39) σ37) σ30)) (fun (x32 : Unit) (σ33 : HS) => post 0 σ33)) σ27) σ25) σ23) σ20) σ17) σ3) σ
theorem dX12_close_0 : decode cX12_close 0 = .ok (.aload_n 0, 1) := by decide +kernel
theorem dX12_close_1 : decode cX12_close 1 = .ok (.getfield 145, 3) := by decide +kernel
theorem dX12_close_4 : decode cX12_close 4 = .ok (.aload_n 0, 1) := by decide +kernel
theorem dX12_close_5 : decode cX12_close 5 = .ok (.getfield 525, 3) := by decide +kernel
theorem dX12_close_8 : decode cX12_close 8 = .ok (.iaload, 1) := by decide +kernel
theorem dX12_close_9 : decode cX12_close 9 = .ok (.istore_n 1, 1) := by decide +kernel
theorem dX12_close_10 : decode cX12_close 10 = .ok (.aload_n 0, 1) := by decide +kernel
theorem dX12_close_11 : decode cX12_close 11 = .ok (.bipush 66, 2) := by decide +kernel
theorem dX12_close_13 : decode cX12_close 13 = .ok (.invokevirtual 415, 3) := by decide +kernel
theorem dX12_close_16 : decode cX12_close 16 = .ok (.iconst 1, 1) := by decide +kernel
theorem dX12_close_17 : decode cX12_close 17 = .ok (.iand, 1) := by decide +kernel
theorem dX12_close_18 : decode cX12_close 18 = .ok (.istore_n 2, 1) := by decide +kernel
theorem dX12_close_19 : decode cX12_close 19 = .ok (.aload_n 0, 1) := by decide +kernel
theorem dX12_close_20 : decode cX12_close 20 = .ok (.getfield 33, 3) := by decide +kernel
theorem dX12_close_23 : decode cX12_close 23 = .ok (.iconst 4, 1) := by decide +kernel
theorem dX12_close_24 : decode cX12_close 24 = .ok (.iload_n 1, 1) := by decide +kernel
theorem dX12_close_25 : decode cX12_close 25 = .ok (.imul, 1) := by decide +kernel
theorem dX12_close_26 : decode cX12_close 26 = .ok (.laload, 1) := by decide +kernel
theorem dX12_close_27 : decode cX12_close 27 = .ok (.lstore_n 3, 1) := by decide +kernel
theorem dX12_close_28 : decode cX12_close 28 = .ok (.aload_n 0, 1) := by decide +kernel
theorem dX12_close_29 : decode cX12_close 29 = .ok (.getfield 33, 3) := by decide +kernel
theorem dX12_close_32 : decode cX12_close 32 = .ok (.iconst 4, 1) := by decide +kernel
theorem dX12_close_33 : decode cX12_close 33 = .ok (.iload_n 1, 1) := by decide +kernel
theorem dX12_close_34 : decode cX12_close 34 = .ok (.imul, 1) := by decide +kernel
theorem dX12_close_35 : decode cX12_close 35 = .ok (.iconst 1, 1) := by decide +kernel
theorem dX12_close_36 : decode cX12_close 36 = .ok (.iadd, 1) := by decide +kernel
theorem dX12_close_37 : decode cX12_close 37 = .ok (.laload, 1) := by decide +kernel
theorem dX12_close_38 : decode cX12_close 38 = .ok (.lstore 5, 2) := by decide +kernel
theorem dX12_close_40 : decode cX12_close 40 = .ok (.aload_n 0, 1) := by decide +kernel
theorem dX12_close_41 : decode cX12_close 41 = .ok (.getfield 33, 3) := by decide +kernel
theorem dX12_close_44 : decode cX12_close 44 = .ok (.iconst 4, 1) := by decide +kernel
theorem dX12_close_45 : decode cX12_close 45 = .ok (.iload_n 1, 1) := by decide +kernel
theorem dX12_close_46 : decode cX12_close 46 = .ok (.imul, 1) := by decide +kernel
theorem dX12_close_47 : decode cX12_close 47 = .ok (.iconst 2, 1) := by decide +kernel
theorem dX12_close_48 : decode cX12_close 48 = .ok (.iadd, 1) := by decide +kernel
theorem dX12_close_49 : decode cX12_close 49 = .ok (.laload, 1) := by decide +kernel
theorem dX12_close_50 : decode cX12_close 50 = .ok (.lstore 7, 2) := by decide +kernel
theorem dX12_close_52 : decode cX12_close 52 = .ok (.aload_n 0, 1) := by decide +kernel
theorem dX12_close_53 : decode cX12_close 53 = .ok (.getfield 33, 3) := by decide +kernel
theorem dX12_close_56 : decode cX12_close 56 = .ok (.iconst 4, 1) := by decide +kernel
theorem dX12_close_57 : decode cX12_close 57 = .ok (.iload_n 1, 1) := by decide +kernel
theorem dX12_close_58 : decode cX12_close 58 = .ok (.imul, 1) := by decide +kernel
theorem dX12_close_59 : decode cX12_close 59 = .ok (.iconst 3, 1) := by decide +kernel
theorem dX12_close_60 : decode cX12_close 60 = .ok (.iadd, 1) := by decide +kernel
theorem dX12_close_61 : decode cX12_close 61 = .ok (.laload, 1) := by decide +kernel
theorem dX12_close_62 : decode cX12_close 62 = .ok (.lstore 9, 2) := by decide +kernel
theorem dX12_close_64 : decode cX12_close 64 = .ok (.aload_n 0, 1) := by decide +kernel
theorem dX12_close_65 : decode cX12_close 65 = .ok (.iload_n 1, 1) := by decide +kernel
theorem dX12_close_66 : decode cX12_close 66 = .ok (.invokevirtual 705, 3) := by decide +kernel
theorem dX12_close_69 : decode cX12_close 69 = .ok (.istore 11, 2) := by decide +kernel
theorem dX12_close_71 : decode cX12_close 71 = .ok (.aload_n 0, 1) := by decide +kernel
theorem dX12_close_72 : decode cX12_close 72 = .ok (.getfield 37, 3) := by decide +kernel
theorem dX12_close_75 : decode cX12_close 75 = .ok (.iload_n 1, 1) := by decide +kernel
theorem dX12_close_76 : decode cX12_close 76 = .ok (.iaload, 1) := by decide +kernel
theorem dX12_close_77 : decode cX12_close 77 = .ok (.istore 12, 2) := by decide +kernel
theorem dX12_close_79 : decode cX12_close 79 = .ok (.aload_n 0, 1) := by decide +kernel
theorem dX12_close_80 : decode cX12_close 80 = .ok (.iload_n 1, 1) := by decide +kernel
theorem dX12_close_81 : decode cX12_close 81 = .ok (.invokevirtual 708, 3) := by decide +kernel
theorem dX12_close_84 : decode cX12_close 84 = .ok (.istore 13, 2) := by decide +kernel
theorem dX12_close_86 : decode cX12_close 86 = .ok (.aload_n 0, 1) := by decide +kernel
theorem dX12_close_87 : decode cX12_close 87 = .ok (.aload_n 0, 1) := by decide +kernel
theorem dX12_close_88 : decode cX12_close 88 = .ok (.getfield 525, 3) := by decide +kernel
theorem dX12_close_91 : decode cX12_close 91 = .ok (.invokevirtual 350, 3) := by decide +kernel
theorem dX12_close_94 : decode cX12_close 94 = .ok (.aload_n 0, 1) := by decide +kernel
theorem dX12_close_95 : decode cX12_close 95 = .ok (.bipush 60, 2) := by decide +kernel
theorem dX12_close_97 : decode cX12_close 97 = .ok (.invokevirtual 456, 3) := by decide +kernel
theorem dX12_close_100 : decode cX12_close 100 = .ok (.aload_n 0, 1) := by decide +kernel
theorem dX12_close_101 : decode cX12_close 101 = .ok (.bipush 64, 2) := by decide +kernel
theorem dX12_close_103 : decode cX12_close 103 = .ok (.iconst 2, 1) := by decide +kernel
theorem dX12_close_104 : decode cX12_close 104 = .ok (.ldc2_w 749, 3) := by decide +kernel
theorem dX12_close_107 : decode cX12_close 107 = .ok (.invokevirtual 376, 3) := by decide +kernel
theorem dX12_close_110 : decode cX12_close 110 = .ok (.aload_n 0, 1) := by decide +kernel
theorem dX12_close_111 : decode cX12_close 111 = .ok (.bipush 66, 2) := by decide +kernel
theorem dX12_close_113 : decode cX12_close 113 = .ok (.iconst 2, 1) := by decide +kernel
theorem dX12_close_114 : decode cX12_close 114 = .ok (.iload_n 2, 1) := by decide +kernel
theorem dX12_close_115 : decode cX12_close 115 = .ok (.i2l, 1) := by decide +kernel
theorem dX12_close_116 : decode cX12_close 116 = .ok (.invokevirtual 376, 3) := by decide +kernel
theorem dX12_close_119 : decode cX12_close 119 = .ok (.iload_n 2, 1) := by decide +kernel
theorem dX12_close_120 : decode cX12_close 120 = .ok (.iconst 1, 1) := by decide +kernel
theorem dX12_close_121 : decode cX12_close 121 = .ok (.if_icmp .ne 74, 3) := by decide +kernel
theorem dX12_close_124 : decode cX12_close 124 = .ok (.aload_n 0, 1) := by decide +kernel
theorem dX12_close_125 : decode cX12_close 125 = .ok (.bipush 72, 2) := by decide +kernel
theorem dX12_close_127 : decode cX12_close 127 = .ok (.bipush 8, 2) := by decide +kernel
theorem dX12_close_129 : decode cX12_close 129 = .ok (.lload_n 3, 1) := by decide +kernel
theorem dX12_close_130 : decode cX12_close 130 = .ok (.invokevirtual 376, 3) := by decide +kernel
theorem dX12_close_133 : decode cX12_close 133 = .ok (.aload_n 0, 1) := by decide +kernel
theorem dX12_close_134 : decode cX12_close 134 = .ok (.bipush 80, 2) := by decide +kernel
theorem dX12_close_136 : decode cX12_close 136 = .ok (.bipush 8, 2) := by decide +kernel
theorem dX12_close_138 : decode cX12_close 138 = .ok (.lload 5, 2) := by decide +kernel
theorem dX12_close_140 : decode cX12_close 140 = .ok (.invokevirtual 376, 3) := by decide +kernel
theorem dX12_close_143 : decode cX12_close 143 = .ok (.aload_n 0, 1) := by decide +kernel
theorem dX12_close_144 : decode cX12_close 144 = .ok (.bipush 88, 2) := by decide +kernel
theorem dX12_close_146 : decode cX12_close 146 = .ok (.bipush 8, 2) := by decide +kernel
theorem dX12_close_148 : decode cX12_close 148 = .ok (.lload 7, 2) := by decide +kernel
theorem dX12_close_150 : decode cX12_close 150 = .ok (.invokevirtual 376, 3) := by decide +kernel
theorem dX12_close_153 : decode cX12_close 153 = .ok (.aload_n 0, 1) := by decide +kernel
theorem dX12_close_154 : decode cX12_close 154 = .ok (.bipush 96, 2) := by decide +kernel
theorem dX12_close_156 : decode cX12_close 156 = .ok (.bipush 8, 2) := by decide +kernel
theorem dX12_close_158 : decode cX12_close 158 = .ok (.lload 9, 2) := by decide +kernel
theorem dX12_close_160 : decode cX12_close 160 = .ok (.invokevirtual 376, 3) := by decide +kernel
theorem dX12_close_163 : decode cX12_close 163 = .ok (.aload_n 0, 1) := by decide +kernel
theorem dX12_close_164 : decode cX12_close 164 = .ok (.bipush 104, 2) := by decide +kernel
theorem dX12_close_166 : decode cX12_close 166 = .ok (.bipush 8, 2) := by decide +kernel
theorem dX12_close_168 : decode cX12_close 168 = .ok (.iload 11, 2) := by decide +kernel
theorem dX12_close_170 : decode cX12_close 170 = .ok (.i2l, 1) := by decide +kernel
theorem dX12_close_171 : decode cX12_close 171 = .ok (.invokevirtual 376, 3) := by decide +kernel
theorem dX12_close_174 : decode cX12_close 174 = .ok (.aload_n 0, 1) := by decide +kernel
theorem dX12_close_175 : decode cX12_close 175 = .ok (.bipush 112, 2) := by decide +kernel
theorem dX12_close_177 : decode cX12_close 177 = .ok (.bipush 8, 2) := by decide +kernel
theorem dX12_close_179 : decode cX12_close 179 = .ok (.iload 12, 2) := by decide +kernel
theorem dX12_close_181 : decode cX12_close 181 = .ok (.i2l, 1) := by decide +kernel
theorem dX12_close_182 : decode cX12_close 182 = .ok (.invokevirtual 376, 3) := by decide +kernel
theorem dX12_close_185 : decode cX12_close 185 = .ok (.aload_n 0, 1) := by decide +kernel
theorem dX12_close_186 : decode cX12_close 186 = .ok (.bipush 120, 2) := by decide +kernel
theorem dX12_close_188 : decode cX12_close 188 = .ok (.iconst 4, 1) := by decide +kernel
theorem dX12_close_189 : decode cX12_close 189 = .ok (.iload 13, 2) := by decide +kernel
theorem dX12_close_191 : decode cX12_close 191 = .ok (.i2l, 1) := by decide +kernel
theorem dX12_close_192 : decode cX12_close 192 = .ok (.invokevirtual 376, 3) := by decide +kernel
theorem dX12_close_195 : decode cX12_close 195 = .ok (.lconst 0, 1) := by decide +kernel
theorem dX12_close_196 : decode cX12_close 196 = .ok (.lreturn, 1) := by decide +kernel
set_option maxRecDepth 100000 in
set_option maxHeartbeats 4000000 in
theorem c_X12_close (l : Launch) (D : va_G) (t : Nat → ClassId) (h0 : Nat) (L : Nat → Nat) (σ : HS) (hM : MdI h0 L σ)  (post : Int64 → HS → Prop) (hw : F_X12_close h0 L  post σ) (sz : Nat) : RMl l D t yX12_close cX12_close 14 (some .long) ({ frames := 10, cells := 0, slots := 0, locals := 265 }) h0 L σ sz [.ref h0] post := by
  refine h_go (τ := τT) okT (by decide) (Nat.le_of_ble_eq_true rfl) ?_
  intro p e s m below meth c ls A hF hr hlk hAe hH0 hA hl
  unfold hB
  rw [hAe]
  clear hAe
  have hF : FX p m c cX12_close 14 s _ RX12 D t := hF
  have hx := hF.1.1
  have hb := hF.1.2.1
  have hH : RT D t A s.heap h0 L σ s.heap [] := ⟨hH0, hM⟩
  have hl : lv_has ls 14 [(0, .ref h0)] := hl
  unfold F_X12_close at hw
  refine lv_aload_n hx hb dX12_close_0 rfl (lv_at hl 0 rfl) ?_
  refine w_getA 43 hF hH fk_X12_145 dX12_close_1 (by decide) rfl ?_
  refine lv_aload_n hx hb dX12_close_4 rfl (lv_at hl 0 rfl) ?_
  refine w_getI hF hH fk_X12_525 dX12_close_5 hw (fun z1 hw => ?_)
  refine w_iald 43 40 hF hH dX12_close_8 (by decide) rfl rfl hw (fun z2 hw => ?_)
  refine lv_istore_n (lv' := [(1, .int z2), (0, .ref h0)]) hx hb dX12_close_9 rfl hl (by decide) rfl (fun ls hl => ?_)
  refine lv_aload_n hx hb dX12_close_10 rfl (lv_at hl 1 rfl) ?_
  refine lv_bipush (v := 66) hx hb dX12_close_11 (by decide) ?_
  refine w_cVi (As := [.int 66]) (rest := []) hF hH hA mv_X12_415 (fun sz => c_X12_number2 l D t h0 L _ hH.2 66 _ hw sz) dX12_close_13 rfl rfl (by decide) rfl hl.1 (Nat.le_of_ble_eq_true rfl) (by decide) rfl (fun z4 σ3 H locs hw hH => ?_)
  refine lv_iconst (v := 1) hx hb dX12_close_16 (by decide) ?_
  refine lv_iand hx hb dX12_close_17 ?_
  refine w_nmi hw (fun z5 hw => ?_)
  refine lv_istore_n (lv' := [(2, .int z5), (1, .int z2), (0, .ref h0)]) hx hb dX12_close_18 rfl hl (by decide) rfl (fun ls hl => ?_)
  refine lv_aload_n hx hb dX12_close_19 rfl (lv_at hl 2 rfl) ?_
  refine w_getA 7 hF hH fk_X12_33 dX12_close_20 (by decide) rfl ?_
  refine lv_iconst (v := 4) hx hb dX12_close_23 (by decide) ?_
  refine lv_iload_n hx hb dX12_close_24 rfl (lv_at hl 1 rfl) ?_
  refine lv_imul hx hb dX12_close_25 ?_
  refine w_nmi hw (fun z6 hw => ?_)
  refine w_lald 7 640 hF hH dX12_close_26 (by decide) rfl rfl hw (fun z7 hw => ?_)
  refine lv_lstore_n (lv' := [(3, .long z7), (2, .int z5), (1, .int z2), (0, .ref h0)]) hx hb dX12_close_27 rfl hl (by decide) rfl (fun ls hl => ?_)
  refine lv_aload_n hx hb dX12_close_28 rfl (lv_at hl 3 rfl) ?_
  refine w_getA 7 hF hH fk_X12_33 dX12_close_29 (by decide) rfl ?_
  refine lv_iconst (v := 4) hx hb dX12_close_32 (by decide) ?_
  refine lv_iload_n hx hb dX12_close_33 rfl (lv_at hl 2 rfl) ?_
  refine lv_imul hx hb dX12_close_34 ?_
  refine w_nmi hw (fun z8 hw => ?_)
  refine lv_iconst (v := 1) hx hb dX12_close_35 (by decide) ?_
  refine lv_iadd hx hb dX12_close_36 ?_
  refine w_nmi hw (fun z9 hw => ?_)
  refine w_lald 7 640 hF hH dX12_close_37 (by decide) rfl rfl hw (fun z10 hw => ?_)
  refine lv_lstore (lv' := [(5, .long z10), (3, .long z7), (2, .int z5), (1, .int z2), (0, .ref h0)]) hx hb dX12_close_38 hl (by decide) rfl (fun ls hl => ?_)
  refine lv_aload_n hx hb dX12_close_40 rfl (lv_at hl 4 rfl) ?_
  refine w_getA 7 hF hH fk_X12_33 dX12_close_41 (by decide) rfl ?_
  refine lv_iconst (v := 4) hx hb dX12_close_44 (by decide) ?_
  refine lv_iload_n hx hb dX12_close_45 rfl (lv_at hl 3 rfl) ?_
  refine lv_imul hx hb dX12_close_46 ?_
  refine w_nmi hw (fun z11 hw => ?_)
  refine lv_iconst (v := 2) hx hb dX12_close_47 (by decide) ?_
  refine lv_iadd hx hb dX12_close_48 ?_
  refine w_nmi hw (fun z12 hw => ?_)
  refine w_lald 7 640 hF hH dX12_close_49 (by decide) rfl rfl hw (fun z13 hw => ?_)
  refine lv_lstore (lv' := [(7, .long z13), (5, .long z10), (3, .long z7), (2, .int z5), (1, .int z2), (0, .ref h0)]) hx hb dX12_close_50 hl (by decide) rfl (fun ls hl => ?_)
  refine lv_aload_n hx hb dX12_close_52 rfl (lv_at hl 5 rfl) ?_
  refine w_getA 7 hF hH fk_X12_33 dX12_close_53 (by decide) rfl ?_
  refine lv_iconst (v := 4) hx hb dX12_close_56 (by decide) ?_
  refine lv_iload_n hx hb dX12_close_57 rfl (lv_at hl 4 rfl) ?_
  refine lv_imul hx hb dX12_close_58 ?_
  refine w_nmi hw (fun z14 hw => ?_)
  refine lv_iconst (v := 3) hx hb dX12_close_59 (by decide) ?_
  refine lv_iadd hx hb dX12_close_60 ?_
  refine w_nmi hw (fun z15 hw => ?_)
  refine w_lald 7 640 hF hH dX12_close_61 (by decide) rfl rfl hw (fun z16 hw => ?_)
  refine lv_lstore (lv' := [(9, .long z16), (7, .long z13), (5, .long z10), (3, .long z7), (2, .int z5), (1, .int z2), (0, .ref h0)]) hx hb dX12_close_62 hl (by decide) rfl (fun ls hl => ?_)
  refine lv_aload_n hx hb dX12_close_64 rfl (lv_at hl 6 rfl) ?_
  refine lv_iload_n hx hb dX12_close_65 rfl (lv_at hl 5 rfl) ?_
  refine w_cVi (As := [.int z2]) (rest := []) hF hH hA mv_X12_705 (fun sz => c_X12_room l D t h0 L _ hH.2 z2 _ hw sz) dX12_close_66 rfl rfl (by decide) rfl hl.1 (Nat.le_of_ble_eq_true rfl) (by decide) rfl (fun z18 σ17 H locs hw hH => ?_)
  refine lv_istore (lv' := [(11, .int z18), (9, .long z16), (7, .long z13), (5, .long z10), (3, .long z7), (2, .int z5), (1, .int z2), (0, .ref h0)]) hx hb dX12_close_69 hl (by decide) rfl (fun ls hl => ?_)
  refine lv_aload_n hx hb dX12_close_71 rfl (lv_at hl 7 rfl) ?_
  refine w_getA 8 hF hH fk_X12_37 dX12_close_72 (by decide) rfl ?_
  refine lv_iload_n hx hb dX12_close_75 rfl (lv_at hl 6 rfl) ?_
  refine w_iald 8 160 hF hH dX12_close_76 (by decide) rfl rfl hw (fun z19 hw => ?_)
  refine lv_istore (lv' := [(12, .int z19), (11, .int z18), (9, .long z16), (7, .long z13), (5, .long z10), (3, .long z7), (2, .int z5), (1, .int z2), (0, .ref h0)]) hx hb dX12_close_77 hl (by decide) rfl (fun ls hl => ?_)
  refine lv_aload_n hx hb dX12_close_79 rfl (lv_at hl 8 rfl) ?_
  refine lv_iload_n hx hb dX12_close_80 rfl (lv_at hl 7 rfl) ?_
  refine w_cVi (As := [.int z2]) (rest := []) hF hH hA mv_X12_708 (fun sz => c_X12_shown l D t h0 L _ hH.2 z2 _ hw sz) dX12_close_81 rfl rfl (by decide) rfl hl.1 (Nat.le_of_ble_eq_true rfl) (by decide) rfl (fun z21 σ20 H locs hw hH => ?_)
  refine lv_istore (lv' := [(13, .int z21), (12, .int z19), (11, .int z18), (9, .long z16), (7, .long z13), (5, .long z10), (3, .long z7), (2, .int z5), (1, .int z2), (0, .ref h0)]) hx hb dX12_close_84 hl (by decide) rfl (fun ls hl => ?_)
  refine lv_aload_n hx hb dX12_close_86 rfl (lv_at hl 9 rfl) ?_
  refine lv_aload_n hx hb dX12_close_87 rfl (lv_at hl 9 rfl) ?_
  refine w_getI hF hH fk_X12_525 dX12_close_88 hw (fun z22 hw => ?_)
  refine w_cVv (As := [.int z22]) (rest := []) hF hH hA mv_X12_350 (fun sz => c_X12_closes l D t h0 L _ hH.2 z22 _ hw sz) dX12_close_91 rfl rfl (by decide) rfl hl.1 (Nat.le_of_ble_eq_true rfl) (by decide) rfl (fun σ23 H locs hw hH => ?_)
  refine lv_aload_n hx hb dX12_close_94 rfl (lv_at hl 9 rfl) ?_
  refine lv_bipush (v := 60) hx hb dX12_close_95 (by decide) ?_
  refine w_cVv (As := [.int 60]) (rest := []) hF hH hA mv_X12_456 (fun sz => c_X12_body l D t h0 L _ hH.2 60 _ hw sz) dX12_close_97 rfl rfl (by decide) rfl hl.1 (Nat.le_of_ble_eq_true rfl) (by decide) rfl (fun σ25 H locs hw hH => ?_)
  refine lv_aload_n hx hb dX12_close_100 rfl (lv_at hl 9 rfl) ?_
  refine lv_bipush (v := 64) hx hb dX12_close_101 (by decide) ?_
  refine lv_iconst (v := 2) hx hb dX12_close_103 (by decide) ?_
  refine lv_ldc2 (v := 60) hx hb hF.1.2.2.2.1 (hF.1.2.2.2.2 _ (wc_55 14 rfl)) dX12_close_104 ?_
  refine w_cVv (As := [.int 64, .int 2, .long 60]) (rest := []) hF hH hA mv_X12_376 (fun sz => c_X12_set l D t h0 L _ hH.2 64 2 60 _ hw sz) dX12_close_107 rfl rfl (by decide) rfl hl.1 (Nat.le_of_ble_eq_true rfl) (by decide) rfl (fun σ27 H locs hw hH => ?_)
  refine lv_aload_n hx hb dX12_close_110 rfl (lv_at hl 9 rfl) ?_
  refine lv_bipush (v := 66) hx hb dX12_close_111 (by decide) ?_
  refine lv_iconst (v := 2) hx hb dX12_close_113 (by decide) ?_
  refine lv_iload_n hx hb dX12_close_114 rfl (lv_at hl 7 rfl) ?_
  refine lv_i2l hx hb dX12_close_115 rfl ?_
  refine w_nml hw (fun z29 hw => ?_)
  refine w_cVv (As := [.int 66, .int 2, .long z29]) (rest := []) hF hH hA mv_X12_376 (fun sz => c_X12_set l D t h0 L _ hH.2 66 2 z29 _ hw sz) dX12_close_116 rfl rfl (by decide) rfl hl.1 (Nat.le_of_ble_eq_true rfl) (by decide) rfl (fun σ30 H locs hw hH => ?_)
  refine lv_iload_n hx hb dX12_close_119 rfl (lv_at hl 7 rfl) ?_
  refine lv_iconst (v := 1) hx hb dX12_close_120 (by decide) ?_
  obtain ⟨K34, hK35, hw⟩ := jn_open hw
  refine w_join (K := K34) 195 (fun (x32 : Unit) => []) (fun (x32 : Unit) => []) hl hH (fun x32 σ33 ls H locs hl hw hH => ?_) (fun jn36 => ?_)
  · have hw := hK35 x32 σ33 hw
    have hl : lv_has ls 14 [] := hl
    refine lv_lconst (v := 0) hx hb dX12_close_195 (by decide) ?_
    exact w_retl hF hH hr hlk dX12_close_196 hw
  · skip
    refine w_icmp_ne (tgt := 195) hF dX12_close_121 rfl hw (fun hw => ?_) (fun hw => ?_)
    · have hl : lv_has ls 14 [] := lv_sub hl [] rfl
      exact jn36 () σ30 ls _ _ hl hw hH
    · refine lv_aload_n hx hb dX12_close_124 rfl (lv_at hl 9 rfl) ?_
      refine lv_bipush (v := 72) hx hb dX12_close_125 (by decide) ?_
      refine lv_bipush (v := 8) hx hb dX12_close_127 (by decide) ?_
      refine lv_lload_n hx hb dX12_close_129 rfl (lv_at hl 6 rfl) ?_
      refine w_cVv (As := [.int 72, .int 8, .long z7]) (rest := []) hF hH hA mv_X12_376 (fun sz => c_X12_set l D t h0 L _ hH.2 72 8 z7 _ hw sz) dX12_close_130 rfl rfl (by decide) rfl hl.1 (Nat.le_of_ble_eq_true rfl) (by decide) rfl (fun σ37 H locs hw hH => ?_)
      refine lv_aload_n hx hb dX12_close_133 rfl (lv_at hl 9 rfl) ?_
      refine lv_bipush (v := 80) hx hb dX12_close_134 (by decide) ?_
      refine lv_bipush (v := 8) hx hb dX12_close_136 (by decide) ?_
      refine lv_lload hx hb dX12_close_138 (lv_at hl 5 rfl) ?_
      refine w_cVv (As := [.int 80, .int 8, .long z10]) (rest := []) hF hH hA mv_X12_376 (fun sz => c_X12_set l D t h0 L _ hH.2 80 8 z10 _ hw sz) dX12_close_140 rfl rfl (by decide) rfl hl.1 (Nat.le_of_ble_eq_true rfl) (by decide) rfl (fun σ39 H locs hw hH => ?_)
      refine lv_aload_n hx hb dX12_close_143 rfl (lv_at hl 9 rfl) ?_
      refine lv_bipush (v := 88) hx hb dX12_close_144 (by decide) ?_
      refine lv_bipush (v := 8) hx hb dX12_close_146 (by decide) ?_
      refine lv_lload hx hb dX12_close_148 (lv_at hl 4 rfl) ?_
      refine w_cVv (As := [.int 88, .int 8, .long z13]) (rest := []) hF hH hA mv_X12_376 (fun sz => c_X12_set l D t h0 L _ hH.2 88 8 z13 _ hw sz) dX12_close_150 rfl rfl (by decide) rfl hl.1 (Nat.le_of_ble_eq_true rfl) (by decide) rfl (fun σ41 H locs hw hH => ?_)
      refine lv_aload_n hx hb dX12_close_153 rfl (lv_at hl 9 rfl) ?_
      refine lv_bipush (v := 96) hx hb dX12_close_154 (by decide) ?_
      refine lv_bipush (v := 8) hx hb dX12_close_156 (by decide) ?_
      refine lv_lload hx hb dX12_close_158 (lv_at hl 3 rfl) ?_
      refine w_cVv (As := [.int 96, .int 8, .long z16]) (rest := []) hF hH hA mv_X12_376 (fun sz => c_X12_set l D t h0 L _ hH.2 96 8 z16 _ hw sz) dX12_close_160 rfl rfl (by decide) rfl hl.1 (Nat.le_of_ble_eq_true rfl) (by decide) rfl (fun σ43 H locs hw hH => ?_)
      refine lv_aload_n hx hb dX12_close_163 rfl (lv_at hl 9 rfl) ?_
      refine lv_bipush (v := 104) hx hb dX12_close_164 (by decide) ?_
      refine lv_bipush (v := 8) hx hb dX12_close_166 (by decide) ?_
      refine lv_iload hx hb dX12_close_168 (lv_at hl 2 rfl) ?_
      refine lv_i2l hx hb dX12_close_170 rfl ?_
      refine w_nml hw (fun z45 hw => ?_)
      refine w_cVv (As := [.int 104, .int 8, .long z45]) (rest := []) hF hH hA mv_X12_376 (fun sz => c_X12_set l D t h0 L _ hH.2 104 8 z45 _ hw sz) dX12_close_171 rfl rfl (by decide) rfl hl.1 (Nat.le_of_ble_eq_true rfl) (by decide) rfl (fun σ46 H locs hw hH => ?_)
      refine lv_aload_n hx hb dX12_close_174 rfl (lv_at hl 9 rfl) ?_
      refine lv_bipush (v := 112) hx hb dX12_close_175 (by decide) ?_
      refine lv_bipush (v := 8) hx hb dX12_close_177 (by decide) ?_
      refine lv_iload hx hb dX12_close_179 (lv_at hl 1 rfl) ?_
      refine lv_i2l hx hb dX12_close_181 rfl ?_
      refine w_nml hw (fun z48 hw => ?_)
      refine w_cVv (As := [.int 112, .int 8, .long z48]) (rest := []) hF hH hA mv_X12_376 (fun sz => c_X12_set l D t h0 L _ hH.2 112 8 z48 _ hw sz) dX12_close_182 rfl rfl (by decide) rfl hl.1 (Nat.le_of_ble_eq_true rfl) (by decide) rfl (fun σ49 H locs hw hH => ?_)
      refine lv_aload_n hx hb dX12_close_185 rfl (lv_at hl 9 rfl) ?_
      refine lv_bipush (v := 120) hx hb dX12_close_186 (by decide) ?_
      refine lv_iconst (v := 4) hx hb dX12_close_188 (by decide) ?_
      refine lv_iload hx hb dX12_close_189 (lv_at hl 0 rfl) ?_
      refine lv_i2l hx hb dX12_close_191 rfl ?_
      refine w_nml hw (fun z51 hw => ?_)
      refine w_cVv (As := [.int 120, .int 4, .long z51]) (rest := []) hF hH hA mv_X12_376 (fun sz => c_X12_set l D t h0 L _ hH.2 120 4 z51 _ hw sz) dX12_close_192 rfl rfl (by decide) rfl hl.1 (Nat.le_of_ble_eq_true rfl) (by decide) rfl (fun σ52 H locs hw hH => ?_)
      have hl : lv_has ls 14 [] := lv_sub hl [] rfl
      exact jn36 () σ52 ls _ _ hl hw hH
def F_X12_flush (h0 : Nat) (L : Nat → Nat)  (post : Int64 → HS → Prop) (σ : HS) : Prop := ∀ z1 : Int32, z1 = sI σ h0 100 → (0 ≤ z1.toInt ∧ z1.toInt < 40) ∧ ∀ z2 : Int32, z2 = sI σ (L 44) z1.toInt.toNat → ∀ z3 : Int32, z3 = z2 &&& 6 → ((¬ z3.toInt = 0) → F_X12_allCome h0 L  (fun (σ4 : HS) => F_X12_small h0 L 4 (fun (z7 : Int64) (σ6 : HS) => post z7 σ6) σ4) σ) ∧ ((z3.toInt = 0) → post 3221225506 σ)
theorem dX12_flush_0 : decode cX12_flush 0 = .ok (.aload_n 0, 1) := by decide +kernel
theorem dX12_flush_1 : decode cX12_flush 1 = .ok (.getfield 148, 3) := by decide +kernel
theorem dX12_flush_4 : decode cX12_flush 4 = .ok (.aload_n 0, 1) := by decide +kernel
theorem dX12_flush_5 : decode cX12_flush 5 = .ok (.getfield 525, 3) := by decide +kernel
theorem dX12_flush_8 : decode cX12_flush 8 = .ok (.iaload, 1) := by decide +kernel
theorem dX12_flush_9 : decode cX12_flush 9 = .ok (.bipush 6, 2) := by decide +kernel
theorem dX12_flush_11 : decode cX12_flush 11 = .ok (.iand, 1) := by decide +kernel
theorem dX12_flush_12 : decode cX12_flush 12 = .ok (.ifCond .ne 7, 3) := by decide +kernel
theorem dX12_flush_15 : decode cX12_flush 15 = .ok (.ldc2_w 667, 3) := by decide +kernel
theorem dX12_flush_18 : decode cX12_flush 18 = .ok (.lreturn, 1) := by decide +kernel
theorem dX12_flush_19 : decode cX12_flush 19 = .ok (.aload_n 0, 1) := by decide +kernel
theorem dX12_flush_20 : decode cX12_flush 20 = .ok (.invokevirtual 278, 3) := by decide +kernel
theorem dX12_flush_23 : decode cX12_flush 23 = .ok (.aload_n 0, 1) := by decide +kernel
theorem dX12_flush_24 : decode cX12_flush 24 = .ok (.iconst 4, 1) := by decide +kernel
theorem dX12_flush_25 : decode cX12_flush 25 = .ok (.invokevirtual 536, 3) := by decide +kernel
theorem dX12_flush_28 : decode cX12_flush 28 = .ok (.lreturn, 1) := by decide +kernel
set_option maxRecDepth 100000 in
set_option maxHeartbeats 4000000 in
theorem c_X12_flush (l : Launch) (D : va_G) (t : Nat → ClassId) (h0 : Nat) (L : Nat → Nat) (σ : HS) (hM : MdI h0 L σ)  (post : Int64 → HS → Prop) (hw : F_X12_flush h0 L  post σ) (sz : Nat) : RMl l D t yX12_flush cX12_flush 1 (some .long) ({ frames := 4, cells := 0, slots := 0, locals := 91 }) h0 L σ sz [.ref h0] post := by
  refine h_go (τ := τT) okT (by decide) (Nat.le_of_ble_eq_true rfl) ?_
  intro p e s m below meth c ls A hF hr hlk hAe hH0 hA hl
  unfold hB
  rw [hAe]
  clear hAe
  have hF : FX p m c cX12_flush 1 s _ RX12 D t := hF
  have hx := hF.1.1
  have hb := hF.1.2.1
  have hH : RT D t A s.heap h0 L σ s.heap [] := ⟨hH0, hM⟩
  have hl : lv_has ls 1 [(0, .ref h0)] := hl
  unfold F_X12_flush at hw
  refine lv_aload_n hx hb dX12_flush_0 rfl (lv_at hl 0 rfl) ?_
  refine w_getA 44 hF hH fk_X12_148 dX12_flush_1 (by decide) rfl ?_
  refine lv_aload_n hx hb dX12_flush_4 rfl (lv_at hl 0 rfl) ?_
  refine w_getI hF hH fk_X12_525 dX12_flush_5 hw (fun z1 hw => ?_)
  refine w_iald 44 40 hF hH dX12_flush_8 (by decide) rfl rfl hw (fun z2 hw => ?_)
  refine lv_bipush (v := 6) hx hb dX12_flush_9 (by decide) ?_
  refine lv_iand hx hb dX12_flush_11 ?_
  refine w_nmi hw (fun z3 hw => ?_)
  refine w_if_ne (tgt := 19) hF dX12_flush_12 rfl hw (fun hw => ?_) (fun hw => ?_)
  · refine lv_aload_n hx hb dX12_flush_19 rfl (lv_at hl 0 rfl) ?_
    refine w_cVv (As := []) (rest := []) hF hH hA mv_X12_278 (fun sz => c_X12_allCome l D t h0 L _ hH.2  _ hw sz) dX12_flush_20 rfl rfl (by decide) rfl hl.1 (Nat.le_of_ble_eq_true rfl) (by decide) rfl (fun σ4 H locs hw hH => ?_)
    refine lv_aload_n hx hb dX12_flush_23 rfl (lv_at hl 0 rfl) ?_
    refine lv_iconst (v := 4) hx hb dX12_flush_24 (by decide) ?_
    refine w_cVl (As := [.int 4]) (rest := []) hF hH hA mv_X12_536 (fun sz => c_X12_small l D t h0 L _ hH.2 4 _ hw sz) dX12_flush_25 rfl rfl (by decide) rfl hl.1 (Nat.le_of_ble_eq_true rfl) (by decide) rfl (fun z7 σ6 H locs hw hH => ?_)
    exact w_retl hF hH hr hlk dX12_flush_28 hw
  · refine lv_ldc2 (v := 3221225506) hx hb hF.1.2.2.2.1 (hF.1.2.2.2.2 _ (wc_53 35 rfl)) dX12_flush_15 ?_
    exact w_retl hF hH hr hlk dX12_flush_18 hw
def F_X12_read (h0 : Nat) (L : Nat → Nat)  (post : Int64 → HS → Prop) (σ : HS) : Prop := F_X12_number h0 L 68 4 (fun (z2 : Int64) (σ1 : HS) => F_X12_number h0 L 72 8 (fun (z4 : Int64) (σ3 : HS) => F_X12_number h0 L 96 4 (fun (z6 : Int64) (σ5 : HS) => ∀ z7 : Int32, z7 = sI σ5 h0 100 → (0 ≤ z7.toInt ∧ z7.toInt < 40) ∧ ∀ z8 : Int32, z8 = sI σ5 (L 43) z7.toInt.toNat → ((z2.toInt ≤ (1024 : Int64).toInt) → (0 ≤ z8.toInt ∧ z8.toInt < 160) ∧ ∀ z9 : Int32, z9 = sI σ5 (L 3) z8.toInt.toNat → ((z9.toInt = 0) → ∀ z10 : Int32, z10 = sI σ5 h0 100 → (0 ≤ z10.toInt ∧ z10.toInt < 40) ∧ ∀ z11 : Int32, z11 = sI σ5 (L 44) z10.toInt.toNat → ∀ z12 : Int32, z12 = z11 &&& 1 → ((¬ z12.toInt = 0) → lw (fun (K15 : Int32 → HS → Prop) (x13 : Int32) (σ14 : HS) => ∀ z17 : Int32, z17 = sI σ14 h0 63 → ((z17.toInt ≤ x13.toInt) → (0 ≤ z8.toInt ∧ z8.toInt < 160) ∧ ∀ z18 : Int32, z18 = sI σ14 (L 8) z8.toInt.toNat → ∀ z19 : Int64, z19 = (z18 : Int32).toInt64 → F_X12_isLess h0 L z4 z19 (fun (z21 : Int32) (σ20 : HS) => jn (fun (K24 : Int32 → HS → Prop) => ((¬ z21.toInt = 0) → K24 0 σ20) ∧ ((z21.toInt = 0) → K24 1 σ20)) (fun (x22 : Int32) (σ23 : HS) => jn (fun (K29 : Int64 → HS → Prop) => ((x22.toInt = 0) → (0 ≤ z8.toInt ∧ z8.toInt < 160) ∧ ∀ z72 : Int32, z72 = sI σ23 (L 8) z8.toInt.toNat → ∀ z73 : Int64, z73 = (z72 : Int32).toInt64 → ∀ z74 : Int64, z74 = z73 - z4 → ((z2.toInt ≤ z74.toInt) → K29 z2 σ23) ∧ ((z74.toInt < z2.toInt) → (0 ≤ z8.toInt ∧ z8.toInt < 160) ∧ ∀ z75 : Int32, z75 = sI σ23 (L 8) z8.toInt.toNat → ∀ z76 : Int64, z76 = (z75 : Int32).toInt64 → ∀ z77 : Int64, z77 = z76 - z4 → K29 z77 σ23)) ∧ ((¬ x22.toInt = 0) → K29 0 σ23)) (fun (x27 : Int64) (σ28 : HS) => jn (fun (K34 : Unit → HS → Prop) => jn (fun (K39 : Unit → HS → Prop) => ((x22.toInt = 0) → K39 () σ28) ∧ ((¬ x22.toInt = 0) → ((¬ z2.toInt = (0 : Int64).toInt) → K34 () σ28) ∧ ((z2.toInt = (0 : Int64).toInt) → K39 () σ28))) (fun (x37 : Unit) (σ38 : HS) => ((z6.toInt ≤ x27.toInt) → jn (fun (K44 : Int32 → HS → Prop) => ((¬ x27.toInt = (0 : Int64).toInt) → ∀ z71 : Int32, z71 = (x27 : Int64).toInt32 → K44 z71 σ38) ∧ ((x27.toInt = (0 : Int64).toInt) → K44 1 σ38)) (fun (x42 : Int32) (σ43 : HS) => ∀ z47 : Int32, z47 = 16 + x42 → F_X12_body h0 L z47 (fun (σ48 : HS) => F_X12_set h0 L 64 2 17 (fun (σ50 : HS) => F_X12_set h0 L 66 1 80 (fun (σ52 : HS) => F_X12_set h0 L 68 4 x27 (fun (σ54 : HS) => lw (fun (K58 : Int32 → HS → Prop) (x56 : Int32) (σ57 : HS) => ∀ z60 : Int64, z60 = (x56 : Int32).toInt64 → ((x27.toInt ≤ z60.toInt) → post 0 σ57) ∧ ((z60.toInt < x27.toInt) → ∀ z61 : Int32, z61 = 80 + x56 → ∀ z62 : Int32, z62 = 4096 * z8 → ∀ z63 : Int32, z63 = (z4 : Int64).toInt32 → ∀ z64 : Int32, z64 = z62 + z63 → ∀ z65 : Int32, z65 = z64 + x56 → (0 ≤ z65.toInt ∧ z65.toInt < 655360) ∧ ∀ z66 : Int32, z66 = sI σ57 (L 9) z65.toInt.toNat → ∀ z67 : Int64, z67 = (z66 : Int32).toInt64 → F_X12_set h0 L z61 1 z67 (fun (σ68 : HS) => ∀ z70 : Int32, z70 = x56 + 1 → K58 z70 σ68) σ57)) 0 σ54) σ52) σ50) σ48) σ43)) ∧ ((x27.toInt < z6.toInt) → K34 () σ38))) (fun (x32 : Unit) (σ33 : HS) => post 3221225489 σ33)))) σ14) ∧ ((x13.toInt < z17.toInt) → (0 ≤ x13.toInt ∧ x13.toInt < 80) ∧ ∀ z78 : Int32, z78 = sI σ14 (L 57) x13.toInt.toNat → jn (fun (K81 : Unit → HS → Prop) => ((¬ z78.toInt = z8.toInt) → K81 () σ14) ∧ ((z78.toInt = z8.toInt) → (0 ≤ x13.toInt ∧ x13.toInt < 80) ∧ ∀ z85 : Int32, z85 = sI σ14 (L 60) x13.toInt.toNat → ((¬ z85.toInt = 0) → K81 () σ14) ∧ ((z85.toInt = 0) → (0 ≤ x13.toInt ∧ x13.toInt < 80) ∧ ∀ z86 : Int64, z86 = sJ σ14 (L 56) x13.toInt.toNat → ∀ z87 : Int32, z87 = sI σ14 h0 100 → (0 ≤ z87.toInt ∧ z87.toInt < 40) ∧ ∀ z88 : Int64, z88 = sJ σ14 (L 41) z87.toInt.toNat → ((z86.toInt = z88.toInt) → K81 () σ14) ∧ ((¬ z86.toInt = z88.toInt) → (0 ≤ x13.toInt ∧ x13.toInt < 80) ∧ ∀ z89 : Int64, z89 = sJ σ14 (L 58) x13.toInt.toNat → (0 ≤ x13.toInt ∧ x13.toInt < 80) ∧ ∀ z90 : Int64, z90 = sJ σ14 (L 59) x13.toInt.toNat → F_X12_meet h0 L z4 z2 z89 z90 (fun (z92 : Int32) (σ91 : HS) => ((z92.toInt = 0) → K81 () σ91) ∧ ((¬ z92.toInt = 0) → post 3221225556 σ91)) σ14)))) (fun (x79 : Unit) (σ80 : HS) => ∀ z84 : Int32, z84 = x13 + 1 → K15 z84 σ80))) 0 σ5) ∧ ((z12.toInt = 0) → post 3221225506 σ5)) ∧ ((¬ z9.toInt = 0) → post 3221225658 σ5)) ∧ (((1024 : Int64).toInt < z2.toInt) → post 3221225485 σ5)) σ3) σ1) σ
theorem dX12_read_0 : decode cX12_read 0 = .ok (.aload_n 0, 1) := by decide +kernel
theorem dX12_read_1 : decode cX12_read 1 = .ok (.bipush 68, 2) := by decide +kernel
theorem dX12_read_3 : decode cX12_read 3 = .ok (.iconst 4, 1) := by decide +kernel
theorem dX12_read_4 : decode cX12_read 4 = .ok (.invokevirtual 364, 3) := by decide +kernel
theorem dX12_read_7 : decode cX12_read 7 = .ok (.lstore_n 1, 1) := by decide +kernel
theorem dX12_read_8 : decode cX12_read 8 = .ok (.aload_n 0, 1) := by decide +kernel
theorem dX12_read_9 : decode cX12_read 9 = .ok (.bipush 72, 2) := by decide +kernel
theorem dX12_read_11 : decode cX12_read 11 = .ok (.bipush 8, 2) := by decide +kernel
theorem dX12_read_13 : decode cX12_read 13 = .ok (.invokevirtual 364, 3) := by decide +kernel
theorem dX12_read_16 : decode cX12_read 16 = .ok (.lstore_n 3, 1) := by decide +kernel
theorem dX12_read_17 : decode cX12_read 17 = .ok (.aload_n 0, 1) := by decide +kernel
theorem dX12_read_18 : decode cX12_read 18 = .ok (.bipush 96, 2) := by decide +kernel
theorem dX12_read_20 : decode cX12_read 20 = .ok (.iconst 4, 1) := by decide +kernel
theorem dX12_read_21 : decode cX12_read 21 = .ok (.invokevirtual 364, 3) := by decide +kernel
theorem dX12_read_24 : decode cX12_read 24 = .ok (.lstore 5, 2) := by decide +kernel
theorem dX12_read_26 : decode cX12_read 26 = .ok (.aload_n 0, 1) := by decide +kernel
theorem dX12_read_27 : decode cX12_read 27 = .ok (.getfield 145, 3) := by decide +kernel
theorem dX12_read_30 : decode cX12_read 30 = .ok (.aload_n 0, 1) := by decide +kernel
theorem dX12_read_31 : decode cX12_read 31 = .ok (.getfield 525, 3) := by decide +kernel
theorem dX12_read_34 : decode cX12_read 34 = .ok (.iaload, 1) := by decide +kernel
theorem dX12_read_35 : decode cX12_read 35 = .ok (.istore 7, 2) := by decide +kernel
theorem dX12_read_37 : decode cX12_read 37 = .ok (.lload_n 1, 1) := by decide +kernel
theorem dX12_read_38 : decode cX12_read 38 = .ok (.ldc2_w 490, 3) := by decide +kernel
theorem dX12_read_41 : decode cX12_read 41 = .ok (.lcmp, 1) := by decide +kernel
theorem dX12_read_42 : decode cX12_read 42 = .ok (.ifCond .le 7, 3) := by decide +kernel
theorem dX12_read_45 : decode cX12_read 45 = .ok (.ldc2_w 518, 3) := by decide +kernel
theorem dX12_read_48 : decode cX12_read 48 = .ok (.lreturn, 1) := by decide +kernel
theorem dX12_read_49 : decode cX12_read 49 = .ok (.aload_n 0, 1) := by decide +kernel
theorem dX12_read_50 : decode cX12_read 50 = .ok (.getfield 21, 3) := by decide +kernel
theorem dX12_read_53 : decode cX12_read 53 = .ok (.iload 7, 2) := by decide +kernel
theorem dX12_read_55 : decode cX12_read 55 = .ok (.baload, 1) := by decide +kernel
theorem dX12_read_56 : decode cX12_read 56 = .ok (.ifCond .eq 7, 3) := by decide +kernel
theorem dX12_read_59 : decode cX12_read 59 = .ok (.ldc2_w 715, 3) := by decide +kernel
theorem dX12_read_62 : decode cX12_read 62 = .ok (.lreturn, 1) := by decide +kernel
theorem dX12_read_63 : decode cX12_read 63 = .ok (.aload_n 0, 1) := by decide +kernel
theorem dX12_read_64 : decode cX12_read 64 = .ok (.getfield 148, 3) := by decide +kernel
theorem dX12_read_67 : decode cX12_read 67 = .ok (.aload_n 0, 1) := by decide +kernel
theorem dX12_read_68 : decode cX12_read 68 = .ok (.getfield 525, 3) := by decide +kernel
theorem dX12_read_71 : decode cX12_read 71 = .ok (.iaload, 1) := by decide +kernel
theorem dX12_read_72 : decode cX12_read 72 = .ok (.iconst 1, 1) := by decide +kernel
theorem dX12_read_73 : decode cX12_read 73 = .ok (.iand, 1) := by decide +kernel
theorem dX12_read_74 : decode cX12_read 74 = .ok (.ifCond .ne 7, 3) := by decide +kernel
theorem dX12_read_77 : decode cX12_read 77 = .ok (.ldc2_w 667, 3) := by decide +kernel
theorem dX12_read_80 : decode cX12_read 80 = .ok (.lreturn, 1) := by decide +kernel
theorem dX12_read_81 : decode cX12_read 81 = .ok (.iconst 0, 1) := by decide +kernel
theorem dX12_read_82 : decode cX12_read 82 = .ok (.istore 8, 2) := by decide +kernel
theorem dX12_read_84 : decode cX12_read 84 = .ok (.iload 8, 2) := by decide +kernel
theorem dX12_read_86 : decode cX12_read 86 = .ok (.aload_n 0, 1) := by decide +kernel
theorem dX12_read_87 : decode cX12_read 87 = .ok (.getfield 289, 3) := by decide +kernel
theorem dX12_read_90 : decode cX12_read 90 = .ok (.if_icmp .ge 77, 3) := by decide +kernel
theorem dX12_read_93 : decode cX12_read 93 = .ok (.aload_n 0, 1) := by decide +kernel
theorem dX12_read_94 : decode cX12_read 94 = .ok (.getfield 187, 3) := by decide +kernel
theorem dX12_read_97 : decode cX12_read 97 = .ok (.iload 8, 2) := by decide +kernel
theorem dX12_read_99 : decode cX12_read 99 = .ok (.iaload, 1) := by decide +kernel
theorem dX12_read_100 : decode cX12_read 100 = .ok (.iload 7, 2) := by decide +kernel
theorem dX12_read_102 : decode cX12_read 102 = .ok (.if_icmp .ne 59, 3) := by decide +kernel
theorem dX12_read_105 : decode cX12_read 105 = .ok (.aload_n 0, 1) := by decide +kernel
theorem dX12_read_106 : decode cX12_read 106 = .ok (.getfield 196, 3) := by decide +kernel
theorem dX12_read_109 : decode cX12_read 109 = .ok (.iload 8, 2) := by decide +kernel
theorem dX12_read_111 : decode cX12_read 111 = .ok (.baload, 1) := by decide +kernel
theorem dX12_read_112 : decode cX12_read 112 = .ok (.ifCond .ne 49, 3) := by decide +kernel
theorem dX12_read_115 : decode cX12_read 115 = .ok (.aload_n 0, 1) := by decide +kernel
theorem dX12_read_116 : decode cX12_read 116 = .ok (.getfield 184, 3) := by decide +kernel
theorem dX12_read_119 : decode cX12_read 119 = .ok (.iload 8, 2) := by decide +kernel
theorem dX12_read_121 : decode cX12_read 121 = .ok (.laload, 1) := by decide +kernel
theorem dX12_read_122 : decode cX12_read 122 = .ok (.aload_n 0, 1) := by decide +kernel
theorem dX12_read_123 : decode cX12_read 123 = .ok (.getfield 139, 3) := by decide +kernel
theorem dX12_read_126 : decode cX12_read 126 = .ok (.aload_n 0, 1) := by decide +kernel
theorem dX12_read_127 : decode cX12_read 127 = .ok (.getfield 525, 3) := by decide +kernel
theorem dX12_read_130 : decode cX12_read 130 = .ok (.laload, 1) := by decide +kernel
theorem dX12_read_131 : decode cX12_read 131 = .ok (.lcmp, 1) := by decide +kernel
theorem dX12_read_132 : decode cX12_read 132 = .ok (.ifCond .eq 29, 3) := by decide +kernel
theorem dX12_read_135 : decode cX12_read 135 = .ok (.lload_n 3, 1) := by decide +kernel
theorem dX12_read_136 : decode cX12_read 136 = .ok (.lload_n 1, 1) := by decide +kernel
theorem dX12_read_137 : decode cX12_read 137 = .ok (.aload_n 0, 1) := by decide +kernel
theorem dX12_read_138 : decode cX12_read 138 = .ok (.getfield 190, 3) := by decide +kernel
theorem dX12_read_141 : decode cX12_read 141 = .ok (.iload 8, 2) := by decide +kernel
theorem dX12_read_143 : decode cX12_read 143 = .ok (.laload, 1) := by decide +kernel
theorem dX12_read_144 : decode cX12_read 144 = .ok (.aload_n 0, 1) := by decide +kernel
theorem dX12_read_145 : decode cX12_read 145 = .ok (.getfield 193, 3) := by decide +kernel
theorem dX12_read_148 : decode cX12_read 148 = .ok (.iload 8, 2) := by decide +kernel
theorem dX12_read_150 : decode cX12_read 150 = .ok (.laload, 1) := by decide +kernel
theorem dX12_read_151 : decode cX12_read 151 = .ok (.invokestatic 766, 3) := by decide +kernel
theorem dX12_read_154 : decode cX12_read 154 = .ok (.ifCond .eq 7, 3) := by decide +kernel
theorem dX12_read_157 : decode cX12_read 157 = .ok (.ldc2_w 770, 3) := by decide +kernel
theorem dX12_read_160 : decode cX12_read 160 = .ok (.lreturn, 1) := by decide +kernel
theorem dX12_read_161 : decode cX12_read 161 = .ok (.iinc 8 1, 3) := by decide +kernel
theorem dX12_read_164 : decode cX12_read 164 = .ok (.goto (-80), 3) := by decide +kernel
theorem dX12_read_167 : decode cX12_read 167 = .ok (.lload_n 3, 1) := by decide +kernel
theorem dX12_read_168 : decode cX12_read 168 = .ok (.aload_n 0, 1) := by decide +kernel
theorem dX12_read_169 : decode cX12_read 169 = .ok (.getfield 37, 3) := by decide +kernel
theorem dX12_read_172 : decode cX12_read 172 = .ok (.iload 7, 2) := by decide +kernel
theorem dX12_read_174 : decode cX12_read 174 = .ok (.iaload, 1) := by decide +kernel
theorem dX12_read_175 : decode cX12_read 175 = .ok (.i2l, 1) := by decide +kernel
theorem dX12_read_176 : decode cX12_read 176 = .ok (.invokestatic 763, 3) := by decide +kernel
theorem dX12_read_179 : decode cX12_read 179 = .ok (.ifCond .ne 7, 3) := by decide +kernel
theorem dX12_read_182 : decode cX12_read 182 = .ok (.iconst 1, 1) := by decide +kernel
theorem dX12_read_183 : decode cX12_read 183 = .ok (.goto 4, 3) := by decide +kernel
theorem dX12_read_186 : decode cX12_read 186 = .ok (.iconst 0, 1) := by decide +kernel
theorem dX12_read_187 : decode cX12_read 187 = .ok (.istore 8, 2) := by decide +kernel
theorem dX12_read_189 : decode cX12_read 189 = .ok (.iload 8, 2) := by decide +kernel
theorem dX12_read_191 : decode cX12_read 191 = .ok (.ifCond .eq 7, 3) := by decide +kernel
theorem dX12_read_194 : decode cX12_read 194 = .ok (.lconst 0, 1) := by decide +kernel
theorem dX12_read_195 : decode cX12_read 195 = .ok (.goto 32, 3) := by decide +kernel
theorem dX12_read_198 : decode cX12_read 198 = .ok (.aload_n 0, 1) := by decide +kernel
theorem dX12_read_199 : decode cX12_read 199 = .ok (.getfield 37, 3) := by decide +kernel
theorem dX12_read_202 : decode cX12_read 202 = .ok (.iload 7, 2) := by decide +kernel
theorem dX12_read_204 : decode cX12_read 204 = .ok (.iaload, 1) := by decide +kernel
theorem dX12_read_205 : decode cX12_read 205 = .ok (.i2l, 1) := by decide +kernel
theorem dX12_read_206 : decode cX12_read 206 = .ok (.lload_n 3, 1) := by decide +kernel
theorem dX12_read_207 : decode cX12_read 207 = .ok (.lsub, 1) := by decide +kernel
theorem dX12_read_208 : decode cX12_read 208 = .ok (.lload_n 1, 1) := by decide +kernel
theorem dX12_read_209 : decode cX12_read 209 = .ok (.lcmp, 1) := by decide +kernel
theorem dX12_read_210 : decode cX12_read 210 = .ok (.ifCond .ge 16, 3) := by decide +kernel
theorem dX12_read_213 : decode cX12_read 213 = .ok (.aload_n 0, 1) := by decide +kernel
theorem dX12_read_214 : decode cX12_read 214 = .ok (.getfield 37, 3) := by decide +kernel
theorem dX12_read_217 : decode cX12_read 217 = .ok (.iload 7, 2) := by decide +kernel
theorem dX12_read_219 : decode cX12_read 219 = .ok (.iaload, 1) := by decide +kernel
theorem dX12_read_220 : decode cX12_read 220 = .ok (.i2l, 1) := by decide +kernel
theorem dX12_read_221 : decode cX12_read 221 = .ok (.lload_n 3, 1) := by decide +kernel
theorem dX12_read_222 : decode cX12_read 222 = .ok (.lsub, 1) := by decide +kernel
theorem dX12_read_223 : decode cX12_read 223 = .ok (.goto 4, 3) := by decide +kernel
theorem dX12_read_226 : decode cX12_read 226 = .ok (.lload_n 1, 1) := by decide +kernel
theorem dX12_read_227 : decode cX12_read 227 = .ok (.lstore 9, 2) := by decide +kernel
theorem dX12_read_229 : decode cX12_read 229 = .ok (.iload 8, 2) := by decide +kernel
theorem dX12_read_231 : decode cX12_read 231 = .ok (.ifCond .eq 9, 3) := by decide +kernel
theorem dX12_read_234 : decode cX12_read 234 = .ok (.lload_n 1, 1) := by decide +kernel
theorem dX12_read_235 : decode cX12_read 235 = .ok (.lconst 0, 1) := by decide +kernel
theorem dX12_read_236 : decode cX12_read 236 = .ok (.lcmp, 1) := by decide +kernel
theorem dX12_read_237 : decode cX12_read 237 = .ok (.ifCond .ne 11, 3) := by decide +kernel
theorem dX12_read_240 : decode cX12_read 240 = .ok (.lload 9, 2) := by decide +kernel
theorem dX12_read_242 : decode cX12_read 242 = .ok (.lload 5, 2) := by decide +kernel
theorem dX12_read_244 : decode cX12_read 244 = .ok (.lcmp, 1) := by decide +kernel
theorem dX12_read_245 : decode cX12_read 245 = .ok (.ifCond .ge 7, 3) := by decide +kernel
theorem dX12_read_248 : decode cX12_read 248 = .ok (.ldc2_w 772, 3) := by decide +kernel
theorem dX12_read_251 : decode cX12_read 251 = .ok (.lreturn, 1) := by decide +kernel
theorem dX12_read_252 : decode cX12_read 252 = .ok (.aload_n 0, 1) := by decide +kernel
theorem dX12_read_253 : decode cX12_read 253 = .ok (.bipush 16, 2) := by decide +kernel
theorem dX12_read_255 : decode cX12_read 255 = .ok (.lload 9, 2) := by decide +kernel
theorem dX12_read_257 : decode cX12_read 257 = .ok (.lconst 0, 1) := by decide +kernel
theorem dX12_read_258 : decode cX12_read 258 = .ok (.lcmp, 1) := by decide +kernel
theorem dX12_read_259 : decode cX12_read 259 = .ok (.ifCond .ne 7, 3) := by decide +kernel
theorem dX12_read_262 : decode cX12_read 262 = .ok (.iconst 1, 1) := by decide +kernel
theorem dX12_read_263 : decode cX12_read 263 = .ok (.goto 6, 3) := by decide +kernel
theorem dX12_read_266 : decode cX12_read 266 = .ok (.lload 9, 2) := by decide +kernel
theorem dX12_read_268 : decode cX12_read 268 = .ok (.l2i, 1) := by decide +kernel
theorem dX12_read_269 : decode cX12_read 269 = .ok (.iadd, 1) := by decide +kernel
theorem dX12_read_270 : decode cX12_read 270 = .ok (.invokevirtual 456, 3) := by decide +kernel
theorem dX12_read_273 : decode cX12_read 273 = .ok (.aload_n 0, 1) := by decide +kernel
theorem dX12_read_274 : decode cX12_read 274 = .ok (.bipush 64, 2) := by decide +kernel
theorem dX12_read_276 : decode cX12_read 276 = .ok (.iconst 2, 1) := by decide +kernel
theorem dX12_read_277 : decode cX12_read 277 = .ok (.ldc2_w 774, 3) := by decide +kernel
theorem dX12_read_280 : decode cX12_read 280 = .ok (.invokevirtual 376, 3) := by decide +kernel
theorem dX12_read_283 : decode cX12_read 283 = .ok (.aload_n 0, 1) := by decide +kernel
theorem dX12_read_284 : decode cX12_read 284 = .ok (.bipush 66, 2) := by decide +kernel
theorem dX12_read_286 : decode cX12_read 286 = .ok (.iconst 1, 1) := by decide +kernel
theorem dX12_read_287 : decode cX12_read 287 = .ok (.ldc2_w 776, 3) := by decide +kernel
theorem dX12_read_290 : decode cX12_read 290 = .ok (.invokevirtual 376, 3) := by decide +kernel
theorem dX12_read_293 : decode cX12_read 293 = .ok (.aload_n 0, 1) := by decide +kernel
theorem dX12_read_294 : decode cX12_read 294 = .ok (.bipush 68, 2) := by decide +kernel
theorem dX12_read_296 : decode cX12_read 296 = .ok (.iconst 4, 1) := by decide +kernel
theorem dX12_read_297 : decode cX12_read 297 = .ok (.lload 9, 2) := by decide +kernel
theorem dX12_read_299 : decode cX12_read 299 = .ok (.invokevirtual 376, 3) := by decide +kernel
theorem dX12_read_302 : decode cX12_read 302 = .ok (.iconst 0, 1) := by decide +kernel
theorem dX12_read_303 : decode cX12_read 303 = .ok (.istore 11, 2) := by decide +kernel
theorem dX12_read_305 : decode cX12_read 305 = .ok (.iload 11, 2) := by decide +kernel
theorem dX12_read_307 : decode cX12_read 307 = .ok (.i2l, 1) := by decide +kernel
theorem dX12_read_308 : decode cX12_read 308 = .ok (.lload 9, 2) := by decide +kernel
theorem dX12_read_310 : decode cX12_read 310 = .ok (.lcmp, 1) := by decide +kernel
theorem dX12_read_311 : decode cX12_read 311 = .ok (.ifCond .ge 37, 3) := by decide +kernel
theorem dX12_read_314 : decode cX12_read 314 = .ok (.aload_n 0, 1) := by decide +kernel
theorem dX12_read_315 : decode cX12_read 315 = .ok (.bipush 80, 2) := by decide +kernel
theorem dX12_read_317 : decode cX12_read 317 = .ok (.iload 11, 2) := by decide +kernel
theorem dX12_read_319 : decode cX12_read 319 = .ok (.iadd, 1) := by decide +kernel
theorem dX12_read_320 : decode cX12_read 320 = .ok (.iconst 1, 1) := by decide +kernel
theorem dX12_read_321 : decode cX12_read 321 = .ok (.aload_n 0, 1) := by decide +kernel
theorem dX12_read_322 : decode cX12_read 322 = .ok (.getfield 41, 3) := by decide +kernel
theorem dX12_read_325 : decode cX12_read 325 = .ok (.sipush 4096, 3) := by decide +kernel
theorem dX12_read_328 : decode cX12_read 328 = .ok (.iload 7, 2) := by decide +kernel
theorem dX12_read_330 : decode cX12_read 330 = .ok (.imul, 1) := by decide +kernel
theorem dX12_read_331 : decode cX12_read 331 = .ok (.lload_n 3, 1) := by decide +kernel
theorem dX12_read_332 : decode cX12_read 332 = .ok (.l2i, 1) := by decide +kernel
theorem dX12_read_333 : decode cX12_read 333 = .ok (.iadd, 1) := by decide +kernel
theorem dX12_read_334 : decode cX12_read 334 = .ok (.iload 11, 2) := by decide +kernel
theorem dX12_read_336 : decode cX12_read 336 = .ok (.iadd, 1) := by decide +kernel
theorem dX12_read_337 : decode cX12_read 337 = .ok (.baload, 1) := by decide +kernel
theorem dX12_read_338 : decode cX12_read 338 = .ok (.i2l, 1) := by decide +kernel
theorem dX12_read_339 : decode cX12_read 339 = .ok (.invokevirtual 376, 3) := by decide +kernel
theorem dX12_read_342 : decode cX12_read 342 = .ok (.iinc 11 1, 3) := by decide +kernel
theorem dX12_read_345 : decode cX12_read 345 = .ok (.goto (-40), 3) := by decide +kernel
theorem dX12_read_348 : decode cX12_read 348 = .ok (.lconst 0, 1) := by decide +kernel
theorem dX12_read_349 : decode cX12_read 349 = .ok (.lreturn, 1) := by decide +kernel
set_option maxRecDepth 100000 in
set_option maxHeartbeats 4000000 in
theorem c_X12_read (l : Launch) (D : va_G) (t : Nat → ClassId) (h0 : Nat) (L : Nat → Nat) (σ : HS) (hM : MdI h0 L σ)  (post : Int64 → HS → Prop) (hw : F_X12_read h0 L  post σ) (sz : Nat) : RMl l D t yX12_read cX12_read 12 (some .long) ({ frames := 2, cells := 0, slots := 0, locals := 54 }) h0 L σ sz [.ref h0] post := by
  refine h_go (τ := τT) okT (by decide) (Nat.le_of_ble_eq_true rfl) ?_
  intro p e s m below meth c ls A hF hr hlk hAe hH0 hA hl
  unfold hB
  rw [hAe]
  clear hAe
  have hF : FX p m c cX12_read 12 s _ RX12 D t := hF
  have hx := hF.1.1
  have hb := hF.1.2.1
  have hH : RT D t A s.heap h0 L σ s.heap [] := ⟨hH0, hM⟩
  have hl : lv_has ls 12 [(0, .ref h0)] := hl
  unfold F_X12_read at hw
  refine lv_aload_n hx hb dX12_read_0 rfl (lv_at hl 0 rfl) ?_
  refine lv_bipush (v := 68) hx hb dX12_read_1 (by decide) ?_
  refine lv_iconst (v := 4) hx hb dX12_read_3 (by decide) ?_
  refine w_cVl (As := [.int 68, .int 4]) (rest := []) hF hH hA mv_X12_364 (fun sz => c_X12_number l D t h0 L _ hH.2 68 4 _ hw sz) dX12_read_4 rfl rfl (by decide) rfl hl.1 (Nat.le_of_ble_eq_true rfl) (by decide) rfl (fun z2 σ1 H locs hw hH => ?_)
  refine lv_lstore_n (lv' := [(1, .long z2), (0, .ref h0)]) hx hb dX12_read_7 rfl hl (by decide) rfl (fun ls hl => ?_)
  refine lv_aload_n hx hb dX12_read_8 rfl (lv_at hl 1 rfl) ?_
  refine lv_bipush (v := 72) hx hb dX12_read_9 (by decide) ?_
  refine lv_bipush (v := 8) hx hb dX12_read_11 (by decide) ?_
  refine w_cVl (As := [.int 72, .int 8]) (rest := []) hF hH hA mv_X12_364 (fun sz => c_X12_number l D t h0 L _ hH.2 72 8 _ hw sz) dX12_read_13 rfl rfl (by decide) rfl hl.1 (Nat.le_of_ble_eq_true rfl) (by decide) rfl (fun z4 σ3 H locs hw hH => ?_)
  refine lv_lstore_n (lv' := [(3, .long z4), (1, .long z2), (0, .ref h0)]) hx hb dX12_read_16 rfl hl (by decide) rfl (fun ls hl => ?_)
  refine lv_aload_n hx hb dX12_read_17 rfl (lv_at hl 2 rfl) ?_
  refine lv_bipush (v := 96) hx hb dX12_read_18 (by decide) ?_
  refine lv_iconst (v := 4) hx hb dX12_read_20 (by decide) ?_
  refine w_cVl (As := [.int 96, .int 4]) (rest := []) hF hH hA mv_X12_364 (fun sz => c_X12_number l D t h0 L _ hH.2 96 4 _ hw sz) dX12_read_21 rfl rfl (by decide) rfl hl.1 (Nat.le_of_ble_eq_true rfl) (by decide) rfl (fun z6 σ5 H locs hw hH => ?_)
  refine lv_lstore (lv' := [(5, .long z6), (3, .long z4), (1, .long z2), (0, .ref h0)]) hx hb dX12_read_24 hl (by decide) rfl (fun ls hl => ?_)
  refine lv_aload_n hx hb dX12_read_26 rfl (lv_at hl 3 rfl) ?_
  refine w_getA 43 hF hH fk_X12_145 dX12_read_27 (by decide) rfl ?_
  refine lv_aload_n hx hb dX12_read_30 rfl (lv_at hl 3 rfl) ?_
  refine w_getI hF hH fk_X12_525 dX12_read_31 hw (fun z7 hw => ?_)
  refine w_iald 43 40 hF hH dX12_read_34 (by decide) rfl rfl hw (fun z8 hw => ?_)
  refine lv_istore (lv' := [(7, .int z8), (5, .long z6), (3, .long z4), (1, .long z2), (0, .ref h0)]) hx hb dX12_read_35 hl (by decide) rfl (fun ls hl => ?_)
  refine lv_lload_n hx hb dX12_read_37 rfl (lv_at hl 3 rfl) ?_
  refine lv_ldc2 (v := 1024) hx hb hF.1.2.2.2.1 (hF.1.2.2.2.2 _ (wc_51 29 rfl)) dX12_read_38 ?_
  refine w_lif_le (tgt := 49) hF dX12_read_41 dX12_read_42 rfl hw (fun hw => ?_) (fun hw => ?_)
  · refine lv_aload_n hx hb dX12_read_49 rfl (lv_at hl 4 rfl) ?_
    refine w_getA 3 hF hH fk_X12_21 dX12_read_50 (by decide) rfl ?_
    refine lv_iload hx hb dX12_read_53 (lv_at hl 0 rfl) ?_
    refine w_zald 3 160 hF hH dX12_read_55 (by decide) rfl rfl hw (fun z9 hw => ?_)
    refine w_if_eq (tgt := 63) hF dX12_read_56 rfl hw (fun hw => ?_) (fun hw => ?_)
    · refine lv_aload_n hx hb dX12_read_63 rfl (lv_at hl 4 rfl) ?_
      refine w_getA 44 hF hH fk_X12_148 dX12_read_64 (by decide) rfl ?_
      refine lv_aload_n hx hb dX12_read_67 rfl (lv_at hl 4 rfl) ?_
      refine w_getI hF hH fk_X12_525 dX12_read_68 hw (fun z10 hw => ?_)
      refine w_iald 44 40 hF hH dX12_read_71 (by decide) rfl rfl hw (fun z11 hw => ?_)
      refine lv_iconst (v := 1) hx hb dX12_read_72 (by decide) ?_
      refine lv_iand hx hb dX12_read_73 ?_
      refine w_nmi hw (fun z12 hw => ?_)
      refine w_if_ne (tgt := 81) hF dX12_read_74 rfl hw (fun hw => ?_) (fun hw => ?_)
      · refine lv_iconst (v := 0) hx hb dX12_read_81 (by decide) ?_
        refine lv_istore (lv' := [(8, .int 0), (7, .int z8), (5, .long z6), (3, .long z4), (1, .long z2), (0, .ref h0)]) hx hb dX12_read_82 hl (by decide) rfl (fun ls hl => ?_)
        refine w_loop (β := Int32) (fun x13 => [(8, .int x13), (7, .int z8), (5, .long z6), (3, .long z4), (1, .long z2), (0, .ref h0)]) 0 hl hw hH (fun K15 x13 σ14 ls H locs hl hw hH ih16 => ?_)
        have hl : lv_has ls 12 [(8, .int x13), (7, .int z8), (5, .long z6), (3, .long z4), (1, .long z2), (0, .ref h0)] := hl
        refine lv_iload hx hb dX12_read_84 (lv_at hl 0 rfl) ?_
        refine lv_aload_n hx hb dX12_read_86 rfl (lv_at hl 5 rfl) ?_
        refine w_getI hF hH fk_X12_289 dX12_read_87 hw (fun z17 hw => ?_)
        refine w_icmp_ge (tgt := 167) hF dX12_read_90 rfl hw (fun hw => ?_) (fun hw => ?_)
        · refine lv_lload_n hx hb dX12_read_167 rfl (lv_at hl 3 rfl) ?_
          refine lv_aload_n hx hb dX12_read_168 rfl (lv_at hl 5 rfl) ?_
          refine w_getA 8 hF hH fk_X12_37 dX12_read_169 (by decide) rfl ?_
          refine lv_iload hx hb dX12_read_172 (lv_at hl 1 rfl) ?_
          refine w_iald 8 160 hF hH dX12_read_174 (by decide) rfl rfl hw (fun z18 hw => ?_)
          refine lv_i2l hx hb dX12_read_175 rfl ?_
          refine w_nml hw (fun z19 hw => ?_)
          refine w_cSi (As := [.long z4, .long z19]) (rest := []) hF hH hA ms_X12_763 (fun sz => c_X12_isLess l D t h0 L _ hH.2 z4 z19 _ hw sz) dX12_read_176 rfl rfl (by decide) rfl hl.1 (Nat.le_of_ble_eq_true rfl) (by decide) rfl (fun z21 σ20 H locs hw hH => ?_)
          obtain ⟨K24, hK25, hw⟩ := jn_open hw
          refine w_join (K := K24) 187 (fun (x22 : Int32) => [(7, .int z8), (5, .long z6), (3, .long z4), (1, .long z2), (0, .ref h0)]) (fun (x22 : Int32) => [.int x22]) hl hH (fun x22 σ23 ls H locs hl hw hH => ?_) (fun jn26 => ?_)
          · have hw := hK25 x22 σ23 hw
            have hl : lv_has ls 12 [(7, .int z8), (5, .long z6), (3, .long z4), (1, .long z2), (0, .ref h0)] := hl
            refine lv_istore (lv' := [(8, .int x22), (7, .int z8), (5, .long z6), (3, .long z4), (1, .long z2), (0, .ref h0)]) hx hb dX12_read_187 hl (by decide) rfl (fun ls hl => ?_)
            refine lv_iload hx hb dX12_read_189 (lv_at hl 0 rfl) ?_
            obtain ⟨K29, hK30, hw⟩ := jn_open hw
            refine w_join (K := K29) 227 (fun (x27 : Int64) => [(8, .int x22), (7, .int z8), (5, .long z6), (3, .long z4), (1, .long z2), (0, .ref h0)]) (fun (x27 : Int64) => [.long x27]) hl hH (fun x27 σ28 ls H locs hl hw hH => ?_) (fun jn31 => ?_)
            · have hw := hK30 x27 σ28 hw
              have hl : lv_has ls 12 [(8, .int x22), (7, .int z8), (5, .long z6), (3, .long z4), (1, .long z2), (0, .ref h0)] := hl
              refine lv_lstore (lv' := [(9, .long x27), (8, .int x22), (7, .int z8), (5, .long z6), (3, .long z4), (1, .long z2), (0, .ref h0)]) hx hb dX12_read_227 hl (by decide) rfl (fun ls hl => ?_)
              refine lv_iload hx hb dX12_read_229 (lv_at hl 1 rfl) ?_
              obtain ⟨K34, hK35, hw⟩ := jn_open hw
              refine w_join (K := K34) 248 (fun (x32 : Unit) => []) (fun (x32 : Unit) => []) hl hH (fun x32 σ33 ls H locs hl hw hH => ?_) (fun jn36 => ?_)
              · have hw := hK35 x32 σ33 hw
                have hl : lv_has ls 12 [] := hl
                refine lv_ldc2 (v := 3221225489) hx hb hF.1.2.2.2.1 (hF.1.2.2.2.2 _ (wc_55 16 rfl)) dX12_read_248 ?_
                exact w_retl hF hH hr hlk dX12_read_251 hw
              · skip
                obtain ⟨K39, hK40, hw⟩ := jn_open hw
                refine w_join (K := K39) 240 (fun (x37 : Unit) => [(9, .long x27), (7, .int z8), (5, .long z6), (3, .long z4), (0, .ref h0)]) (fun (x37 : Unit) => []) hl hH (fun x37 σ38 ls H locs hl hw hH => ?_) (fun jn41 => ?_)
                · have hw := hK40 x37 σ38 hw
                  have hl : lv_has ls 12 [(9, .long x27), (7, .int z8), (5, .long z6), (3, .long z4), (0, .ref h0)] := hl
                  refine lv_lload hx hb dX12_read_240 (lv_at hl 0 rfl) ?_
                  refine lv_lload hx hb dX12_read_242 (lv_at hl 2 rfl) ?_
                  refine w_lif_ge (tgt := 252) hF dX12_read_244 dX12_read_245 rfl hw (fun hw => ?_) (fun hw => ?_)
                  · refine lv_aload_n hx hb dX12_read_252 rfl (lv_at hl 4 rfl) ?_
                    refine lv_bipush (v := 16) hx hb dX12_read_253 (by decide) ?_
                    refine lv_lload hx hb dX12_read_255 (lv_at hl 0 rfl) ?_
                    refine lv_lconst (v := 0) hx hb dX12_read_257 (by decide) ?_
                    obtain ⟨K44, hK45, hw⟩ := jn_open hw
                    refine w_join (K := K44) 269 (fun (x42 : Int32) => [(9, .long x27), (7, .int z8), (3, .long z4), (0, .ref h0)]) (fun (x42 : Int32) => [.int x42, .int 16, .ref h0]) hl hH (fun x42 σ43 ls H locs hl hw hH => ?_) (fun jn46 => ?_)
                    · have hw := hK45 x42 σ43 hw
                      have hl : lv_has ls 12 [(9, .long x27), (7, .int z8), (3, .long z4), (0, .ref h0)] := hl
                      refine lv_iadd hx hb dX12_read_269 ?_
                      refine w_nmi hw (fun z47 hw => ?_)
                      refine w_cVv (As := [.int z47]) (rest := []) hF hH hA mv_X12_456 (fun sz => c_X12_body l D t h0 L _ hH.2 z47 _ hw sz) dX12_read_270 rfl rfl (by decide) rfl hl.1 (Nat.le_of_ble_eq_true rfl) (by decide) rfl (fun σ48 H locs hw hH => ?_)
                      refine lv_aload_n hx hb dX12_read_273 rfl (lv_at hl 3 rfl) ?_
                      refine lv_bipush (v := 64) hx hb dX12_read_274 (by decide) ?_
                      refine lv_iconst (v := 2) hx hb dX12_read_276 (by decide) ?_
                      refine lv_ldc2 (v := 17) hx hb hF.1.2.2.2.1 (hF.1.2.2.2.2 _ (wc_55 17 rfl)) dX12_read_277 ?_
                      refine w_cVv (As := [.int 64, .int 2, .long 17]) (rest := []) hF hH hA mv_X12_376 (fun sz => c_X12_set l D t h0 L _ hH.2 64 2 17 _ hw sz) dX12_read_280 rfl rfl (by decide) rfl hl.1 (Nat.le_of_ble_eq_true rfl) (by decide) rfl (fun σ50 H locs hw hH => ?_)
                      refine lv_aload_n hx hb dX12_read_283 rfl (lv_at hl 3 rfl) ?_
                      refine lv_bipush (v := 66) hx hb dX12_read_284 (by decide) ?_
                      refine lv_iconst (v := 1) hx hb dX12_read_286 (by decide) ?_
                      refine lv_ldc2 (v := 80) hx hb hF.1.2.2.2.1 (hF.1.2.2.2.2 _ (wc_55 18 rfl)) dX12_read_287 ?_
                      refine w_cVv (As := [.int 66, .int 1, .long 80]) (rest := []) hF hH hA mv_X12_376 (fun sz => c_X12_set l D t h0 L _ hH.2 66 1 80 _ hw sz) dX12_read_290 rfl rfl (by decide) rfl hl.1 (Nat.le_of_ble_eq_true rfl) (by decide) rfl (fun σ52 H locs hw hH => ?_)
                      refine lv_aload_n hx hb dX12_read_293 rfl (lv_at hl 3 rfl) ?_
                      refine lv_bipush (v := 68) hx hb dX12_read_294 (by decide) ?_
                      refine lv_iconst (v := 4) hx hb dX12_read_296 (by decide) ?_
                      refine lv_lload hx hb dX12_read_297 (lv_at hl 0 rfl) ?_
                      refine w_cVv (As := [.int 68, .int 4, .long x27]) (rest := []) hF hH hA mv_X12_376 (fun sz => c_X12_set l D t h0 L _ hH.2 68 4 x27 _ hw sz) dX12_read_299 rfl rfl (by decide) rfl hl.1 (Nat.le_of_ble_eq_true rfl) (by decide) rfl (fun σ54 H locs hw hH => ?_)
                      refine lv_iconst (v := 0) hx hb dX12_read_302 (by decide) ?_
                      refine lv_istore (lv' := [(11, .int 0), (9, .long x27), (7, .int z8), (3, .long z4), (0, .ref h0)]) hx hb dX12_read_303 hl (by decide) rfl (fun ls hl => ?_)
                      refine w_loop (β := Int32) (fun x56 => [(11, .int x56), (9, .long x27), (7, .int z8), (3, .long z4), (0, .ref h0)]) 0 hl hw hH (fun K58 x56 σ57 ls H locs hl hw hH ih59 => ?_)
                      have hl : lv_has ls 12 [(11, .int x56), (9, .long x27), (7, .int z8), (3, .long z4), (0, .ref h0)] := hl
                      refine lv_iload hx hb dX12_read_305 (lv_at hl 0 rfl) ?_
                      refine lv_i2l hx hb dX12_read_307 rfl ?_
                      refine w_nml hw (fun z60 hw => ?_)
                      refine lv_lload hx hb dX12_read_308 (lv_at hl 1 rfl) ?_
                      refine w_lif_ge (tgt := 348) hF dX12_read_310 dX12_read_311 rfl hw (fun hw => ?_) (fun hw => ?_)
                      · refine lv_lconst (v := 0) hx hb dX12_read_348 (by decide) ?_
                        exact w_retl hF hH hr hlk dX12_read_349 hw
                      · refine lv_aload_n hx hb dX12_read_314 rfl (lv_at hl 4 rfl) ?_
                        refine lv_bipush (v := 80) hx hb dX12_read_315 (by decide) ?_
                        refine lv_iload hx hb dX12_read_317 (lv_at hl 0 rfl) ?_
                        refine lv_iadd hx hb dX12_read_319 ?_
                        refine w_nmi hw (fun z61 hw => ?_)
                        refine lv_iconst (v := 1) hx hb dX12_read_320 (by decide) ?_
                        refine lv_aload_n hx hb dX12_read_321 rfl (lv_at hl 4 rfl) ?_
                        refine w_getA 9 hF hH fk_X12_41 dX12_read_322 (by decide) rfl ?_
                        refine lv_sipush (v := 4096) hx hb dX12_read_325 (by decide) ?_
                        refine lv_iload hx hb dX12_read_328 (lv_at hl 2 rfl) ?_
                        refine lv_imul hx hb dX12_read_330 ?_
                        refine w_nmi hw (fun z62 hw => ?_)
                        refine lv_lload_n hx hb dX12_read_331 rfl (lv_at hl 3 rfl) ?_
                        refine lv_l2i hx hb dX12_read_332 rfl ?_
                        refine w_nmi hw (fun z63 hw => ?_)
                        refine lv_iadd hx hb dX12_read_333 ?_
                        refine w_nmi hw (fun z64 hw => ?_)
                        refine lv_iload hx hb dX12_read_334 (lv_at hl 0 rfl) ?_
                        refine lv_iadd hx hb dX12_read_336 ?_
                        refine w_nmi hw (fun z65 hw => ?_)
                        refine w_bald 9 655360 hF hH dX12_read_337 (by decide) rfl rfl hw (fun z66 hw => ?_)
                        refine lv_i2l hx hb dX12_read_338 rfl ?_
                        refine w_nml hw (fun z67 hw => ?_)
                        refine w_cVv (As := [.int z61, .int 1, .long z67]) (rest := []) hF hH hA mv_X12_376 (fun sz => c_X12_set l D t h0 L _ hH.2 z61 1 z67 _ hw sz) dX12_read_339 rfl rfl (by decide) rfl hl.1 (Nat.le_of_ble_eq_true rfl) (by decide) rfl (fun σ68 H locs hw hH => ?_)
                        obtain ⟨z70, ez70⟩ : ∃ z : Int32, z = x56 + 1 := ⟨_, rfl⟩
                        have hw := hw z70 ez70
                        refine lv_iinc (lv' := [(11, .int z70), (9, .long x27), (7, .int z8), (3, .long z4), (0, .ref h0)]) (k := 0) (v := z70) hx hb dX12_read_342 hl rfl ez70.symm (by decide) rfl (fun ls hl => ?_)
                        refine lv_goto (tgt := 305) hx hb dX12_read_345 rfl ?_
                        exact ih59 z70 σ68 ls _ _ hl hw hH
                    · skip
                      refine w_lif_ne (tgt := 266) hF dX12_read_258 dX12_read_259 rfl hw (fun hw => ?_) (fun hw => ?_)
                      · refine lv_lload hx hb dX12_read_266 (lv_at hl 0 rfl) ?_
                        refine lv_l2i hx hb dX12_read_268 rfl ?_
                        refine w_nmi hw (fun z71 hw => ?_)
                        have hl : lv_has ls 12 [(9, .long x27), (7, .int z8), (3, .long z4), (0, .ref h0)] := lv_sub hl [0, 1, 3, 4] rfl
                        exact jn46 z71 σ38 ls _ _ hl hw hH
                      · refine lv_iconst (v := 1) hx hb dX12_read_262 (by decide) ?_
                        refine lv_goto (tgt := 269) hx hb dX12_read_263 rfl ?_
                        have hl : lv_has ls 12 [(9, .long x27), (7, .int z8), (3, .long z4), (0, .ref h0)] := lv_sub hl [0, 1, 3, 4] rfl
                        exact jn46 1 σ38 ls _ _ hl hw hH
                  · have hl : lv_has ls 12 [] := lv_sub hl [] rfl
                    exact jn36 () σ38 ls _ _ hl hw hH
                · skip
                  refine w_if_eq (tgt := 240) hF dX12_read_231 rfl hw (fun hw => ?_) (fun hw => ?_)
                  · have hl : lv_has ls 12 [(9, .long x27), (7, .int z8), (5, .long z6), (3, .long z4), (0, .ref h0)] := lv_sub hl [0, 2, 3, 4, 6] rfl
                    exact jn41 () σ28 ls _ _ hl hw hH
                  · refine lv_lload_n hx hb dX12_read_234 rfl (lv_at hl 5 rfl) ?_
                    refine lv_lconst (v := 0) hx hb dX12_read_235 (by decide) ?_
                    refine w_lif_ne (tgt := 248) hF dX12_read_236 dX12_read_237 rfl hw (fun hw => ?_) (fun hw => ?_)
                    · have hl : lv_has ls 12 [] := lv_sub hl [] rfl
                      exact jn36 () σ28 ls _ _ hl hw hH
                    · have hl : lv_has ls 12 [(9, .long x27), (7, .int z8), (5, .long z6), (3, .long z4), (0, .ref h0)] := lv_sub hl [0, 2, 3, 4, 6] rfl
                      exact jn41 () σ28 ls _ _ hl hw hH
            · skip
              refine w_if_eq (tgt := 198) hF dX12_read_191 rfl hw (fun hw => ?_) (fun hw => ?_)
              · refine lv_aload_n hx hb dX12_read_198 rfl (lv_at hl 5 rfl) ?_
                refine w_getA 8 hF hH fk_X12_37 dX12_read_199 (by decide) rfl ?_
                refine lv_iload hx hb dX12_read_202 (lv_at hl 1 rfl) ?_
                refine w_iald 8 160 hF hH dX12_read_204 (by decide) rfl rfl hw (fun z72 hw => ?_)
                refine lv_i2l hx hb dX12_read_205 rfl ?_
                refine w_nml hw (fun z73 hw => ?_)
                refine lv_lload_n hx hb dX12_read_206 rfl (lv_at hl 3 rfl) ?_
                refine lv_lsub hx hb dX12_read_207 ?_
                refine w_nml hw (fun z74 hw => ?_)
                refine lv_lload_n hx hb dX12_read_208 rfl (lv_at hl 4 rfl) ?_
                refine w_lif_ge (tgt := 226) hF dX12_read_209 dX12_read_210 rfl hw (fun hw => ?_) (fun hw => ?_)
                · refine lv_lload_n hx hb dX12_read_226 rfl (lv_at hl 4 rfl) ?_
                  exact jn31 z2 σ23 ls _ _ hl hw hH
                · refine lv_aload_n hx hb dX12_read_213 rfl (lv_at hl 5 rfl) ?_
                  refine w_getA 8 hF hH fk_X12_37 dX12_read_214 (by decide) rfl ?_
                  refine lv_iload hx hb dX12_read_217 (lv_at hl 1 rfl) ?_
                  refine w_iald 8 160 hF hH dX12_read_219 (by decide) rfl rfl hw (fun z75 hw => ?_)
                  refine lv_i2l hx hb dX12_read_220 rfl ?_
                  refine w_nml hw (fun z76 hw => ?_)
                  refine lv_lload_n hx hb dX12_read_221 rfl (lv_at hl 3 rfl) ?_
                  refine lv_lsub hx hb dX12_read_222 ?_
                  refine w_nml hw (fun z77 hw => ?_)
                  refine lv_goto (tgt := 227) hx hb dX12_read_223 rfl ?_
                  exact jn31 z77 σ23 ls _ _ hl hw hH
              · refine lv_lconst (v := 0) hx hb dX12_read_194 (by decide) ?_
                refine lv_goto (tgt := 227) hx hb dX12_read_195 rfl ?_
                exact jn31 0 σ23 ls _ _ hl hw hH
          · skip
            refine w_if_ne (tgt := 186) hF dX12_read_179 rfl hw (fun hw => ?_) (fun hw => ?_)
            · refine lv_iconst (v := 0) hx hb dX12_read_186 (by decide) ?_
              have hl : lv_has ls 12 [(7, .int z8), (5, .long z6), (3, .long z4), (1, .long z2), (0, .ref h0)] := lv_sub hl [1, 2, 3, 4, 5] rfl
              exact jn26 0 σ20 ls _ _ hl hw hH
            · refine lv_iconst (v := 1) hx hb dX12_read_182 (by decide) ?_
              refine lv_goto (tgt := 187) hx hb dX12_read_183 rfl ?_
              have hl : lv_has ls 12 [(7, .int z8), (5, .long z6), (3, .long z4), (1, .long z2), (0, .ref h0)] := lv_sub hl [1, 2, 3, 4, 5] rfl
              exact jn26 1 σ20 ls _ _ hl hw hH
        · refine lv_aload_n hx hb dX12_read_93 rfl (lv_at hl 5 rfl) ?_
          refine w_getA 57 hF hH fk_X12_187 dX12_read_94 (by decide) rfl ?_
          refine lv_iload hx hb dX12_read_97 (lv_at hl 0 rfl) ?_
          refine w_iald 57 80 hF hH dX12_read_99 (by decide) rfl rfl hw (fun z78 hw => ?_)
          refine lv_iload hx hb dX12_read_100 (lv_at hl 1 rfl) ?_
          obtain ⟨K81, hK82, hw⟩ := jn_open hw
          refine w_join (K := K81) 161 (fun (x79 : Unit) => [(8, .int x13), (7, .int z8), (5, .long z6), (3, .long z4), (1, .long z2), (0, .ref h0)]) (fun (x79 : Unit) => []) hl hH (fun x79 σ80 ls H locs hl hw hH => ?_) (fun jn83 => ?_)
          · have hw := hK82 x79 σ80 hw
            have hl : lv_has ls 12 [(8, .int x13), (7, .int z8), (5, .long z6), (3, .long z4), (1, .long z2), (0, .ref h0)] := hl
            obtain ⟨z84, ez84⟩ : ∃ z : Int32, z = x13 + 1 := ⟨_, rfl⟩
            have hw := hw z84 ez84
            refine lv_iinc (lv' := [(8, .int z84), (7, .int z8), (5, .long z6), (3, .long z4), (1, .long z2), (0, .ref h0)]) (k := 0) (v := z84) hx hb dX12_read_161 hl rfl ez84.symm (by decide) rfl (fun ls hl => ?_)
            refine lv_goto (tgt := 84) hx hb dX12_read_164 rfl ?_
            exact ih16 z84 σ80 ls _ _ hl hw hH
          · skip
            refine w_icmp_ne (tgt := 161) hF dX12_read_102 rfl hw (fun hw => ?_) (fun hw => ?_)
            · exact jn83 () σ14 ls _ _ hl hw hH
            · refine lv_aload_n hx hb dX12_read_105 rfl (lv_at hl 5 rfl) ?_
              refine w_getA 60 hF hH fk_X12_196 dX12_read_106 (by decide) rfl ?_
              refine lv_iload hx hb dX12_read_109 (lv_at hl 0 rfl) ?_
              refine w_zald 60 80 hF hH dX12_read_111 (by decide) rfl rfl hw (fun z85 hw => ?_)
              refine w_if_ne (tgt := 161) hF dX12_read_112 rfl hw (fun hw => ?_) (fun hw => ?_)
              · exact jn83 () σ14 ls _ _ hl hw hH
              · refine lv_aload_n hx hb dX12_read_115 rfl (lv_at hl 5 rfl) ?_
                refine w_getA 56 hF hH fk_X12_184 dX12_read_116 (by decide) rfl ?_
                refine lv_iload hx hb dX12_read_119 (lv_at hl 0 rfl) ?_
                refine w_lald 56 80 hF hH dX12_read_121 (by decide) rfl rfl hw (fun z86 hw => ?_)
                refine lv_aload_n hx hb dX12_read_122 rfl (lv_at hl 5 rfl) ?_
                refine w_getA 41 hF hH fk_X12_139 dX12_read_123 (by decide) rfl ?_
                refine lv_aload_n hx hb dX12_read_126 rfl (lv_at hl 5 rfl) ?_
                refine w_getI hF hH fk_X12_525 dX12_read_127 hw (fun z87 hw => ?_)
                refine w_lald 41 40 hF hH dX12_read_130 (by decide) rfl rfl hw (fun z88 hw => ?_)
                refine w_lif_eq (tgt := 161) hF dX12_read_131 dX12_read_132 rfl hw (fun hw => ?_) (fun hw => ?_)
                · exact jn83 () σ14 ls _ _ hl hw hH
                · refine lv_lload_n hx hb dX12_read_135 rfl (lv_at hl 3 rfl) ?_
                  refine lv_lload_n hx hb dX12_read_136 rfl (lv_at hl 4 rfl) ?_
                  refine lv_aload_n hx hb dX12_read_137 rfl (lv_at hl 5 rfl) ?_
                  refine w_getA 58 hF hH fk_X12_190 dX12_read_138 (by decide) rfl ?_
                  refine lv_iload hx hb dX12_read_141 (lv_at hl 0 rfl) ?_
                  refine w_lald 58 80 hF hH dX12_read_143 (by decide) rfl rfl hw (fun z89 hw => ?_)
                  refine lv_aload_n hx hb dX12_read_144 rfl (lv_at hl 5 rfl) ?_
                  refine w_getA 59 hF hH fk_X12_193 dX12_read_145 (by decide) rfl ?_
                  refine lv_iload hx hb dX12_read_148 (lv_at hl 0 rfl) ?_
                  refine w_lald 59 80 hF hH dX12_read_150 (by decide) rfl rfl hw (fun z90 hw => ?_)
                  refine w_cSi (As := [.long z4, .long z2, .long z89, .long z90]) (rest := []) hF hH hA ms_X12_766 (fun sz => c_X12_meet l D t h0 L _ hH.2 z4 z2 z89 z90 _ hw sz) dX12_read_151 rfl rfl (by decide) rfl hl.1 (Nat.le_of_ble_eq_true rfl) (by decide) rfl (fun z92 σ91 H locs hw hH => ?_)
                  refine w_if_eq (tgt := 161) hF dX12_read_154 rfl hw (fun hw => ?_) (fun hw => ?_)
                  · exact jn83 () σ91 ls _ _ hl hw hH
                  · refine lv_ldc2 (v := 3221225556) hx hb hF.1.2.2.2.1 (hF.1.2.2.2.2 _ (wc_55 15 rfl)) dX12_read_157 ?_
                    exact w_retl hF hH hr hlk dX12_read_160 hw
      · refine lv_ldc2 (v := 3221225506) hx hb hF.1.2.2.2.1 (hF.1.2.2.2.2 _ (wc_53 35 rfl)) dX12_read_77 ?_
        exact w_retl hF hH hr hlk dX12_read_80 hw
    · refine lv_ldc2 (v := 3221225658) hx hb hF.1.2.2.2.1 (hF.1.2.2.2.2 _ (wc_54 33 rfl)) dX12_read_59 ?_
      exact w_retl hF hH hr hlk dX12_read_62 hw
  · refine lv_ldc2 (v := 3221225485) hx hb hF.1.2.2.2.1 (hF.1.2.2.2.2 _ (wc_47 33 rfl)) dX12_read_45 ?_
    exact w_retl hF hH hr hlk dX12_read_48 hw
def F_X12_write (h0 : Nat) (L : Nat → Nat)  (post : Int64 → HS → Prop) (σ : HS) : Prop := F_X12_number2 h0 L 66 (fun (z2 : Int32) (σ1 : HS) => F_X12_number h0 L 68 4 (fun (z4 : Int64) (σ3 : HS) => ∀ z5 : Int32, z5 = (z4 : Int64).toInt32 → F_X12_number h0 L 72 8 (fun (z7 : Int64) (σ6 : HS) => ∀ z8 : Int32, z8 = sI σ6 h0 100 → (0 ≤ z8.toInt ∧ z8.toInt < 40) ∧ ∀ z9 : Int32, z9 = sI σ6 (L 43) z8.toInt.toNat → (0 ≤ z9.toInt ∧ z9.toInt < 160) ∧ ∀ z10 : Int32, z10 = sI σ6 (L 3) z9.toInt.toNat → ((z10.toInt = 0) → ∀ z11 : Int32, z11 = sI σ6 h0 100 → (0 ≤ z11.toInt ∧ z11.toInt < 40) ∧ ∀ z12 : Int32, z12 = sI σ6 (L 44) z11.toInt.toNat → ∀ z13 : Int32, z13 = z12 &&& 6 → jn (fun (K16 : Unit → HS → Prop) => ((z13.toInt = 0) → K16 () σ6) ∧ ((¬ z13.toInt = 0) → ∀ z19 : Int32, z19 = z12 &&& 2 → jn (fun (K22 : Unit → HS → Prop) => ((¬ z19.toInt = 0) → K22 () σ6) ∧ ((z19.toInt = 0) → (0 ≤ z9.toInt ∧ z9.toInt < 160) ∧ ∀ z107 : Int32, z107 = sI σ6 (L 8) z9.toInt.toNat → ∀ z108 : Int64, z108 = (z107 : Int32).toInt64 → ((z7.toInt = z108.toInt) → K22 () σ6) ∧ ((¬ z7.toInt = z108.toInt) → K16 () σ6))) (fun (x20 : Unit) (σ21 : HS) => lw (fun (K27 : Int32 → HS → Prop) (x25 : Int32) (σ26 : HS) => ∀ z29 : Int32, z29 = sI σ26 h0 63 → ((z29.toInt ≤ x25.toInt) → F_X12_isLess h0 L 4096 z7 (fun (z31 : Int32) (σ30 : HS) => jn (fun (K34 : Unit → HS → Prop) => ((¬ z31.toInt = 0) → K34 () σ30) ∧ ((z31.toInt = 0) → ∀ z37 : Int64, z37 = (z5 : Int32).toInt64 → ∀ z38 : Int64, z38 = z7 + z37 → ((z38.toInt ≤ (4096 : Int64).toInt) → jn (fun (K41 : Unit → HS → Prop) => ((z5.toInt ≤ 0) → K41 () σ30) ∧ ((0 < z5.toInt) → F_X12_record h0 L 1 z9 (fun (z52 : Int32) (σ51 : HS) => ∀ z53 : Int32, z53 = (z7 : Int64).toInt32 → (0 ≤ z52.toInt ∧ z52.toInt < 9) ∧ ∀ σ54 : HS, σ54 = h_uI σ51 (L 22) z52.toInt.toNat z53 → (0 ≤ z52.toInt ∧ z52.toInt < 9) ∧ ∀ σ55 : HS, σ55 = h_uI σ54 (L 23) z52.toInt.toNat z5 → lw (fun (K58 : Int32 → HS → Prop) (x56 : Int32) (σ57 : HS) => ((z5.toInt ≤ x56.toInt) → ∀ z60 : Int32, z60 = 4 * z52 → ∀ z61 : Int32, z61 = z60 + 2 → ∀ z62 : Int64, z62 = sJ σ57 h0 2 → (0 ≤ z61.toInt ∧ z61.toInt < 36) ∧ ∀ σ63 : HS, σ63 = h_uJ σ57 (L 21) z61.toInt.toNat z62 → ∀ z64 : Int32, z64 = 4 * z52 → ∀ z65 : Int32, z65 = z64 + 3 → ∀ z66 : Int64, z66 = sJ σ63 h0 2 → (0 ≤ z65.toInt ∧ z65.toInt < 36) ∧ ∀ σ67 : HS, σ67 = h_uJ σ63 (L 21) z65.toInt.toNat z66 → F_X12_done h0 L  (fun (σ68 : HS) => ∀ z70 : Int32, z70 = sI σ68 h0 100 → F_X12_breakSecond h0 L z9 z70 (fun (σ71 : HS) => K41 () σ71) σ68) σ67) ∧ ((x56.toInt < z5.toInt) → ∀ z73 : Int32, z73 = 1024 * z52 → ∀ z74 : Int32, z74 = z73 + x56 → ∀ z75 : Int32, z75 = z2 + x56 → F_X12_number1 h0 L z75 (fun (z77 : Int32) (σ76 : HS) => ∀ z78 : Int32, z78 = (z77 : Int32).toInt8.toInt32 → (0 ≤ z74.toInt ∧ z74.toInt < 9216) ∧ ∀ σ79 : HS, σ79 = h_uI σ76 (L 24) z74.toInt.toNat (vp_nar .byte z78) → ∀ z80 : Int32, z80 = x56 + 1 → K58 z80 σ79) σ57)) 0 σ55) σ30)) (fun (x39 : Unit) (σ40 : HS) => F_X12_body h0 L 17 (fun (σ44 : HS) => F_X12_set h0 L 64 2 17 (fun (σ46 : HS) => ∀ z48 : Int64, z48 = (z5 : Int32).toInt64 → F_X12_set h0 L 68 4 z48 (fun (σ49 : HS) => post 0 σ49) σ46) σ44) σ40)) ∧ (((4096 : Int64).toInt < z38.toInt) → K34 () σ30))) (fun (x32 : Unit) (σ33 : HS) => post 3221225599 σ33)) σ26) ∧ ((x25.toInt < z29.toInt) → (0 ≤ x25.toInt ∧ x25.toInt < 80) ∧ ∀ z81 : Int64, z81 = sJ σ26 (L 56) x25.toInt.toNat → ∀ z82 : Int32, z82 = sI σ26 h0 100 → (0 ≤ z82.toInt ∧ z82.toInt < 40) ∧ ∀ z83 : Int64, z83 = sJ σ26 (L 41) z82.toInt.toNat → jn (fun (K86 : Int32 → HS → Prop) => jn (fun (K103 : Unit → HS → Prop) => ((¬ z81.toInt = z83.toInt) → K103 () σ26) ∧ ((z81.toInt = z83.toInt) → (0 ≤ x25.toInt ∧ x25.toInt < 80) ∧ ∀ z106 : Int32, z106 = sI σ26 (L 60) x25.toInt.toNat → ((¬ z106.toInt = 0) → K103 () σ26) ∧ ((z106.toInt = 0) → K86 1 σ26))) (fun (x101 : Unit) (σ102 : HS) => K86 0 σ102)) (fun (x84 : Int32) (σ85 : HS) => (0 ≤ x25.toInt ∧ x25.toInt < 80) ∧ ∀ z89 : Int32, z89 = sI σ85 (L 57) x25.toInt.toNat → jn (fun (K92 : Unit → HS → Prop) => ((¬ z89.toInt = z9.toInt) → K92 () σ85) ∧ ((z89.toInt = z9.toInt) → ((¬ x84.toInt = 0) → K92 () σ85) ∧ ((x84.toInt = 0) → ∀ z96 : Int64, z96 = (z5 : Int32).toInt64 → (0 ≤ x25.toInt ∧ x25.toInt < 80) ∧ ∀ z97 : Int64, z97 = sJ σ85 (L 58) x25.toInt.toNat → (0 ≤ x25.toInt ∧ x25.toInt < 80) ∧ ∀ z98 : Int64, z98 = sJ σ85 (L 59) x25.toInt.toNat → F_X12_meet h0 L z7 z96 z97 z98 (fun (z100 : Int32) (σ99 : HS) => ((z100.toInt = 0) → K92 () σ99) ∧ ((¬ z100.toInt = 0) → post 3221225556 σ99)) σ85))) (fun (x90 : Unit) (σ91 : HS) => ∀ z95 : Int32, z95 = x25 + 1 → K27 z95 σ91)))) 0 σ21))) (fun (x14 : Unit) (σ15 : HS) => post 3221225506 σ15)) ∧ ((¬ z10.toInt = 0) → post 3221225658 σ6)) σ3) σ1) σ
theorem dX12_write_0 : decode cX12_write 0 = .ok (.aload_n 0, 1) := by decide +kernel
theorem dX12_write_1 : decode cX12_write 1 = .ok (.bipush 66, 2) := by decide +kernel
theorem dX12_write_3 : decode cX12_write 3 = .ok (.invokevirtual 415, 3) := by decide +kernel
theorem dX12_write_6 : decode cX12_write 6 = .ok (.istore_n 1, 1) := by decide +kernel
theorem dX12_write_7 : decode cX12_write 7 = .ok (.aload_n 0, 1) := by decide +kernel
theorem dX12_write_8 : decode cX12_write 8 = .ok (.bipush 68, 2) := by decide +kernel
theorem dX12_write_10 : decode cX12_write 10 = .ok (.iconst 4, 1) := by decide +kernel
theorem dX12_write_11 : decode cX12_write 11 = .ok (.invokevirtual 364, 3) := by decide +kernel
theorem dX12_write_14 : decode cX12_write 14 = .ok (.l2i, 1) := by decide +kernel
theorem dX12_write_15 : decode cX12_write 15 = .ok (.istore_n 2, 1) := by decide +kernel
theorem dX12_write_16 : decode cX12_write 16 = .ok (.aload_n 0, 1) := by decide +kernel
theorem dX12_write_17 : decode cX12_write 17 = .ok (.bipush 72, 2) := by decide +kernel
theorem dX12_write_19 : decode cX12_write 19 = .ok (.bipush 8, 2) := by decide +kernel
theorem dX12_write_21 : decode cX12_write 21 = .ok (.invokevirtual 364, 3) := by decide +kernel
theorem dX12_write_24 : decode cX12_write 24 = .ok (.lstore_n 3, 1) := by decide +kernel
theorem dX12_write_25 : decode cX12_write 25 = .ok (.aload_n 0, 1) := by decide +kernel
theorem dX12_write_26 : decode cX12_write 26 = .ok (.getfield 145, 3) := by decide +kernel
theorem dX12_write_29 : decode cX12_write 29 = .ok (.aload_n 0, 1) := by decide +kernel
theorem dX12_write_30 : decode cX12_write 30 = .ok (.getfield 525, 3) := by decide +kernel
theorem dX12_write_33 : decode cX12_write 33 = .ok (.iaload, 1) := by decide +kernel
theorem dX12_write_34 : decode cX12_write 34 = .ok (.istore 5, 2) := by decide +kernel
theorem dX12_write_36 : decode cX12_write 36 = .ok (.aload_n 0, 1) := by decide +kernel
theorem dX12_write_37 : decode cX12_write 37 = .ok (.getfield 21, 3) := by decide +kernel
theorem dX12_write_40 : decode cX12_write 40 = .ok (.iload 5, 2) := by decide +kernel
theorem dX12_write_42 : decode cX12_write 42 = .ok (.baload, 1) := by decide +kernel
theorem dX12_write_43 : decode cX12_write 43 = .ok (.ifCond .eq 7, 3) := by decide +kernel
theorem dX12_write_46 : decode cX12_write 46 = .ok (.ldc2_w 715, 3) := by decide +kernel
theorem dX12_write_49 : decode cX12_write 49 = .ok (.lreturn, 1) := by decide +kernel
theorem dX12_write_50 : decode cX12_write 50 = .ok (.aload_n 0, 1) := by decide +kernel
theorem dX12_write_51 : decode cX12_write 51 = .ok (.getfield 148, 3) := by decide +kernel
theorem dX12_write_54 : decode cX12_write 54 = .ok (.aload_n 0, 1) := by decide +kernel
theorem dX12_write_55 : decode cX12_write 55 = .ok (.getfield 525, 3) := by decide +kernel
theorem dX12_write_58 : decode cX12_write 58 = .ok (.iaload, 1) := by decide +kernel
theorem dX12_write_59 : decode cX12_write 59 = .ok (.istore 6, 2) := by decide +kernel
theorem dX12_write_61 : decode cX12_write 61 = .ok (.iload 6, 2) := by decide +kernel
theorem dX12_write_63 : decode cX12_write 63 = .ok (.bipush 6, 2) := by decide +kernel
theorem dX12_write_65 : decode cX12_write 65 = .ok (.iand, 1) := by decide +kernel
theorem dX12_write_66 : decode cX12_write 66 = .ok (.ifCond .eq 23, 3) := by decide +kernel
theorem dX12_write_69 : decode cX12_write 69 = .ok (.iload 6, 2) := by decide +kernel
theorem dX12_write_71 : decode cX12_write 71 = .ok (.iconst 2, 1) := by decide +kernel
theorem dX12_write_72 : decode cX12_write 72 = .ok (.iand, 1) := by decide +kernel
theorem dX12_write_73 : decode cX12_write 73 = .ok (.ifCond .ne 20, 3) := by decide +kernel
theorem dX12_write_76 : decode cX12_write 76 = .ok (.lload_n 3, 1) := by decide +kernel
theorem dX12_write_77 : decode cX12_write 77 = .ok (.aload_n 0, 1) := by decide +kernel
theorem dX12_write_78 : decode cX12_write 78 = .ok (.getfield 37, 3) := by decide +kernel
theorem dX12_write_81 : decode cX12_write 81 = .ok (.iload 5, 2) := by decide +kernel
theorem dX12_write_83 : decode cX12_write 83 = .ok (.iaload, 1) := by decide +kernel
theorem dX12_write_84 : decode cX12_write 84 = .ok (.i2l, 1) := by decide +kernel
theorem dX12_write_85 : decode cX12_write 85 = .ok (.lcmp, 1) := by decide +kernel
theorem dX12_write_86 : decode cX12_write 86 = .ok (.ifCond .eq 7, 3) := by decide +kernel
theorem dX12_write_89 : decode cX12_write 89 = .ok (.ldc2_w 667, 3) := by decide +kernel
theorem dX12_write_92 : decode cX12_write 92 = .ok (.lreturn, 1) := by decide +kernel
theorem dX12_write_93 : decode cX12_write 93 = .ok (.iconst 0, 1) := by decide +kernel
theorem dX12_write_94 : decode cX12_write 94 = .ok (.istore 7, 2) := by decide +kernel
theorem dX12_write_96 : decode cX12_write 96 = .ok (.iload 7, 2) := by decide +kernel
theorem dX12_write_98 : decode cX12_write 98 = .ok (.aload_n 0, 1) := by decide +kernel
theorem dX12_write_99 : decode cX12_write 99 = .ok (.getfield 289, 3) := by decide +kernel
theorem dX12_write_102 : decode cX12_write 102 = .ok (.if_icmp .ge 90, 3) := by decide +kernel
theorem dX12_write_105 : decode cX12_write 105 = .ok (.aload_n 0, 1) := by decide +kernel
theorem dX12_write_106 : decode cX12_write 106 = .ok (.getfield 184, 3) := by decide +kernel
theorem dX12_write_109 : decode cX12_write 109 = .ok (.iload 7, 2) := by decide +kernel
theorem dX12_write_111 : decode cX12_write 111 = .ok (.laload, 1) := by decide +kernel
theorem dX12_write_112 : decode cX12_write 112 = .ok (.aload_n 0, 1) := by decide +kernel
theorem dX12_write_113 : decode cX12_write 113 = .ok (.getfield 139, 3) := by decide +kernel
theorem dX12_write_116 : decode cX12_write 116 = .ok (.aload_n 0, 1) := by decide +kernel
theorem dX12_write_117 : decode cX12_write 117 = .ok (.getfield 525, 3) := by decide +kernel
theorem dX12_write_120 : decode cX12_write 120 = .ok (.laload, 1) := by decide +kernel
theorem dX12_write_121 : decode cX12_write 121 = .ok (.lcmp, 1) := by decide +kernel
theorem dX12_write_122 : decode cX12_write 122 = .ok (.ifCond .ne 17, 3) := by decide +kernel
theorem dX12_write_125 : decode cX12_write 125 = .ok (.aload_n 0, 1) := by decide +kernel
theorem dX12_write_126 : decode cX12_write 126 = .ok (.getfield 196, 3) := by decide +kernel
theorem dX12_write_129 : decode cX12_write 129 = .ok (.iload 7, 2) := by decide +kernel
theorem dX12_write_131 : decode cX12_write 131 = .ok (.baload, 1) := by decide +kernel
theorem dX12_write_132 : decode cX12_write 132 = .ok (.ifCond .ne 7, 3) := by decide +kernel
theorem dX12_write_135 : decode cX12_write 135 = .ok (.iconst 1, 1) := by decide +kernel
theorem dX12_write_136 : decode cX12_write 136 = .ok (.goto 4, 3) := by decide +kernel
theorem dX12_write_139 : decode cX12_write 139 = .ok (.iconst 0, 1) := by decide +kernel
theorem dX12_write_140 : decode cX12_write 140 = .ok (.istore 8, 2) := by decide +kernel
theorem dX12_write_142 : decode cX12_write 142 = .ok (.aload_n 0, 1) := by decide +kernel
theorem dX12_write_143 : decode cX12_write 143 = .ok (.getfield 187, 3) := by decide +kernel
theorem dX12_write_146 : decode cX12_write 146 = .ok (.iload 7, 2) := by decide +kernel
theorem dX12_write_148 : decode cX12_write 148 = .ok (.iaload, 1) := by decide +kernel
theorem dX12_write_149 : decode cX12_write 149 = .ok (.iload 5, 2) := by decide +kernel
theorem dX12_write_151 : decode cX12_write 151 = .ok (.if_icmp .ne 35, 3) := by decide +kernel
theorem dX12_write_154 : decode cX12_write 154 = .ok (.iload 8, 2) := by decide +kernel
theorem dX12_write_156 : decode cX12_write 156 = .ok (.ifCond .ne 30, 3) := by decide +kernel
theorem dX12_write_159 : decode cX12_write 159 = .ok (.lload_n 3, 1) := by decide +kernel
theorem dX12_write_160 : decode cX12_write 160 = .ok (.iload_n 2, 1) := by decide +kernel
theorem dX12_write_161 : decode cX12_write 161 = .ok (.i2l, 1) := by decide +kernel
theorem dX12_write_162 : decode cX12_write 162 = .ok (.aload_n 0, 1) := by decide +kernel
theorem dX12_write_163 : decode cX12_write 163 = .ok (.getfield 190, 3) := by decide +kernel
theorem dX12_write_166 : decode cX12_write 166 = .ok (.iload 7, 2) := by decide +kernel
theorem dX12_write_168 : decode cX12_write 168 = .ok (.laload, 1) := by decide +kernel
theorem dX12_write_169 : decode cX12_write 169 = .ok (.aload_n 0, 1) := by decide +kernel
theorem dX12_write_170 : decode cX12_write 170 = .ok (.getfield 193, 3) := by decide +kernel
theorem dX12_write_173 : decode cX12_write 173 = .ok (.iload 7, 2) := by decide +kernel
theorem dX12_write_175 : decode cX12_write 175 = .ok (.laload, 1) := by decide +kernel
theorem dX12_write_176 : decode cX12_write 176 = .ok (.invokestatic 766, 3) := by decide +kernel
theorem dX12_write_179 : decode cX12_write 179 = .ok (.ifCond .eq 7, 3) := by decide +kernel
theorem dX12_write_182 : decode cX12_write 182 = .ok (.ldc2_w 770, 3) := by decide +kernel
theorem dX12_write_185 : decode cX12_write 185 = .ok (.lreturn, 1) := by decide +kernel
theorem dX12_write_186 : decode cX12_write 186 = .ok (.iinc 7 1, 3) := by decide +kernel
theorem dX12_write_189 : decode cX12_write 189 = .ok (.goto (-93), 3) := by decide +kernel
theorem dX12_write_192 : decode cX12_write 192 = .ok (.ldc2_w 658, 3) := by decide +kernel
theorem dX12_write_195 : decode cX12_write 195 = .ok (.lload_n 3, 1) := by decide +kernel
theorem dX12_write_196 : decode cX12_write 196 = .ok (.invokestatic 763, 3) := by decide +kernel
theorem dX12_write_199 : decode cX12_write 199 = .ok (.ifCond .ne 14, 3) := by decide +kernel
theorem dX12_write_202 : decode cX12_write 202 = .ok (.lload_n 3, 1) := by decide +kernel
theorem dX12_write_203 : decode cX12_write 203 = .ok (.iload_n 2, 1) := by decide +kernel
theorem dX12_write_204 : decode cX12_write 204 = .ok (.i2l, 1) := by decide +kernel
theorem dX12_write_205 : decode cX12_write 205 = .ok (.ladd, 1) := by decide +kernel
theorem dX12_write_206 : decode cX12_write 206 = .ok (.ldc2_w 658, 3) := by decide +kernel
theorem dX12_write_209 : decode cX12_write 209 = .ok (.lcmp, 1) := by decide +kernel
theorem dX12_write_210 : decode cX12_write 210 = .ok (.ifCond .le 7, 3) := by decide +kernel
theorem dX12_write_213 : decode cX12_write 213 = .ok (.ldc2_w 691, 3) := by decide +kernel
theorem dX12_write_216 : decode cX12_write 216 = .ok (.lreturn, 1) := by decide +kernel
theorem dX12_write_217 : decode cX12_write 217 = .ok (.iload_n 2, 1) := by decide +kernel
theorem dX12_write_218 : decode cX12_write 218 = .ok (.ifCond .le 111, 3) := by decide +kernel
theorem dX12_write_221 : decode cX12_write 221 = .ok (.aload_n 0, 1) := by decide +kernel
theorem dX12_write_222 : decode cX12_write 222 = .ok (.iconst 1, 1) := by decide +kernel
theorem dX12_write_223 : decode cX12_write 223 = .ok (.iload 5, 2) := by decide +kernel
theorem dX12_write_225 : decode cX12_write 225 = .ok (.invokevirtual 734, 3) := by decide +kernel
theorem dX12_write_228 : decode cX12_write 228 = .ok (.istore 7, 2) := by decide +kernel
theorem dX12_write_230 : decode cX12_write 230 = .ok (.aload_n 0, 1) := by decide +kernel
theorem dX12_write_231 : decode cX12_write 231 = .ok (.getfield 80, 3) := by decide +kernel
theorem dX12_write_234 : decode cX12_write 234 = .ok (.iload 7, 2) := by decide +kernel
theorem dX12_write_236 : decode cX12_write 236 = .ok (.lload_n 3, 1) := by decide +kernel
theorem dX12_write_237 : decode cX12_write 237 = .ok (.l2i, 1) := by decide +kernel
theorem dX12_write_238 : decode cX12_write 238 = .ok (.iastore, 1) := by decide +kernel
theorem dX12_write_239 : decode cX12_write 239 = .ok (.aload_n 0, 1) := by decide +kernel
theorem dX12_write_240 : decode cX12_write 240 = .ok (.getfield 83, 3) := by decide +kernel
theorem dX12_write_243 : decode cX12_write 243 = .ok (.iload 7, 2) := by decide +kernel
theorem dX12_write_245 : decode cX12_write 245 = .ok (.iload_n 2, 1) := by decide +kernel
theorem dX12_write_246 : decode cX12_write 246 = .ok (.iastore, 1) := by decide +kernel
theorem dX12_write_247 : decode cX12_write 247 = .ok (.iconst 0, 1) := by decide +kernel
theorem dX12_write_248 : decode cX12_write 248 = .ok (.istore 8, 2) := by decide +kernel
theorem dX12_write_250 : decode cX12_write 250 = .ok (.iload 8, 2) := by decide +kernel
theorem dX12_write_252 : decode cX12_write 252 = .ok (.iload_n 2, 1) := by decide +kernel
theorem dX12_write_253 : decode cX12_write 253 = .ok (.if_icmp .ge 32, 3) := by decide +kernel
theorem dX12_write_256 : decode cX12_write 256 = .ok (.aload_n 0, 1) := by decide +kernel
theorem dX12_write_257 : decode cX12_write 257 = .ok (.getfield 86, 3) := by decide +kernel
theorem dX12_write_260 : decode cX12_write 260 = .ok (.sipush 1024, 3) := by decide +kernel
theorem dX12_write_263 : decode cX12_write 263 = .ok (.iload 7, 2) := by decide +kernel
theorem dX12_write_265 : decode cX12_write 265 = .ok (.imul, 1) := by decide +kernel
theorem dX12_write_266 : decode cX12_write 266 = .ok (.iload 8, 2) := by decide +kernel
theorem dX12_write_268 : decode cX12_write 268 = .ok (.iadd, 1) := by decide +kernel
theorem dX12_write_269 : decode cX12_write 269 = .ok (.aload_n 0, 1) := by decide +kernel
theorem dX12_write_270 : decode cX12_write 270 = .ok (.iload_n 1, 1) := by decide +kernel
theorem dX12_write_271 : decode cX12_write 271 = .ok (.iload 8, 2) := by decide +kernel
theorem dX12_write_273 : decode cX12_write 273 = .ok (.iadd, 1) := by decide +kernel
theorem dX12_write_274 : decode cX12_write 274 = .ok (.invokevirtual 600, 3) := by decide +kernel
theorem dX12_write_277 : decode cX12_write 277 = .ok (.i2b, 1) := by decide +kernel
theorem dX12_write_278 : decode cX12_write 278 = .ok (.bastore, 1) := by decide +kernel
theorem dX12_write_279 : decode cX12_write 279 = .ok (.iinc 8 1, 3) := by decide +kernel
theorem dX12_write_282 : decode cX12_write 282 = .ok (.goto (-32), 3) := by decide +kernel
theorem dX12_write_285 : decode cX12_write 285 = .ok (.aload_n 0, 1) := by decide +kernel
theorem dX12_write_286 : decode cX12_write 286 = .ok (.getfield 77, 3) := by decide +kernel
theorem dX12_write_289 : decode cX12_write 289 = .ok (.iconst 4, 1) := by decide +kernel
theorem dX12_write_290 : decode cX12_write 290 = .ok (.iload 7, 2) := by decide +kernel
theorem dX12_write_292 : decode cX12_write 292 = .ok (.imul, 1) := by decide +kernel
theorem dX12_write_293 : decode cX12_write 293 = .ok (.iconst 2, 1) := by decide +kernel
theorem dX12_write_294 : decode cX12_write 294 = .ok (.iadd, 1) := by decide +kernel
theorem dX12_write_295 : decode cX12_write 295 = .ok (.aload_n 0, 1) := by decide +kernel
theorem dX12_write_296 : decode cX12_write 296 = .ok (.getfield 322, 3) := by decide +kernel
theorem dX12_write_299 : decode cX12_write 299 = .ok (.lastore, 1) := by decide +kernel
theorem dX12_write_300 : decode cX12_write 300 = .ok (.aload_n 0, 1) := by decide +kernel
theorem dX12_write_301 : decode cX12_write 301 = .ok (.getfield 77, 3) := by decide +kernel
theorem dX12_write_304 : decode cX12_write 304 = .ok (.iconst 4, 1) := by decide +kernel
theorem dX12_write_305 : decode cX12_write 305 = .ok (.iload 7, 2) := by decide +kernel
theorem dX12_write_307 : decode cX12_write 307 = .ok (.imul, 1) := by decide +kernel
theorem dX12_write_308 : decode cX12_write 308 = .ok (.iconst 3, 1) := by decide +kernel
theorem dX12_write_309 : decode cX12_write 309 = .ok (.iadd, 1) := by decide +kernel
theorem dX12_write_310 : decode cX12_write 310 = .ok (.aload_n 0, 1) := by decide +kernel
theorem dX12_write_311 : decode cX12_write 311 = .ok (.getfield 322, 3) := by decide +kernel
theorem dX12_write_314 : decode cX12_write 314 = .ok (.lastore, 1) := by decide +kernel
theorem dX12_write_315 : decode cX12_write 315 = .ok (.aload_n 0, 1) := by decide +kernel
theorem dX12_write_316 : decode cX12_write 316 = .ok (.invokevirtual 737, 3) := by decide +kernel
theorem dX12_write_319 : decode cX12_write 319 = .ok (.aload_n 0, 1) := by decide +kernel
theorem dX12_write_320 : decode cX12_write 320 = .ok (.iload 5, 2) := by decide +kernel
theorem dX12_write_322 : decode cX12_write 322 = .ok (.aload_n 0, 1) := by decide +kernel
theorem dX12_write_323 : decode cX12_write 323 = .ok (.getfield 525, 3) := by decide +kernel
theorem dX12_write_326 : decode cX12_write 326 = .ok (.invokevirtual 740, 3) := by decide +kernel
theorem dX12_write_329 : decode cX12_write 329 = .ok (.aload_n 0, 1) := by decide +kernel
theorem dX12_write_330 : decode cX12_write 330 = .ok (.bipush 17, 2) := by decide +kernel
theorem dX12_write_332 : decode cX12_write 332 = .ok (.invokevirtual 456, 3) := by decide +kernel
theorem dX12_write_335 : decode cX12_write 335 = .ok (.aload_n 0, 1) := by decide +kernel
theorem dX12_write_336 : decode cX12_write 336 = .ok (.bipush 64, 2) := by decide +kernel
theorem dX12_write_338 : decode cX12_write 338 = .ok (.iconst 2, 1) := by decide +kernel
theorem dX12_write_339 : decode cX12_write 339 = .ok (.ldc2_w 774, 3) := by decide +kernel
theorem dX12_write_342 : decode cX12_write 342 = .ok (.invokevirtual 376, 3) := by decide +kernel
theorem dX12_write_345 : decode cX12_write 345 = .ok (.aload_n 0, 1) := by decide +kernel
theorem dX12_write_346 : decode cX12_write 346 = .ok (.bipush 68, 2) := by decide +kernel
theorem dX12_write_348 : decode cX12_write 348 = .ok (.iconst 4, 1) := by decide +kernel
theorem dX12_write_349 : decode cX12_write 349 = .ok (.iload_n 2, 1) := by decide +kernel
theorem dX12_write_350 : decode cX12_write 350 = .ok (.i2l, 1) := by decide +kernel
theorem dX12_write_351 : decode cX12_write 351 = .ok (.invokevirtual 376, 3) := by decide +kernel
theorem dX12_write_354 : decode cX12_write 354 = .ok (.lconst 0, 1) := by decide +kernel
theorem dX12_write_355 : decode cX12_write 355 = .ok (.lreturn, 1) := by decide +kernel
set_option maxRecDepth 100000 in
set_option maxHeartbeats 4000000 in
theorem c_X12_write (l : Launch) (D : va_G) (t : Nat → ClassId) (h0 : Nat) (L : Nat → Nat) (σ : HS) (hM : MdI h0 L σ)  (post : Int64 → HS → Prop) (hw : F_X12_write h0 L  post σ) (sz : Nat) : RMl l D t yX12_write cX12_write 9 (some .long) ({ frames := 5, cells := 0, slots := 0, locals := 112 }) h0 L σ sz [.ref h0] post := by
  refine h_go (τ := τT) okT (by decide) (Nat.le_of_ble_eq_true rfl) ?_
  intro p e s m below meth c ls A hF hr hlk hAe hH0 hA hl
  unfold hB
  rw [hAe]
  clear hAe
  have hF : FX p m c cX12_write 9 s _ RX12 D t := hF
  have hx := hF.1.1
  have hb := hF.1.2.1
  have hH : RT D t A s.heap h0 L σ s.heap [] := ⟨hH0, hM⟩
  have hl : lv_has ls 9 [(0, .ref h0)] := hl
  unfold F_X12_write at hw
  refine lv_aload_n hx hb dX12_write_0 rfl (lv_at hl 0 rfl) ?_
  refine lv_bipush (v := 66) hx hb dX12_write_1 (by decide) ?_
  refine w_cVi (As := [.int 66]) (rest := []) hF hH hA mv_X12_415 (fun sz => c_X12_number2 l D t h0 L _ hH.2 66 _ hw sz) dX12_write_3 rfl rfl (by decide) rfl hl.1 (Nat.le_of_ble_eq_true rfl) (by decide) rfl (fun z2 σ1 H locs hw hH => ?_)
  refine lv_istore_n (lv' := [(1, .int z2), (0, .ref h0)]) hx hb dX12_write_6 rfl hl (by decide) rfl (fun ls hl => ?_)
  refine lv_aload_n hx hb dX12_write_7 rfl (lv_at hl 1 rfl) ?_
  refine lv_bipush (v := 68) hx hb dX12_write_8 (by decide) ?_
  refine lv_iconst (v := 4) hx hb dX12_write_10 (by decide) ?_
  refine w_cVl (As := [.int 68, .int 4]) (rest := []) hF hH hA mv_X12_364 (fun sz => c_X12_number l D t h0 L _ hH.2 68 4 _ hw sz) dX12_write_11 rfl rfl (by decide) rfl hl.1 (Nat.le_of_ble_eq_true rfl) (by decide) rfl (fun z4 σ3 H locs hw hH => ?_)
  refine lv_l2i hx hb dX12_write_14 rfl ?_
  refine w_nmi hw (fun z5 hw => ?_)
  refine lv_istore_n (lv' := [(2, .int z5), (1, .int z2), (0, .ref h0)]) hx hb dX12_write_15 rfl hl (by decide) rfl (fun ls hl => ?_)
  refine lv_aload_n hx hb dX12_write_16 rfl (lv_at hl 2 rfl) ?_
  refine lv_bipush (v := 72) hx hb dX12_write_17 (by decide) ?_
  refine lv_bipush (v := 8) hx hb dX12_write_19 (by decide) ?_
  refine w_cVl (As := [.int 72, .int 8]) (rest := []) hF hH hA mv_X12_364 (fun sz => c_X12_number l D t h0 L _ hH.2 72 8 _ hw sz) dX12_write_21 rfl rfl (by decide) rfl hl.1 (Nat.le_of_ble_eq_true rfl) (by decide) rfl (fun z7 σ6 H locs hw hH => ?_)
  refine lv_lstore_n (lv' := [(3, .long z7), (2, .int z5), (1, .int z2), (0, .ref h0)]) hx hb dX12_write_24 rfl hl (by decide) rfl (fun ls hl => ?_)
  refine lv_aload_n hx hb dX12_write_25 rfl (lv_at hl 3 rfl) ?_
  refine w_getA 43 hF hH fk_X12_145 dX12_write_26 (by decide) rfl ?_
  refine lv_aload_n hx hb dX12_write_29 rfl (lv_at hl 3 rfl) ?_
  refine w_getI hF hH fk_X12_525 dX12_write_30 hw (fun z8 hw => ?_)
  refine w_iald 43 40 hF hH dX12_write_33 (by decide) rfl rfl hw (fun z9 hw => ?_)
  refine lv_istore (lv' := [(5, .int z9), (3, .long z7), (2, .int z5), (1, .int z2), (0, .ref h0)]) hx hb dX12_write_34 hl (by decide) rfl (fun ls hl => ?_)
  refine lv_aload_n hx hb dX12_write_36 rfl (lv_at hl 4 rfl) ?_
  refine w_getA 3 hF hH fk_X12_21 dX12_write_37 (by decide) rfl ?_
  refine lv_iload hx hb dX12_write_40 (lv_at hl 0 rfl) ?_
  refine w_zald 3 160 hF hH dX12_write_42 (by decide) rfl rfl hw (fun z10 hw => ?_)
  refine w_if_eq (tgt := 50) hF dX12_write_43 rfl hw (fun hw => ?_) (fun hw => ?_)
  · refine lv_aload_n hx hb dX12_write_50 rfl (lv_at hl 4 rfl) ?_
    refine w_getA 44 hF hH fk_X12_148 dX12_write_51 (by decide) rfl ?_
    refine lv_aload_n hx hb dX12_write_54 rfl (lv_at hl 4 rfl) ?_
    refine w_getI hF hH fk_X12_525 dX12_write_55 hw (fun z11 hw => ?_)
    refine w_iald 44 40 hF hH dX12_write_58 (by decide) rfl rfl hw (fun z12 hw => ?_)
    refine lv_istore (lv' := [(6, .int z12), (5, .int z9), (3, .long z7), (2, .int z5), (1, .int z2), (0, .ref h0)]) hx hb dX12_write_59 hl (by decide) rfl (fun ls hl => ?_)
    refine lv_iload hx hb dX12_write_61 (lv_at hl 0 rfl) ?_
    refine lv_bipush (v := 6) hx hb dX12_write_63 (by decide) ?_
    refine lv_iand hx hb dX12_write_65 ?_
    refine w_nmi hw (fun z13 hw => ?_)
    obtain ⟨K16, hK17, hw⟩ := jn_open hw
    refine w_join (K := K16) 89 (fun (x14 : Unit) => []) (fun (x14 : Unit) => []) hl hH (fun x14 σ15 ls H locs hl hw hH => ?_) (fun jn18 => ?_)
    · have hw := hK17 x14 σ15 hw
      have hl : lv_has ls 9 [] := hl
      refine lv_ldc2 (v := 3221225506) hx hb hF.1.2.2.2.1 (hF.1.2.2.2.2 _ (wc_53 35 rfl)) dX12_write_89 ?_
      exact w_retl hF hH hr hlk dX12_write_92 hw
    · skip
      refine w_if_eq (tgt := 89) hF dX12_write_66 rfl hw (fun hw => ?_) (fun hw => ?_)
      · have hl : lv_has ls 9 [] := lv_sub hl [] rfl
        exact jn18 () σ6 ls _ _ hl hw hH
      · refine lv_iload hx hb dX12_write_69 (lv_at hl 0 rfl) ?_
        refine lv_iconst (v := 2) hx hb dX12_write_71 (by decide) ?_
        refine lv_iand hx hb dX12_write_72 ?_
        refine w_nmi hw (fun z19 hw => ?_)
        obtain ⟨K22, hK23, hw⟩ := jn_open hw
        refine w_join (K := K22) 93 (fun (x20 : Unit) => [(5, .int z9), (3, .long z7), (2, .int z5), (1, .int z2), (0, .ref h0)]) (fun (x20 : Unit) => []) hl hH (fun x20 σ21 ls H locs hl hw hH => ?_) (fun jn24 => ?_)
        · have hw := hK23 x20 σ21 hw
          have hl : lv_has ls 9 [(5, .int z9), (3, .long z7), (2, .int z5), (1, .int z2), (0, .ref h0)] := hl
          refine lv_iconst (v := 0) hx hb dX12_write_93 (by decide) ?_
          refine lv_istore (lv' := [(7, .int 0), (5, .int z9), (3, .long z7), (2, .int z5), (1, .int z2), (0, .ref h0)]) hx hb dX12_write_94 hl (by decide) rfl (fun ls hl => ?_)
          refine w_loop (β := Int32) (fun x25 => [(7, .int x25), (5, .int z9), (3, .long z7), (2, .int z5), (1, .int z2), (0, .ref h0)]) 0 hl hw hH (fun K27 x25 σ26 ls H locs hl hw hH ih28 => ?_)
          have hl : lv_has ls 9 [(7, .int x25), (5, .int z9), (3, .long z7), (2, .int z5), (1, .int z2), (0, .ref h0)] := hl
          refine lv_iload hx hb dX12_write_96 (lv_at hl 0 rfl) ?_
          refine lv_aload_n hx hb dX12_write_98 rfl (lv_at hl 5 rfl) ?_
          refine w_getI hF hH fk_X12_289 dX12_write_99 hw (fun z29 hw => ?_)
          refine w_icmp_ge (tgt := 192) hF dX12_write_102 rfl hw (fun hw => ?_) (fun hw => ?_)
          · refine lv_ldc2 (v := 4096) hx hb hF.1.2.2.2.1 (hF.1.2.2.2.2 _ (wc_48 13 rfl)) dX12_write_192 ?_
            refine lv_lload_n hx hb dX12_write_195 rfl (lv_at hl 2 rfl) ?_
            refine w_cSi (As := [.long 4096, .long z7]) (rest := []) hF hH hA ms_X12_763 (fun sz => c_X12_isLess l D t h0 L _ hH.2 4096 z7 _ hw sz) dX12_write_196 rfl rfl (by decide) rfl hl.1 (Nat.le_of_ble_eq_true rfl) (by decide) rfl (fun z31 σ30 H locs hw hH => ?_)
            obtain ⟨K34, hK35, hw⟩ := jn_open hw
            refine w_join (K := K34) 213 (fun (x32 : Unit) => []) (fun (x32 : Unit) => []) hl hH (fun x32 σ33 ls H locs hl hw hH => ?_) (fun jn36 => ?_)
            · have hw := hK35 x32 σ33 hw
              have hl : lv_has ls 9 [] := hl
              refine lv_ldc2 (v := 3221225599) hx hb hF.1.2.2.2.1 (hF.1.2.2.2.2 _ (wc_54 14 rfl)) dX12_write_213 ?_
              exact w_retl hF hH hr hlk dX12_write_216 hw
            · skip
              refine w_if_ne (tgt := 213) hF dX12_write_199 rfl hw (fun hw => ?_) (fun hw => ?_)
              · have hl : lv_has ls 9 [] := lv_sub hl [] rfl
                exact jn36 () σ30 ls _ _ hl hw hH
              · refine lv_lload_n hx hb dX12_write_202 rfl (lv_at hl 2 rfl) ?_
                refine lv_iload_n hx hb dX12_write_203 rfl (lv_at hl 3 rfl) ?_
                refine lv_i2l hx hb dX12_write_204 rfl ?_
                refine w_nml hw (fun z37 hw => ?_)
                refine lv_ladd hx hb dX12_write_205 ?_
                refine w_nml hw (fun z38 hw => ?_)
                refine lv_ldc2 (v := 4096) hx hb hF.1.2.2.2.1 (hF.1.2.2.2.2 _ (wc_48 13 rfl)) dX12_write_206 ?_
                refine w_lif_le (tgt := 217) hF dX12_write_209 dX12_write_210 rfl hw (fun hw => ?_) (fun hw => ?_)
                · refine lv_iload_n hx hb dX12_write_217 rfl (lv_at hl 3 rfl) ?_
                  obtain ⟨K41, hK42, hw⟩ := jn_open hw
                  refine w_join (K := K41) 329 (fun (x39 : Unit) => [(2, .int z5), (0, .ref h0)]) (fun (x39 : Unit) => []) hl hH (fun x39 σ40 ls H locs hl hw hH => ?_) (fun jn43 => ?_)
                  · have hw := hK42 x39 σ40 hw
                    have hl : lv_has ls 9 [(2, .int z5), (0, .ref h0)] := hl
                    refine lv_aload_n hx hb dX12_write_329 rfl (lv_at hl 1 rfl) ?_
                    refine lv_bipush (v := 17) hx hb dX12_write_330 (by decide) ?_
                    refine w_cVv (As := [.int 17]) (rest := []) hF hH hA mv_X12_456 (fun sz => c_X12_body l D t h0 L _ hH.2 17 _ hw sz) dX12_write_332 rfl rfl (by decide) rfl hl.1 (Nat.le_of_ble_eq_true rfl) (by decide) rfl (fun σ44 H locs hw hH => ?_)
                    refine lv_aload_n hx hb dX12_write_335 rfl (lv_at hl 1 rfl) ?_
                    refine lv_bipush (v := 64) hx hb dX12_write_336 (by decide) ?_
                    refine lv_iconst (v := 2) hx hb dX12_write_338 (by decide) ?_
                    refine lv_ldc2 (v := 17) hx hb hF.1.2.2.2.1 (hF.1.2.2.2.2 _ (wc_55 17 rfl)) dX12_write_339 ?_
                    refine w_cVv (As := [.int 64, .int 2, .long 17]) (rest := []) hF hH hA mv_X12_376 (fun sz => c_X12_set l D t h0 L _ hH.2 64 2 17 _ hw sz) dX12_write_342 rfl rfl (by decide) rfl hl.1 (Nat.le_of_ble_eq_true rfl) (by decide) rfl (fun σ46 H locs hw hH => ?_)
                    refine lv_aload_n hx hb dX12_write_345 rfl (lv_at hl 1 rfl) ?_
                    refine lv_bipush (v := 68) hx hb dX12_write_346 (by decide) ?_
                    refine lv_iconst (v := 4) hx hb dX12_write_348 (by decide) ?_
                    refine lv_iload_n hx hb dX12_write_349 rfl (lv_at hl 0 rfl) ?_
                    refine lv_i2l hx hb dX12_write_350 rfl ?_
                    refine w_nml hw (fun z48 hw => ?_)
                    refine w_cVv (As := [.int 68, .int 4, .long z48]) (rest := []) hF hH hA mv_X12_376 (fun sz => c_X12_set l D t h0 L _ hH.2 68 4 z48 _ hw sz) dX12_write_351 rfl rfl (by decide) rfl hl.1 (Nat.le_of_ble_eq_true rfl) (by decide) rfl (fun σ49 H locs hw hH => ?_)
                    refine lv_lconst (v := 0) hx hb dX12_write_354 (by decide) ?_
                    exact w_retl hF hH hr hlk dX12_write_355 hw
                  · skip
                    refine w_if_le (tgt := 329) hF dX12_write_218 rfl hw (fun hw => ?_) (fun hw => ?_)
                    · have hl : lv_has ls 9 [(2, .int z5), (0, .ref h0)] := lv_sub hl [3, 5] rfl
                      exact jn43 () σ30 ls _ _ hl hw hH
                    · refine lv_aload_n hx hb dX12_write_221 rfl (lv_at hl 5 rfl) ?_
                      refine lv_iconst (v := 1) hx hb dX12_write_222 (by decide) ?_
                      refine lv_iload hx hb dX12_write_223 (lv_at hl 1 rfl) ?_
                      refine w_cVi (As := [.int 1, .int z9]) (rest := []) hF hH hA mv_X12_734 (fun sz => c_X12_record l D t h0 L _ hH.2 1 z9 _ hw sz) dX12_write_225 rfl rfl (by decide) rfl hl.1 (Nat.le_of_ble_eq_true rfl) (by decide) rfl (fun z52 σ51 H locs hw hH => ?_)
                      refine lv_istore (lv' := [(7, .int z52), (5, .int z9), (3, .long z7), (2, .int z5), (1, .int z2), (0, .ref h0)]) hx hb dX12_write_228 hl (by decide) rfl (fun ls hl => ?_)
                      refine lv_aload_n hx hb dX12_write_230 rfl (lv_at hl 5 rfl) ?_
                      refine w_getA 22 hF hH fk_X12_80 dX12_write_231 (by decide) rfl ?_
                      refine lv_iload hx hb dX12_write_234 (lv_at hl 0 rfl) ?_
                      refine lv_lload_n hx hb dX12_write_236 rfl (lv_at hl 2 rfl) ?_
                      refine lv_l2i hx hb dX12_write_237 rfl ?_
                      refine w_nmi hw (fun z53 hw => ?_)
                      refine w_iast 22 9 hF hH dX12_write_238 (by decide) rfl rfl hw (fun σ54 H locs hw hH => ?_)
                      refine lv_aload_n hx hb dX12_write_239 rfl (lv_at hl 5 rfl) ?_
                      refine w_getA 23 hF hH fk_X12_83 dX12_write_240 (by decide) rfl ?_
                      refine lv_iload hx hb dX12_write_243 (lv_at hl 0 rfl) ?_
                      refine lv_iload_n hx hb dX12_write_245 rfl (lv_at hl 3 rfl) ?_
                      refine w_iast 23 9 hF hH dX12_write_246 (by decide) rfl rfl hw (fun σ55 H locs hw hH => ?_)
                      refine lv_iconst (v := 0) hx hb dX12_write_247 (by decide) ?_
                      refine lv_istore (lv' := [(8, .int 0), (7, .int z52), (5, .int z9), (3, .long z7), (2, .int z5), (1, .int z2), (0, .ref h0)]) hx hb dX12_write_248 hl (by decide) rfl (fun ls hl => ?_)
                      have hl : lv_has ls 9 [(8, .int 0), (7, .int z52), (5, .int z9), (2, .int z5), (1, .int z2), (0, .ref h0)] := lv_sub hl [0, 1, 2, 4, 5, 6] rfl
                      refine w_loop (β := Int32) (fun x56 => [(8, .int x56), (7, .int z52), (5, .int z9), (2, .int z5), (1, .int z2), (0, .ref h0)]) 0 hl hw hH (fun K58 x56 σ57 ls H locs hl hw hH ih59 => ?_)
                      have hl : lv_has ls 9 [(8, .int x56), (7, .int z52), (5, .int z9), (2, .int z5), (1, .int z2), (0, .ref h0)] := hl
                      refine lv_iload hx hb dX12_write_250 (lv_at hl 0 rfl) ?_
                      refine lv_iload_n hx hb dX12_write_252 rfl (lv_at hl 3 rfl) ?_
                      refine w_icmp_ge (tgt := 285) hF dX12_write_253 rfl hw (fun hw => ?_) (fun hw => ?_)
                      · refine lv_aload_n hx hb dX12_write_285 rfl (lv_at hl 5 rfl) ?_
                        refine w_getA 21 hF hH fk_X12_77 dX12_write_286 (by decide) rfl ?_
                        refine lv_iconst (v := 4) hx hb dX12_write_289 (by decide) ?_
                        refine lv_iload hx hb dX12_write_290 (lv_at hl 1 rfl) ?_
                        refine lv_imul hx hb dX12_write_292 ?_
                        refine w_nmi hw (fun z60 hw => ?_)
                        refine lv_iconst (v := 2) hx hb dX12_write_293 (by decide) ?_
                        refine lv_iadd hx hb dX12_write_294 ?_
                        refine w_nmi hw (fun z61 hw => ?_)
                        refine lv_aload_n hx hb dX12_write_295 rfl (lv_at hl 5 rfl) ?_
                        refine w_getJ hF hH fk_X12_322 dX12_write_296 hw (fun z62 hw => ?_)
                        refine w_last 21 36 hF hH dX12_write_299 (by decide) rfl rfl hw (fun σ63 H locs hw hH => ?_)
                        refine lv_aload_n hx hb dX12_write_300 rfl (lv_at hl 5 rfl) ?_
                        refine w_getA 21 hF hH fk_X12_77 dX12_write_301 (by decide) rfl ?_
                        refine lv_iconst (v := 4) hx hb dX12_write_304 (by decide) ?_
                        refine lv_iload hx hb dX12_write_305 (lv_at hl 1 rfl) ?_
                        refine lv_imul hx hb dX12_write_307 ?_
                        refine w_nmi hw (fun z64 hw => ?_)
                        refine lv_iconst (v := 3) hx hb dX12_write_308 (by decide) ?_
                        refine lv_iadd hx hb dX12_write_309 ?_
                        refine w_nmi hw (fun z65 hw => ?_)
                        refine lv_aload_n hx hb dX12_write_310 rfl (lv_at hl 5 rfl) ?_
                        refine w_getJ hF hH fk_X12_322 dX12_write_311 hw (fun z66 hw => ?_)
                        refine w_last 21 36 hF hH dX12_write_314 (by decide) rfl rfl hw (fun σ67 H locs hw hH => ?_)
                        refine lv_aload_n hx hb dX12_write_315 rfl (lv_at hl 5 rfl) ?_
                        refine w_cVv (As := []) (rest := []) hF hH hA mv_X12_737 (fun sz => c_X12_done l D t h0 L _ hH.2  _ hw sz) dX12_write_316 rfl rfl (by decide) rfl hl.1 (Nat.le_of_ble_eq_true rfl) (by decide) rfl (fun σ68 H locs hw hH => ?_)
                        refine lv_aload_n hx hb dX12_write_319 rfl (lv_at hl 5 rfl) ?_
                        refine lv_iload hx hb dX12_write_320 (lv_at hl 2 rfl) ?_
                        refine lv_aload_n hx hb dX12_write_322 rfl (lv_at hl 5 rfl) ?_
                        refine w_getI hF hH fk_X12_525 dX12_write_323 hw (fun z70 hw => ?_)
                        refine w_cVv (As := [.int z9, .int z70]) (rest := []) hF hH hA mv_X12_740 (fun sz => c_X12_breakSecond l D t h0 L _ hH.2 z9 z70 _ hw sz) dX12_write_326 rfl rfl (by decide) rfl hl.1 (Nat.le_of_ble_eq_true rfl) (by decide) rfl (fun σ71 H locs hw hH => ?_)
                        have hl : lv_has ls 9 [(2, .int z5), (0, .ref h0)] := lv_sub hl [3, 5] rfl
                        exact jn43 () σ71 ls _ _ hl hw hH
                      · refine lv_aload_n hx hb dX12_write_256 rfl (lv_at hl 5 rfl) ?_
                        refine w_getA 24 hF hH fk_X12_86 dX12_write_257 (by decide) rfl ?_
                        refine lv_sipush (v := 1024) hx hb dX12_write_260 (by decide) ?_
                        refine lv_iload hx hb dX12_write_263 (lv_at hl 1 rfl) ?_
                        refine lv_imul hx hb dX12_write_265 ?_
                        refine w_nmi hw (fun z73 hw => ?_)
                        refine lv_iload hx hb dX12_write_266 (lv_at hl 0 rfl) ?_
                        refine lv_iadd hx hb dX12_write_268 ?_
                        refine w_nmi hw (fun z74 hw => ?_)
                        refine lv_aload_n hx hb dX12_write_269 rfl (lv_at hl 5 rfl) ?_
                        refine lv_iload_n hx hb dX12_write_270 rfl (lv_at hl 4 rfl) ?_
                        refine lv_iload hx hb dX12_write_271 (lv_at hl 0 rfl) ?_
                        refine lv_iadd hx hb dX12_write_273 ?_
                        refine w_nmi hw (fun z75 hw => ?_)
                        refine w_cVi (As := [.int z75]) (rest := [.int z74, .ref (L 24)]) hF hH hA mv_X12_600 (fun sz => c_X12_number1 l D t h0 L _ hH.2 z75 _ hw sz) dX12_write_274 rfl rfl (by decide) rfl hl.1 (Nat.le_of_ble_eq_true rfl) (by decide) rfl (fun z77 σ76 H locs hw hH => ?_)
                        refine lv_i2b hx hb dX12_write_277 rfl ?_
                        refine w_nmi hw (fun z78 hw => ?_)
                        refine w_bast 24 9216 hF hH dX12_write_278 (by decide) rfl rfl hw (fun σ79 H locs hw hH => ?_)
                        obtain ⟨z80, ez80⟩ : ∃ z : Int32, z = x56 + 1 := ⟨_, rfl⟩
                        have hw := hw z80 ez80
                        refine lv_iinc (lv' := [(8, .int z80), (7, .int z52), (5, .int z9), (2, .int z5), (1, .int z2), (0, .ref h0)]) (k := 0) (v := z80) hx hb dX12_write_279 hl rfl ez80.symm (by decide) rfl (fun ls hl => ?_)
                        refine lv_goto (tgt := 250) hx hb dX12_write_282 rfl ?_
                        exact ih59 z80 σ79 ls _ _ hl hw hH
                · have hl : lv_has ls 9 [] := lv_sub hl [] rfl
                  exact jn36 () σ30 ls _ _ hl hw hH
          · refine lv_aload_n hx hb dX12_write_105 rfl (lv_at hl 5 rfl) ?_
            refine w_getA 56 hF hH fk_X12_184 dX12_write_106 (by decide) rfl ?_
            refine lv_iload hx hb dX12_write_109 (lv_at hl 0 rfl) ?_
            refine w_lald 56 80 hF hH dX12_write_111 (by decide) rfl rfl hw (fun z81 hw => ?_)
            refine lv_aload_n hx hb dX12_write_112 rfl (lv_at hl 5 rfl) ?_
            refine w_getA 41 hF hH fk_X12_139 dX12_write_113 (by decide) rfl ?_
            refine lv_aload_n hx hb dX12_write_116 rfl (lv_at hl 5 rfl) ?_
            refine w_getI hF hH fk_X12_525 dX12_write_117 hw (fun z82 hw => ?_)
            refine w_lald 41 40 hF hH dX12_write_120 (by decide) rfl rfl hw (fun z83 hw => ?_)
            obtain ⟨K86, hK87, hw⟩ := jn_open hw
            refine w_join (K := K86) 140 (fun (x84 : Int32) => [(7, .int x25), (5, .int z9), (3, .long z7), (2, .int z5), (1, .int z2), (0, .ref h0)]) (fun (x84 : Int32) => [.int x84]) hl hH (fun x84 σ85 ls H locs hl hw hH => ?_) (fun jn88 => ?_)
            · have hw := hK87 x84 σ85 hw
              have hl : lv_has ls 9 [(7, .int x25), (5, .int z9), (3, .long z7), (2, .int z5), (1, .int z2), (0, .ref h0)] := hl
              refine lv_istore (lv' := [(8, .int x84), (7, .int x25), (5, .int z9), (3, .long z7), (2, .int z5), (1, .int z2), (0, .ref h0)]) hx hb dX12_write_140 hl (by decide) rfl (fun ls hl => ?_)
              refine lv_aload_n hx hb dX12_write_142 rfl (lv_at hl 6 rfl) ?_
              refine w_getA 57 hF hH fk_X12_187 dX12_write_143 (by decide) rfl ?_
              refine lv_iload hx hb dX12_write_146 (lv_at hl 1 rfl) ?_
              refine w_iald 57 80 hF hH dX12_write_148 (by decide) rfl rfl hw (fun z89 hw => ?_)
              refine lv_iload hx hb dX12_write_149 (lv_at hl 2 rfl) ?_
              obtain ⟨K92, hK93, hw⟩ := jn_open hw
              refine w_join (K := K92) 186 (fun (x90 : Unit) => [(7, .int x25), (5, .int z9), (3, .long z7), (2, .int z5), (1, .int z2), (0, .ref h0)]) (fun (x90 : Unit) => []) hl hH (fun x90 σ91 ls H locs hl hw hH => ?_) (fun jn94 => ?_)
              · have hw := hK93 x90 σ91 hw
                have hl : lv_has ls 9 [(7, .int x25), (5, .int z9), (3, .long z7), (2, .int z5), (1, .int z2), (0, .ref h0)] := hl
                obtain ⟨z95, ez95⟩ : ∃ z : Int32, z = x25 + 1 := ⟨_, rfl⟩
                have hw := hw z95 ez95
                refine lv_iinc (lv' := [(7, .int z95), (5, .int z9), (3, .long z7), (2, .int z5), (1, .int z2), (0, .ref h0)]) (k := 0) (v := z95) hx hb dX12_write_186 hl rfl ez95.symm (by decide) rfl (fun ls hl => ?_)
                refine lv_goto (tgt := 96) hx hb dX12_write_189 rfl ?_
                exact ih28 z95 σ91 ls _ _ hl hw hH
              · skip
                refine w_icmp_ne (tgt := 186) hF dX12_write_151 rfl hw (fun hw => ?_) (fun hw => ?_)
                · have hl : lv_has ls 9 [(7, .int x25), (5, .int z9), (3, .long z7), (2, .int z5), (1, .int z2), (0, .ref h0)] := lv_sub hl [1, 2, 3, 4, 5, 6] rfl
                  exact jn94 () σ85 ls _ _ hl hw hH
                · refine lv_iload hx hb dX12_write_154 (lv_at hl 0 rfl) ?_
                  refine w_if_ne (tgt := 186) hF dX12_write_156 rfl hw (fun hw => ?_) (fun hw => ?_)
                  · have hl : lv_has ls 9 [(7, .int x25), (5, .int z9), (3, .long z7), (2, .int z5), (1, .int z2), (0, .ref h0)] := lv_sub hl [1, 2, 3, 4, 5, 6] rfl
                    exact jn94 () σ85 ls _ _ hl hw hH
                  · refine lv_lload_n hx hb dX12_write_159 rfl (lv_at hl 3 rfl) ?_
                    refine lv_iload_n hx hb dX12_write_160 rfl (lv_at hl 4 rfl) ?_
                    refine lv_i2l hx hb dX12_write_161 rfl ?_
                    refine w_nml hw (fun z96 hw => ?_)
                    refine lv_aload_n hx hb dX12_write_162 rfl (lv_at hl 6 rfl) ?_
                    refine w_getA 58 hF hH fk_X12_190 dX12_write_163 (by decide) rfl ?_
                    refine lv_iload hx hb dX12_write_166 (lv_at hl 1 rfl) ?_
                    refine w_lald 58 80 hF hH dX12_write_168 (by decide) rfl rfl hw (fun z97 hw => ?_)
                    refine lv_aload_n hx hb dX12_write_169 rfl (lv_at hl 6 rfl) ?_
                    refine w_getA 59 hF hH fk_X12_193 dX12_write_170 (by decide) rfl ?_
                    refine lv_iload hx hb dX12_write_173 (lv_at hl 1 rfl) ?_
                    refine w_lald 59 80 hF hH dX12_write_175 (by decide) rfl rfl hw (fun z98 hw => ?_)
                    refine w_cSi (As := [.long z7, .long z96, .long z97, .long z98]) (rest := []) hF hH hA ms_X12_766 (fun sz => c_X12_meet l D t h0 L _ hH.2 z7 z96 z97 z98 _ hw sz) dX12_write_176 rfl rfl (by decide) rfl hl.1 (Nat.le_of_ble_eq_true rfl) (by decide) rfl (fun z100 σ99 H locs hw hH => ?_)
                    refine w_if_eq (tgt := 186) hF dX12_write_179 rfl hw (fun hw => ?_) (fun hw => ?_)
                    · have hl : lv_has ls 9 [(7, .int x25), (5, .int z9), (3, .long z7), (2, .int z5), (1, .int z2), (0, .ref h0)] := lv_sub hl [1, 2, 3, 4, 5, 6] rfl
                      exact jn94 () σ99 ls _ _ hl hw hH
                    · refine lv_ldc2 (v := 3221225556) hx hb hF.1.2.2.2.1 (hF.1.2.2.2.2 _ (wc_55 15 rfl)) dX12_write_182 ?_
                      exact w_retl hF hH hr hlk dX12_write_185 hw
            · skip
              obtain ⟨K103, hK104, hw⟩ := jn_open hw
              refine w_join (K := K103) 139 (fun (x101 : Unit) => [(7, .int x25), (5, .int z9), (3, .long z7), (2, .int z5), (1, .int z2), (0, .ref h0)]) (fun (x101 : Unit) => []) hl hH (fun x101 σ102 ls H locs hl hw hH => ?_) (fun jn105 => ?_)
              · have hw := hK104 x101 σ102 hw
                have hl : lv_has ls 9 [(7, .int x25), (5, .int z9), (3, .long z7), (2, .int z5), (1, .int z2), (0, .ref h0)] := hl
                refine lv_iconst (v := 0) hx hb dX12_write_139 (by decide) ?_
                exact jn88 0 σ102 ls _ _ hl hw hH
              · skip
                refine w_lif_ne (tgt := 139) hF dX12_write_121 dX12_write_122 rfl hw (fun hw => ?_) (fun hw => ?_)
                · exact jn105 () σ26 ls _ _ hl hw hH
                · refine lv_aload_n hx hb dX12_write_125 rfl (lv_at hl 5 rfl) ?_
                  refine w_getA 60 hF hH fk_X12_196 dX12_write_126 (by decide) rfl ?_
                  refine lv_iload hx hb dX12_write_129 (lv_at hl 0 rfl) ?_
                  refine w_zald 60 80 hF hH dX12_write_131 (by decide) rfl rfl hw (fun z106 hw => ?_)
                  refine w_if_ne (tgt := 139) hF dX12_write_132 rfl hw (fun hw => ?_) (fun hw => ?_)
                  · exact jn105 () σ26 ls _ _ hl hw hH
                  · refine lv_iconst (v := 1) hx hb dX12_write_135 (by decide) ?_
                    refine lv_goto (tgt := 140) hx hb dX12_write_136 rfl ?_
                    exact jn88 1 σ26 ls _ _ hl hw hH
        · skip
          refine w_if_ne (tgt := 93) hF dX12_write_73 rfl hw (fun hw => ?_) (fun hw => ?_)
          · have hl : lv_has ls 9 [(5, .int z9), (3, .long z7), (2, .int z5), (1, .int z2), (0, .ref h0)] := lv_sub hl [1, 2, 3, 4, 5] rfl
            exact jn24 () σ6 ls _ _ hl hw hH
          · refine lv_lload_n hx hb dX12_write_76 rfl (lv_at hl 2 rfl) ?_
            refine lv_aload_n hx hb dX12_write_77 rfl (lv_at hl 5 rfl) ?_
            refine w_getA 8 hF hH fk_X12_37 dX12_write_78 (by decide) rfl ?_
            refine lv_iload hx hb dX12_write_81 (lv_at hl 1 rfl) ?_
            refine w_iald 8 160 hF hH dX12_write_83 (by decide) rfl rfl hw (fun z107 hw => ?_)
            refine lv_i2l hx hb dX12_write_84 rfl ?_
            refine w_nml hw (fun z108 hw => ?_)
            refine w_lif_eq (tgt := 93) hF dX12_write_85 dX12_write_86 rfl hw (fun hw => ?_) (fun hw => ?_)
            · have hl : lv_has ls 9 [(5, .int z9), (3, .long z7), (2, .int z5), (1, .int z2), (0, .ref h0)] := lv_sub hl [1, 2, 3, 4, 5] rfl
              exact jn24 () σ6 ls _ _ hl hw hH
            · have hl : lv_has ls 9 [] := lv_sub hl [] rfl
              exact jn18 () σ6 ls _ _ hl hw hH
  · refine lv_ldc2 (v := 3221225658) hx hb hF.1.2.2.2.1 (hF.1.2.2.2.2 _ (wc_54 33 rfl)) dX12_write_46 ?_
    exact w_retl hF hH hr hlk dX12_write_49 hw

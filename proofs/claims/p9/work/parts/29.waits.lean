theorem keepJI {L : Nat → Nat} {σ σ' : HS} {j a k : Nat} {v : Int32} (e : σ' = h_uI σ a k v) : sJ σ' (L j) = sJ σ (L j) := by
  subst e
  rfl
theorem keepJF {h0 : Nat} {L : Nat → Nat} {σ σ' : HS} {j k : Nat} {v : Int64} (e : σ' = h_uJ σ h0 k v) (hM : MdI h0 L σ) (hj : j < 80) : sJ σ' (L j) = sJ σ (L j) := by
  subst e
  exact funext fun n => u2_addr (hM.ne hj)
theorem keepJA {h0 : Nat} {L : Nat → Nat} {σ σ' : HS} {i j k : Nat} {v : Int64} (e : σ' = h_uJ σ (L i) k v) (hM : MdI h0 L σ) (hi : i < 80) (hj : j < 80) (h : j ≠ i) : sJ σ' (L j) = sJ σ (L j) := by
  subst e
  exact funext fun n => u2_addr (fun q => h (hM.inj hj hi q))
theorem i_nar {x : Int32} (h : 0 ≤ x.toInt ∧ x.toInt ≤ 1) : (vp_nar .boolean x) = x := by
  rcases (show x.toInt = 0 ∨ x.toInt = 1 by omega) with e | e
  · have : x = 0 := i_inj e
    subst this
    rfl
  · have : x = 1 := i_inj e
    subst this
    rfl
theorem upd_at {f : Nat → Int32} {k i : Nat} {v : Int32} : upd f k v i = if i = k then v else f i := rfl
theorem updL_at {f : Nat → Int64} {k i : Nat} {v : Int64} : vp_updL f k v i = if i = k then v else f i := rfl
/-- how many below n -/
noncomputable def cnt (P : Nat → Prop) : Nat → Nat
  | 0 => 0
  | n + 1 => cnt P n + @ite Nat (P n) (Classical.propDecidable _) 1 0
theorem cnt_le {P Q : Nat → Prop} : ∀ {n : Nat}, (∀ i, i < n → Q i → P i) → cnt Q n ≤ cnt P n
  | 0, _ => Nat.le_refl _
  | n + 1, h => by
    have h1 := cnt_le (n := n) (fun i hi => h i (by omega))
    unfold cnt
    by_cases hq : Q n
    · rw [if_pos hq, if_pos (h n (by omega) hq)]
      omega
    · rw [if_neg hq]
      omega
theorem cnt_lt {P Q : Nat → Prop} {k : Nat} : ∀ {n : Nat}, (∀ i, i < n → Q i → P i) → k < n → P k → ¬ Q k → cnt Q n < cnt P n
  | 0, _, hk, _, _ => absurd hk (Nat.not_lt_zero _)
  | n + 1, h, hk, h1, h2 => by
    unfold cnt
    by_cases hkn : k = n
    · subst hkn
      have h3 := cnt_le (n := k) (fun i hi => h i (by omega))
      rw [if_neg h2, if_pos h1]
      omega
    · have h3 := cnt_lt (n := n) (fun i hi => h i (by omega)) (by omega) h1 h2
      by_cases hq : Q n
      · rw [if_pos hq, if_pos (h n (by omega) hq)]
        omega
      · rw [if_neg hq]
        omega
theorem dX12_forget_0 : decode cX12_forget 0 = .ok (.aload_n 0, 1) := by decide +kernel
theorem dX12_forget_1 : decode cX12_forget 1 = .ok (.dup, 1) := by decide +kernel
theorem dX12_forget_2 : decode cX12_forget 2 = .ok (.getfield 292, 3) := by decide +kernel
theorem dX12_forget_5 : decode cX12_forget 5 = .ok (.iconst 1, 1) := by decide +kernel
theorem dX12_forget_6 : decode cX12_forget 6 = .ok (.isub, 1) := by decide +kernel
theorem dX12_forget_7 : decode cX12_forget 7 = .ok (.putfield 292, 3) := by decide +kernel
theorem dX12_forget_10 : decode cX12_forget 10 = .ok (.iload_n 1, 1) := by decide +kernel
theorem dX12_forget_11 : decode cX12_forget 11 = .ok (.istore_n 2, 1) := by decide +kernel
theorem dX12_forget_12 : decode cX12_forget 12 = .ok (.iload_n 2, 1) := by decide +kernel
theorem dX12_forget_13 : decode cX12_forget 13 = .ok (.aload_n 0, 1) := by decide +kernel
theorem dX12_forget_14 : decode cX12_forget 14 = .ok (.getfield 292, 3) := by decide +kernel
theorem dX12_forget_17 : decode cX12_forget 17 = .ok (.if_icmp .ge 249, 3) := by decide +kernel
theorem dX12_forget_20 : decode cX12_forget 20 = .ok (.aload_n 0, 1) := by decide +kernel
theorem dX12_forget_21 : decode cX12_forget 21 = .ok (.getfield 199, 3) := by decide +kernel
theorem dX12_forget_24 : decode cX12_forget 24 = .ok (.iload_n 2, 1) := by decide +kernel
theorem dX12_forget_25 : decode cX12_forget 25 = .ok (.aload_n 0, 1) := by decide +kernel
theorem dX12_forget_26 : decode cX12_forget 26 = .ok (.getfield 199, 3) := by decide +kernel
theorem dX12_forget_29 : decode cX12_forget 29 = .ok (.iload_n 2, 1) := by decide +kernel
theorem dX12_forget_30 : decode cX12_forget 30 = .ok (.iconst 1, 1) := by decide +kernel
theorem dX12_forget_31 : decode cX12_forget 31 = .ok (.iadd, 1) := by decide +kernel
theorem dX12_forget_32 : decode cX12_forget 32 = .ok (.iaload, 1) := by decide +kernel
theorem dX12_forget_33 : decode cX12_forget 33 = .ok (.iastore, 1) := by decide +kernel
theorem dX12_forget_34 : decode cX12_forget 34 = .ok (.aload_n 0, 1) := by decide +kernel
theorem dX12_forget_35 : decode cX12_forget 35 = .ok (.getfield 202, 3) := by decide +kernel
theorem dX12_forget_38 : decode cX12_forget 38 = .ok (.iload_n 2, 1) := by decide +kernel
theorem dX12_forget_39 : decode cX12_forget 39 = .ok (.aload_n 0, 1) := by decide +kernel
theorem dX12_forget_40 : decode cX12_forget 40 = .ok (.getfield 202, 3) := by decide +kernel
theorem dX12_forget_43 : decode cX12_forget 43 = .ok (.iload_n 2, 1) := by decide +kernel
theorem dX12_forget_44 : decode cX12_forget 44 = .ok (.iconst 1, 1) := by decide +kernel
theorem dX12_forget_45 : decode cX12_forget 45 = .ok (.iadd, 1) := by decide +kernel
theorem dX12_forget_46 : decode cX12_forget 46 = .ok (.iaload, 1) := by decide +kernel
theorem dX12_forget_47 : decode cX12_forget 47 = .ok (.iastore, 1) := by decide +kernel
theorem dX12_forget_48 : decode cX12_forget 48 = .ok (.aload_n 0, 1) := by decide +kernel
theorem dX12_forget_49 : decode cX12_forget 49 = .ok (.getfield 205, 3) := by decide +kernel
theorem dX12_forget_52 : decode cX12_forget 52 = .ok (.iload_n 2, 1) := by decide +kernel
theorem dX12_forget_53 : decode cX12_forget 53 = .ok (.aload_n 0, 1) := by decide +kernel
theorem dX12_forget_54 : decode cX12_forget 54 = .ok (.getfield 205, 3) := by decide +kernel
theorem dX12_forget_57 : decode cX12_forget 57 = .ok (.iload_n 2, 1) := by decide +kernel
theorem dX12_forget_58 : decode cX12_forget 58 = .ok (.iconst 1, 1) := by decide +kernel
theorem dX12_forget_59 : decode cX12_forget 59 = .ok (.iadd, 1) := by decide +kernel
theorem dX12_forget_60 : decode cX12_forget 60 = .ok (.iaload, 1) := by decide +kernel
theorem dX12_forget_61 : decode cX12_forget 61 = .ok (.iastore, 1) := by decide +kernel
theorem dX12_forget_62 : decode cX12_forget 62 = .ok (.aload_n 0, 1) := by decide +kernel
theorem dX12_forget_63 : decode cX12_forget 63 = .ok (.getfield 208, 3) := by decide +kernel
theorem dX12_forget_66 : decode cX12_forget 66 = .ok (.iload_n 2, 1) := by decide +kernel
theorem dX12_forget_67 : decode cX12_forget 67 = .ok (.aload_n 0, 1) := by decide +kernel
theorem dX12_forget_68 : decode cX12_forget 68 = .ok (.getfield 208, 3) := by decide +kernel
theorem dX12_forget_71 : decode cX12_forget 71 = .ok (.iload_n 2, 1) := by decide +kernel
theorem dX12_forget_72 : decode cX12_forget 72 = .ok (.iconst 1, 1) := by decide +kernel
theorem dX12_forget_73 : decode cX12_forget 73 = .ok (.iadd, 1) := by decide +kernel
theorem dX12_forget_74 : decode cX12_forget 74 = .ok (.baload, 1) := by decide +kernel
theorem dX12_forget_75 : decode cX12_forget 75 = .ok (.bastore, 1) := by decide +kernel
theorem dX12_forget_76 : decode cX12_forget 76 = .ok (.aload_n 0, 1) := by decide +kernel
theorem dX12_forget_77 : decode cX12_forget 77 = .ok (.getfield 211, 3) := by decide +kernel
theorem dX12_forget_80 : decode cX12_forget 80 = .ok (.iload_n 2, 1) := by decide +kernel
theorem dX12_forget_81 : decode cX12_forget 81 = .ok (.aload_n 0, 1) := by decide +kernel
theorem dX12_forget_82 : decode cX12_forget 82 = .ok (.getfield 211, 3) := by decide +kernel
theorem dX12_forget_85 : decode cX12_forget 85 = .ok (.iload_n 2, 1) := by decide +kernel
theorem dX12_forget_86 : decode cX12_forget 86 = .ok (.iconst 1, 1) := by decide +kernel
theorem dX12_forget_87 : decode cX12_forget 87 = .ok (.iadd, 1) := by decide +kernel
theorem dX12_forget_88 : decode cX12_forget 88 = .ok (.laload, 1) := by decide +kernel
theorem dX12_forget_89 : decode cX12_forget 89 = .ok (.lastore, 1) := by decide +kernel
theorem dX12_forget_90 : decode cX12_forget 90 = .ok (.aload_n 0, 1) := by decide +kernel
theorem dX12_forget_91 : decode cX12_forget 91 = .ok (.getfield 214, 3) := by decide +kernel
theorem dX12_forget_94 : decode cX12_forget 94 = .ok (.iload_n 2, 1) := by decide +kernel
theorem dX12_forget_95 : decode cX12_forget 95 = .ok (.aload_n 0, 1) := by decide +kernel
theorem dX12_forget_96 : decode cX12_forget 96 = .ok (.getfield 214, 3) := by decide +kernel
theorem dX12_forget_99 : decode cX12_forget 99 = .ok (.iload_n 2, 1) := by decide +kernel
theorem dX12_forget_100 : decode cX12_forget 100 = .ok (.iconst 1, 1) := by decide +kernel
theorem dX12_forget_101 : decode cX12_forget 101 = .ok (.iadd, 1) := by decide +kernel
theorem dX12_forget_102 : decode cX12_forget 102 = .ok (.laload, 1) := by decide +kernel
theorem dX12_forget_103 : decode cX12_forget 103 = .ok (.lastore, 1) := by decide +kernel
theorem dX12_forget_104 : decode cX12_forget 104 = .ok (.aload_n 0, 1) := by decide +kernel
theorem dX12_forget_105 : decode cX12_forget 105 = .ok (.getfield 217, 3) := by decide +kernel
theorem dX12_forget_108 : decode cX12_forget 108 = .ok (.iload_n 2, 1) := by decide +kernel
theorem dX12_forget_109 : decode cX12_forget 109 = .ok (.aload_n 0, 1) := by decide +kernel
theorem dX12_forget_110 : decode cX12_forget 110 = .ok (.getfield 217, 3) := by decide +kernel
theorem dX12_forget_113 : decode cX12_forget 113 = .ok (.iload_n 2, 1) := by decide +kernel
theorem dX12_forget_114 : decode cX12_forget 114 = .ok (.iconst 1, 1) := by decide +kernel
theorem dX12_forget_115 : decode cX12_forget 115 = .ok (.iadd, 1) := by decide +kernel
theorem dX12_forget_116 : decode cX12_forget 116 = .ok (.iaload, 1) := by decide +kernel
theorem dX12_forget_117 : decode cX12_forget 117 = .ok (.iastore, 1) := by decide +kernel
theorem dX12_forget_118 : decode cX12_forget 118 = .ok (.aload_n 0, 1) := by decide +kernel
theorem dX12_forget_119 : decode cX12_forget 119 = .ok (.getfield 220, 3) := by decide +kernel
theorem dX12_forget_122 : decode cX12_forget 122 = .ok (.iload_n 2, 1) := by decide +kernel
theorem dX12_forget_123 : decode cX12_forget 123 = .ok (.aload_n 0, 1) := by decide +kernel
theorem dX12_forget_124 : decode cX12_forget 124 = .ok (.getfield 220, 3) := by decide +kernel
theorem dX12_forget_127 : decode cX12_forget 127 = .ok (.iload_n 2, 1) := by decide +kernel
theorem dX12_forget_128 : decode cX12_forget 128 = .ok (.iconst 1, 1) := by decide +kernel
theorem dX12_forget_129 : decode cX12_forget 129 = .ok (.iadd, 1) := by decide +kernel
theorem dX12_forget_130 : decode cX12_forget 130 = .ok (.iaload, 1) := by decide +kernel
theorem dX12_forget_131 : decode cX12_forget 131 = .ok (.iastore, 1) := by decide +kernel
theorem dX12_forget_132 : decode cX12_forget 132 = .ok (.aload_n 0, 1) := by decide +kernel
theorem dX12_forget_133 : decode cX12_forget 133 = .ok (.getfield 223, 3) := by decide +kernel
theorem dX12_forget_136 : decode cX12_forget 136 = .ok (.iload_n 2, 1) := by decide +kernel
theorem dX12_forget_137 : decode cX12_forget 137 = .ok (.aload_n 0, 1) := by decide +kernel
theorem dX12_forget_138 : decode cX12_forget 138 = .ok (.getfield 223, 3) := by decide +kernel
theorem dX12_forget_141 : decode cX12_forget 141 = .ok (.iload_n 2, 1) := by decide +kernel
theorem dX12_forget_142 : decode cX12_forget 142 = .ok (.iconst 1, 1) := by decide +kernel
theorem dX12_forget_143 : decode cX12_forget 143 = .ok (.iadd, 1) := by decide +kernel
theorem dX12_forget_144 : decode cX12_forget 144 = .ok (.laload, 1) := by decide +kernel
theorem dX12_forget_145 : decode cX12_forget 145 = .ok (.lastore, 1) := by decide +kernel
theorem dX12_forget_146 : decode cX12_forget 146 = .ok (.aload_n 0, 1) := by decide +kernel
theorem dX12_forget_147 : decode cX12_forget 147 = .ok (.getfield 226, 3) := by decide +kernel
theorem dX12_forget_150 : decode cX12_forget 150 = .ok (.iload_n 2, 1) := by decide +kernel
theorem dX12_forget_151 : decode cX12_forget 151 = .ok (.aload_n 0, 1) := by decide +kernel
theorem dX12_forget_152 : decode cX12_forget 152 = .ok (.getfield 226, 3) := by decide +kernel
theorem dX12_forget_155 : decode cX12_forget 155 = .ok (.iload_n 2, 1) := by decide +kernel
theorem dX12_forget_156 : decode cX12_forget 156 = .ok (.iconst 1, 1) := by decide +kernel
theorem dX12_forget_157 : decode cX12_forget 157 = .ok (.iadd, 1) := by decide +kernel
theorem dX12_forget_158 : decode cX12_forget 158 = .ok (.iaload, 1) := by decide +kernel
theorem dX12_forget_159 : decode cX12_forget 159 = .ok (.iastore, 1) := by decide +kernel
theorem dX12_forget_160 : decode cX12_forget 160 = .ok (.aload_n 0, 1) := by decide +kernel
theorem dX12_forget_161 : decode cX12_forget 161 = .ok (.getfield 229, 3) := by decide +kernel
theorem dX12_forget_164 : decode cX12_forget 164 = .ok (.iload_n 2, 1) := by decide +kernel
theorem dX12_forget_165 : decode cX12_forget 165 = .ok (.aload_n 0, 1) := by decide +kernel
theorem dX12_forget_166 : decode cX12_forget 166 = .ok (.getfield 229, 3) := by decide +kernel
theorem dX12_forget_169 : decode cX12_forget 169 = .ok (.iload_n 2, 1) := by decide +kernel
theorem dX12_forget_170 : decode cX12_forget 170 = .ok (.iconst 1, 1) := by decide +kernel
theorem dX12_forget_171 : decode cX12_forget 171 = .ok (.iadd, 1) := by decide +kernel
theorem dX12_forget_172 : decode cX12_forget 172 = .ok (.laload, 1) := by decide +kernel
theorem dX12_forget_173 : decode cX12_forget 173 = .ok (.lastore, 1) := by decide +kernel
theorem dX12_forget_174 : decode cX12_forget 174 = .ok (.aload_n 0, 1) := by decide +kernel
theorem dX12_forget_175 : decode cX12_forget 175 = .ok (.getfield 232, 3) := by decide +kernel
theorem dX12_forget_178 : decode cX12_forget 178 = .ok (.iload_n 2, 1) := by decide +kernel
theorem dX12_forget_179 : decode cX12_forget 179 = .ok (.aload_n 0, 1) := by decide +kernel
theorem dX12_forget_180 : decode cX12_forget 180 = .ok (.getfield 232, 3) := by decide +kernel
theorem dX12_forget_183 : decode cX12_forget 183 = .ok (.iload_n 2, 1) := by decide +kernel
theorem dX12_forget_184 : decode cX12_forget 184 = .ok (.iconst 1, 1) := by decide +kernel
theorem dX12_forget_185 : decode cX12_forget 185 = .ok (.iadd, 1) := by decide +kernel
theorem dX12_forget_186 : decode cX12_forget 186 = .ok (.laload, 1) := by decide +kernel
theorem dX12_forget_187 : decode cX12_forget 187 = .ok (.lastore, 1) := by decide +kernel
theorem dX12_forget_188 : decode cX12_forget 188 = .ok (.aload_n 0, 1) := by decide +kernel
theorem dX12_forget_189 : decode cX12_forget 189 = .ok (.getfield 235, 3) := by decide +kernel
theorem dX12_forget_192 : decode cX12_forget 192 = .ok (.iload_n 2, 1) := by decide +kernel
theorem dX12_forget_193 : decode cX12_forget 193 = .ok (.aload_n 0, 1) := by decide +kernel
theorem dX12_forget_194 : decode cX12_forget 194 = .ok (.getfield 235, 3) := by decide +kernel
theorem dX12_forget_197 : decode cX12_forget 197 = .ok (.iload_n 2, 1) := by decide +kernel
theorem dX12_forget_198 : decode cX12_forget 198 = .ok (.iconst 1, 1) := by decide +kernel
theorem dX12_forget_199 : decode cX12_forget 199 = .ok (.iadd, 1) := by decide +kernel
theorem dX12_forget_200 : decode cX12_forget 200 = .ok (.baload, 1) := by decide +kernel
theorem dX12_forget_201 : decode cX12_forget 201 = .ok (.bastore, 1) := by decide +kernel
theorem dX12_forget_202 : decode cX12_forget 202 = .ok (.aload_n 0, 1) := by decide +kernel
theorem dX12_forget_203 : decode cX12_forget 203 = .ok (.getfield 238, 3) := by decide +kernel
theorem dX12_forget_206 : decode cX12_forget 206 = .ok (.iload_n 2, 1) := by decide +kernel
theorem dX12_forget_207 : decode cX12_forget 207 = .ok (.aload_n 0, 1) := by decide +kernel
theorem dX12_forget_208 : decode cX12_forget 208 = .ok (.getfield 238, 3) := by decide +kernel
theorem dX12_forget_211 : decode cX12_forget 211 = .ok (.iload_n 2, 1) := by decide +kernel
theorem dX12_forget_212 : decode cX12_forget 212 = .ok (.iconst 1, 1) := by decide +kernel
theorem dX12_forget_213 : decode cX12_forget 213 = .ok (.iadd, 1) := by decide +kernel
theorem dX12_forget_214 : decode cX12_forget 214 = .ok (.iaload, 1) := by decide +kernel
theorem dX12_forget_215 : decode cX12_forget 215 = .ok (.iastore, 1) := by decide +kernel
theorem dX12_forget_216 : decode cX12_forget 216 = .ok (.iconst 0, 1) := by decide +kernel
theorem dX12_forget_217 : decode cX12_forget 217 = .ok (.istore_n 3, 1) := by decide +kernel
theorem dX12_forget_218 : decode cX12_forget 218 = .ok (.iload_n 3, 1) := by decide +kernel
theorem dX12_forget_219 : decode cX12_forget 219 = .ok (.aload_n 0, 1) := by decide +kernel
theorem dX12_forget_220 : decode cX12_forget 220 = .ok (.getfield 238, 3) := by decide +kernel
theorem dX12_forget_223 : decode cX12_forget 223 = .ok (.iload_n 2, 1) := by decide +kernel
theorem dX12_forget_224 : decode cX12_forget 224 = .ok (.iaload, 1) := by decide +kernel
theorem dX12_forget_225 : decode cX12_forget 225 = .ok (.if_icmp .ge 35, 3) := by decide +kernel
theorem dX12_forget_228 : decode cX12_forget 228 = .ok (.aload_n 0, 1) := by decide +kernel
theorem dX12_forget_229 : decode cX12_forget 229 = .ok (.getfield 242, 3) := by decide +kernel
theorem dX12_forget_232 : decode cX12_forget 232 = .ok (.sipush 4000, 3) := by decide +kernel
theorem dX12_forget_235 : decode cX12_forget 235 = .ok (.iload_n 2, 1) := by decide +kernel
theorem dX12_forget_236 : decode cX12_forget 236 = .ok (.imul, 1) := by decide +kernel
theorem dX12_forget_237 : decode cX12_forget 237 = .ok (.iload_n 3, 1) := by decide +kernel
theorem dX12_forget_238 : decode cX12_forget 238 = .ok (.iadd, 1) := by decide +kernel
theorem dX12_forget_239 : decode cX12_forget 239 = .ok (.aload_n 0, 1) := by decide +kernel
theorem dX12_forget_240 : decode cX12_forget 240 = .ok (.getfield 242, 3) := by decide +kernel
theorem dX12_forget_243 : decode cX12_forget 243 = .ok (.sipush 4000, 3) := by decide +kernel
theorem dX12_forget_246 : decode cX12_forget 246 = .ok (.iload_n 2, 1) := by decide +kernel
theorem dX12_forget_247 : decode cX12_forget 247 = .ok (.iconst 1, 1) := by decide +kernel
theorem dX12_forget_248 : decode cX12_forget 248 = .ok (.iadd, 1) := by decide +kernel
theorem dX12_forget_249 : decode cX12_forget 249 = .ok (.imul, 1) := by decide +kernel
theorem dX12_forget_250 : decode cX12_forget 250 = .ok (.iload_n 3, 1) := by decide +kernel
theorem dX12_forget_251 : decode cX12_forget 251 = .ok (.iadd, 1) := by decide +kernel
theorem dX12_forget_252 : decode cX12_forget 252 = .ok (.baload, 1) := by decide +kernel
theorem dX12_forget_253 : decode cX12_forget 253 = .ok (.bastore, 1) := by decide +kernel
theorem dX12_forget_254 : decode cX12_forget 254 = .ok (.iinc 3 1, 3) := by decide +kernel
theorem dX12_forget_257 : decode cX12_forget 257 = .ok (.goto (-39), 3) := by decide +kernel
theorem dX12_forget_260 : decode cX12_forget 260 = .ok (.iinc 2 1, 3) := by decide +kernel
theorem dX12_forget_263 : decode cX12_forget 263 = .ok (.goto (-251), 3) := by decide +kernel
theorem dX12_forget_266 : decode cX12_forget 266 = .ok (.return_, 1) := by decide +kernel
set_option maxRecDepth 100000 in
set_option maxHeartbeats 4000000 in
theorem c_X12_forget (l : Launch) (D : va_G) (t : Nat → ClassId) (h0 : Nat) (L : Nat → Nat) (σ : HS) (hO : OK ph τ0 σ) (hM : MdI h0 L σ) (q : Int32) (hz : 0 ≤ q.toInt ∧ q.toInt < (sI σ h0 69).toInt) (sz : Nat) : HMv ph τ0 l D t yX12_forget cX12_forget 4 ({ frames := 0, cells := 0, slots := 0, locals := 0 }) σ sz [.ref h0, .int q] 0 0 (fun σ' => MdI h0 L σ' ∧ Fr h0 L [69] [61, 62, 63, 64, 65, 66, 67, 68, 69, 70, 71, 72, 73, 74, 75] σ σ' ∧ ((sI σ' h0 69).toInt = (sI σ h0 69).toInt - 1 ∧ (∀ i : Nat, sI σ' (L 68) i = if q.toInt.toNat ≤ i ∧ i < ((sI σ h0 69).toInt - 1).toNat then sI σ (L 68) (i + 1) else sI σ (L 68) i))) := by
  refine h_go hO (by decide) (Nat.le_of_ble_eq_true rfl) ?_
  intro p e s m below meth c ls A hF hr hlk hAe hH0 hA hl
  unfold hB
  rw [hAe]
  clear hAe
  have hF : FX p m c cX12_forget 4 s _ RX12 D t := hF
  have hx := hF.1.1
  have hb := hF.1.2.1
  have hH : MT D t A s.heap h0 L σ s.heap [] := ⟨hH0, hM⟩
  have hle : HLe σ σ := HLe.rf
  have hfr : Fr h0 L [69] [61, 62, 63, 64, 65, 66, 67, 68, 69, 70, 71, 72, 73, 74, 75] σ σ := Fr.rf
  have k_0 : (0 : Int32).toInt = 0 := rfl
  have k_1 : (1 : Int32).toInt = 1 := rfl
  have k_4000 : (4000 : Int32).toInt = 4000 := rfl
  have rg_1 := i_range q
  have hl : lv_has ls 4 [(0, .ref h0), (1, .int q)] := hl
  have rf_69 : (0 : Int) ≤ (sI σ h0 69).toInt ∧ (sI σ h0 69).toInt ≤ 16 := m_fld hH 69 (by decide) rfl
  have kf_69 : sI σ h0 69 = sI σ h0 69 := rfl
  have kp_68 : sI σ (L 68) = sI σ (L 68) := rfl
  refine lv_aload_n hx hb dX12_forget_0 rfl (lv_at hl 0 rfl) ?_
  refine lv_dup hx hb dX12_forget_1 rfl ?_
  refine m_getI hF hH fk_X12_292 dX12_forget_2 0 16 rfl rfl (fun z989 ez989 vz989 => ?_)
  have wz989 := i_eq ez989
  refine lv_iconst (v := 1) hx hb dX12_forget_5 (by decide) ?_
  refine lv_isub hx hb dX12_forget_6 ?_
  refine lv_topi (fun z990 ez990 => ?_)
  try have hz990 := i_sub ez990 (by omega) (by omega)
  have hMp := hH.2
  refine m_putI hF hH fk_X12_292 dX12_forget_7 0 16 rfl rfl (by omega) rfl rfl rfl (fun σ991 H locs eσ991 hH => ?_)
  have kf_69 : sI σ991 h0 69 = z990 := by rw [eσ991]; exact u2_same
  have kp_68 : sI σ991 (L 68) = sI σ (L 68) := (keepAF eσ991 hMp (by decide)).trans kp_68
  have hle := hle.tr (show HLe σ σ991 by rw [eσ991]; exact HLe.uI)
  have hfr := hfr.fI hMp eσ991 (by decide) rfl
  refine lv_iload_n hx hb dX12_forget_10 rfl (lv_at hl 1 rfl) ?_
  refine lv_istore_n (lv' := [(2, .int q), (0, .ref h0), (1, .int q)]) hx hb dX12_forget_11 rfl hl (by decide) rfl (fun ls hl => ?_)
  have hl : lv_has ls 4 [(2, .int q), (0, .ref h0)] := lv_sub hl [0, 1] rfl
  refine m_loop (β := Int32) (L0 := fun x => [(2, .int x), (0, .ref h0)]) (I := fun x σ2 => HLe σ σ2 ∧ Fr h0 L [69] [61, 62, 63, 64, 65, 66, 67, 68, 69, 70, 71, 72, 73, 74, 75] σ σ2 ∧ ((0 ≤ x.toInt ∧ x.toInt ≤ 16 ∧ q.toInt ≤ x.toInt ∧ x.toInt ≤ (sI σ h0 69).toInt - 1) ∧ (∀ i : Nat, sI σ2 (L 68) i = if q.toInt.toNat ≤ i ∧ i < x.toInt.toNat then sI σ (L 68) (i + 1) else sI σ (L 68) i) ∧ (sI σ2 h0 69 = z990))) (fun x σ2 => (16 - x.toInt).toNat) (q) hl ⟨hle, hfr, ⟨by (try dsimp only); omega, (fun i => by rw [kp_68, if_neg (by (try dsimp only); omega)]), kf_69⟩⟩ hH (fun x σL ls H locs hl hI hH ih => ?_)
  obtain ⟨x992, hx1⟩ : ∃ y, y = x := ⟨_, rfl⟩
  subst hx1
  obtain ⟨hle, hfr, hI⟩ := hI
  have hl : lv_has ls 4 [(2, .int x992), (0, .ref h0)] := hl
  have hI : (0 ≤ x992.toInt ∧ x992.toInt ≤ 16 ∧ q.toInt ≤ x992.toInt ∧ x992.toInt ≤ (sI σ h0 69).toInt - 1) ∧ (∀ i : Nat, sI σL (L 68) i = if q.toInt.toNat ≤ i ∧ i < x992.toInt.toNat then sI σ (L 68) (i + 1) else sI σ (L 68) i) ∧ (sI σL h0 69 = z990) := hI
  have rg_x992 := i_range x992
  obtain ⟨hI, hsh, kf_69⟩ := hI
  have kp_68 : sI σL (L 68) = sI σL (L 68) := rfl
  have hwx : (sI σL h0 69).toInt = (sI σ h0 69).toInt - 1 := by rw [kf_69]; omega
  refine lv_iload_n hx hb dX12_forget_12 rfl (lv_at hl 0 rfl) ?_
  refine lv_aload_n hx hb dX12_forget_13 rfl (lv_at hl 1 rfl) ?_
  refine m_getI hF hH fk_X12_292 dX12_forget_14 0 16 rfl rfl (fun z993 ez993 vz993 => ?_)
  have wz993 := i_eq (ez993.trans kf_69)
  refine lv_icmp_ge (tgt := 266) hx hb dX12_forget_17 rfl (fun h994 => ?_) (fun h994 => ?_)
  · have ch994 := i_le h994
    exact h_retv hF hr hlk dX12_forget_266 hH.1 hle ⟨hH.2, hfr, ⟨by (try dsimp only); omega, fun i => by rw [hsh, show x992.toInt.toNat = ((sI σ h0 69).toInt - 1).toNat by omega]⟩⟩
  · have ch994 := i_nle h994
    refine lv_aload_n hx hb dX12_forget_20 rfl (lv_at hl 1 rfl) ?_
    refine m_getA 61 hF hH fk_X12_199 dX12_forget_21 (by decide) rfl ?_
    refine lv_iload_n hx hb dX12_forget_24 rfl (lv_at hl 0 rfl) ?_
    refine lv_aload_n hx hb dX12_forget_25 rfl (lv_at hl 1 rfl) ?_
    refine m_getA 61 hF hH fk_X12_199 dX12_forget_26 (by decide) rfl ?_
    refine lv_iload_n hx hb dX12_forget_29 rfl (lv_at hl 0 rfl) ?_
    refine lv_iconst (v := 1) hx hb dX12_forget_30 (by decide) ?_
    refine lv_iadd hx hb dX12_forget_31 ?_
    refine lv_topi (fun z995 ez995 => ?_)
    try have hz995 := i_add ez995 (by omega) (by omega)
    refine m_iald 61 16 hF hH dX12_forget_32 (by decide) rfl rfl 0 5 rfl rfl (by omega) (by omega) (fun z996 ez996 vz996 => ?_)
    have hMp := hH.2
    refine m_iast 61 16 hF hH dX12_forget_33 (by decide) rfl rfl 0 5 rfl rfl (by omega) (by omega) (by omega) (fun σ997 H locs eσ997 hH => ?_)
    have kf_69 : sI σ997 h0 69 = z990 := (keepFA eσ997 hMp (by decide)).trans kf_69
    have kp_68 : sI σ997 (L 68) = sI σL (L 68) := (keepAA eσ997 hMp (by decide) (by decide) (by decide)).trans kp_68
    have hle := hle.tr (show HLe σL σ997 by rw [eσ997]; exact HLe.uI)
    have hfr := hfr.aI hMp (by decide) eσ997 (by decide)
    try clear hz995
    clear vz996
    refine lv_aload_n hx hb dX12_forget_34 rfl (lv_at hl 1 rfl) ?_
    refine m_getA 62 hF hH fk_X12_202 dX12_forget_35 (by decide) rfl ?_
    refine lv_iload_n hx hb dX12_forget_38 rfl (lv_at hl 0 rfl) ?_
    refine lv_aload_n hx hb dX12_forget_39 rfl (lv_at hl 1 rfl) ?_
    refine m_getA 62 hF hH fk_X12_202 dX12_forget_40 (by decide) rfl ?_
    refine lv_iload_n hx hb dX12_forget_43 rfl (lv_at hl 0 rfl) ?_
    refine lv_iconst (v := 1) hx hb dX12_forget_44 (by decide) ?_
    refine lv_iadd hx hb dX12_forget_45 ?_
    refine lv_topi (fun z998 ez998 => ?_)
    try have hz998 := i_add ez998 (by omega) (by omega)
    refine m_iald 62 16 hF hH dX12_forget_46 (by decide) rfl rfl 0 65535 rfl rfl (by omega) (by omega) (fun z999 ez999 vz999 => ?_)
    have hMp := hH.2
    refine m_iast 62 16 hF hH dX12_forget_47 (by decide) rfl rfl 0 65535 rfl rfl (by omega) (by omega) (by omega) (fun σ1000 H locs eσ1000 hH => ?_)
    have kf_69 : sI σ1000 h0 69 = z990 := (keepFA eσ1000 hMp (by decide)).trans kf_69
    have kp_68 : sI σ1000 (L 68) = sI σL (L 68) := (keepAA eσ1000 hMp (by decide) (by decide) (by decide)).trans kp_68
    have hle := hle.tr (show HLe σ997 σ1000 by rw [eσ1000]; exact HLe.uI)
    have hfr := hfr.aI hMp (by decide) eσ1000 (by decide)
    try clear hz998
    clear vz999
    refine lv_aload_n hx hb dX12_forget_48 rfl (lv_at hl 1 rfl) ?_
    refine m_getA 63 hF hH fk_X12_205 dX12_forget_49 (by decide) rfl ?_
    refine lv_iload_n hx hb dX12_forget_52 rfl (lv_at hl 0 rfl) ?_
    refine lv_aload_n hx hb dX12_forget_53 rfl (lv_at hl 1 rfl) ?_
    refine m_getA 63 hF hH fk_X12_205 dX12_forget_54 (by decide) rfl ?_
    refine lv_iload_n hx hb dX12_forget_57 rfl (lv_at hl 0 rfl) ?_
    refine lv_iconst (v := 1) hx hb dX12_forget_58 (by decide) ?_
    refine lv_iadd hx hb dX12_forget_59 ?_
    refine lv_topi (fun z1001 ez1001 => ?_)
    try have hz1001 := i_add ez1001 (by omega) (by omega)
    refine m_iald 63 16 hF hH dX12_forget_60 (by decide) rfl rfl 0 65535 rfl rfl (by omega) (by omega) (fun z1002 ez1002 vz1002 => ?_)
    have hMp := hH.2
    refine m_iast 63 16 hF hH dX12_forget_61 (by decide) rfl rfl 0 65535 rfl rfl (by omega) (by omega) (by omega) (fun σ1003 H locs eσ1003 hH => ?_)
    have kf_69 : sI σ1003 h0 69 = z990 := (keepFA eσ1003 hMp (by decide)).trans kf_69
    have kp_68 : sI σ1003 (L 68) = sI σL (L 68) := (keepAA eσ1003 hMp (by decide) (by decide) (by decide)).trans kp_68
    have hle := hle.tr (show HLe σ1000 σ1003 by rw [eσ1003]; exact HLe.uI)
    have hfr := hfr.aI hMp (by decide) eσ1003 (by decide)
    try clear hz1001
    clear vz1002
    refine lv_aload_n hx hb dX12_forget_62 rfl (lv_at hl 1 rfl) ?_
    refine m_getA 64 hF hH fk_X12_208 dX12_forget_63 (by decide) rfl ?_
    refine lv_iload_n hx hb dX12_forget_66 rfl (lv_at hl 0 rfl) ?_
    refine lv_aload_n hx hb dX12_forget_67 rfl (lv_at hl 1 rfl) ?_
    refine m_getA 64 hF hH fk_X12_208 dX12_forget_68 (by decide) rfl ?_
    refine lv_iload_n hx hb dX12_forget_71 rfl (lv_at hl 0 rfl) ?_
    refine lv_iconst (v := 1) hx hb dX12_forget_72 (by decide) ?_
    refine lv_iadd hx hb dX12_forget_73 ?_
    refine lv_topi (fun z1004 ez1004 => ?_)
    try have hz1004 := i_add ez1004 (by omega) (by omega)
    refine m_zald 64 16 hF hH dX12_forget_74 (by decide) rfl rfl 0 1 rfl rfl (by omega) (by omega) (fun z1005 ez1005 vz1005 => ?_)
    have hMp := hH.2
    refine m_zast 64 16 hF hH dX12_forget_75 (by decide) rfl rfl rfl rfl (by omega) (by omega) (fun σ1006 H locs eσ1006 hH => ?_)
    have kf_69 : sI σ1006 h0 69 = z990 := (keepFA eσ1006 hMp (by decide)).trans kf_69
    have kp_68 : sI σ1006 (L 68) = sI σL (L 68) := (keepAA eσ1006 hMp (by decide) (by decide) (by decide)).trans kp_68
    have hle := hle.tr (show HLe σ1003 σ1006 by rw [eσ1006]; exact HLe.uI)
    have hfr := hfr.aI hMp (by decide) eσ1006 (by decide)
    try clear hz1004
    clear vz1005
    refine lv_aload_n hx hb dX12_forget_76 rfl (lv_at hl 1 rfl) ?_
    refine m_getA 65 hF hH fk_X12_211 dX12_forget_77 (by decide) rfl ?_
    refine lv_iload_n hx hb dX12_forget_80 rfl (lv_at hl 0 rfl) ?_
    refine lv_aload_n hx hb dX12_forget_81 rfl (lv_at hl 1 rfl) ?_
    refine m_getA 65 hF hH fk_X12_211 dX12_forget_82 (by decide) rfl ?_
    refine lv_iload_n hx hb dX12_forget_85 rfl (lv_at hl 0 rfl) ?_
    refine lv_iconst (v := 1) hx hb dX12_forget_86 (by decide) ?_
    refine lv_iadd hx hb dX12_forget_87 ?_
    refine lv_topi (fun z1007 ez1007 => ?_)
    try have hz1007 := i_add ez1007 (by omega) (by omega)
    refine m_lald 65 16 hF hH dX12_forget_88 (by decide) rfl rfl (by omega) (by omega) (fun z1008 ez1008 => ?_)
    have hMp := hH.2
    refine m_last 65 16 hF hH dX12_forget_89 (by decide) rfl rfl (by omega) (by omega) (fun σ1009 H locs eσ1009 hH => ?_)
    have kf_69 : sI σ1009 h0 69 = z990 := (keepFJ eσ1009).trans kf_69
    have kp_68 : sI σ1009 (L 68) = sI σL (L 68) := (keepAJ eσ1009).trans kp_68
    have hle := hle.tr (show HLe σ1006 σ1009 by rw [eσ1009]; exact HLe.uJ)
    have hfr := hfr.aJ hMp (by decide) eσ1009 (by decide)
    try clear hz1007
    refine lv_aload_n hx hb dX12_forget_90 rfl (lv_at hl 1 rfl) ?_
    refine m_getA 66 hF hH fk_X12_214 dX12_forget_91 (by decide) rfl ?_
    refine lv_iload_n hx hb dX12_forget_94 rfl (lv_at hl 0 rfl) ?_
    refine lv_aload_n hx hb dX12_forget_95 rfl (lv_at hl 1 rfl) ?_
    refine m_getA 66 hF hH fk_X12_214 dX12_forget_96 (by decide) rfl ?_
    refine lv_iload_n hx hb dX12_forget_99 rfl (lv_at hl 0 rfl) ?_
    refine lv_iconst (v := 1) hx hb dX12_forget_100 (by decide) ?_
    refine lv_iadd hx hb dX12_forget_101 ?_
    refine lv_topi (fun z1010 ez1010 => ?_)
    try have hz1010 := i_add ez1010 (by omega) (by omega)
    refine m_lald 66 16 hF hH dX12_forget_102 (by decide) rfl rfl (by omega) (by omega) (fun z1011 ez1011 => ?_)
    have hMp := hH.2
    refine m_last 66 16 hF hH dX12_forget_103 (by decide) rfl rfl (by omega) (by omega) (fun σ1012 H locs eσ1012 hH => ?_)
    have kf_69 : sI σ1012 h0 69 = z990 := (keepFJ eσ1012).trans kf_69
    have kp_68 : sI σ1012 (L 68) = sI σL (L 68) := (keepAJ eσ1012).trans kp_68
    have hle := hle.tr (show HLe σ1009 σ1012 by rw [eσ1012]; exact HLe.uJ)
    have hfr := hfr.aJ hMp (by decide) eσ1012 (by decide)
    try clear hz1010
    refine lv_aload_n hx hb dX12_forget_104 rfl (lv_at hl 1 rfl) ?_
    refine m_getA 67 hF hH fk_X12_217 dX12_forget_105 (by decide) rfl ?_
    refine lv_iload_n hx hb dX12_forget_108 rfl (lv_at hl 0 rfl) ?_
    refine lv_aload_n hx hb dX12_forget_109 rfl (lv_at hl 1 rfl) ?_
    refine m_getA 67 hF hH fk_X12_217 dX12_forget_110 (by decide) rfl ?_
    refine lv_iload_n hx hb dX12_forget_113 rfl (lv_at hl 0 rfl) ?_
    refine lv_iconst (v := 1) hx hb dX12_forget_114 (by decide) ?_
    refine lv_iadd hx hb dX12_forget_115 ?_
    refine lv_topi (fun z1013 ez1013 => ?_)
    try have hz1013 := i_add ez1013 (by omega) (by omega)
    refine m_iald 67 16 hF hH dX12_forget_116 (by decide) rfl rfl 0 7 rfl rfl (by omega) (by omega) (fun z1014 ez1014 vz1014 => ?_)
    have hMp := hH.2
    refine m_iast 67 16 hF hH dX12_forget_117 (by decide) rfl rfl 0 7 rfl rfl (by omega) (by omega) (by omega) (fun σ1015 H locs eσ1015 hH => ?_)
    have kf_69 : sI σ1015 h0 69 = z990 := (keepFA eσ1015 hMp (by decide)).trans kf_69
    have kp_68 : sI σ1015 (L 68) = sI σL (L 68) := (keepAA eσ1015 hMp (by decide) (by decide) (by decide)).trans kp_68
    have hle := hle.tr (show HLe σ1012 σ1015 by rw [eσ1015]; exact HLe.uI)
    have hfr := hfr.aI hMp (by decide) eσ1015 (by decide)
    try clear hz1013
    clear vz1014
    refine lv_aload_n hx hb dX12_forget_118 rfl (lv_at hl 1 rfl) ?_
    refine m_getA 68 hF hH fk_X12_220 dX12_forget_119 (by decide) rfl ?_
    refine lv_iload_n hx hb dX12_forget_122 rfl (lv_at hl 0 rfl) ?_
    refine lv_aload_n hx hb dX12_forget_123 rfl (lv_at hl 1 rfl) ?_
    refine m_getA 68 hF hH fk_X12_220 dX12_forget_124 (by decide) rfl ?_
    refine lv_iload_n hx hb dX12_forget_127 rfl (lv_at hl 0 rfl) ?_
    refine lv_iconst (v := 1) hx hb dX12_forget_128 (by decide) ?_
    refine lv_iadd hx hb dX12_forget_129 ?_
    refine lv_topi (fun z1016 ez1016 => ?_)
    try have hz1016 := i_add ez1016 (by omega) (by omega)
    refine m_iald 68 16 hF hH dX12_forget_130 (by decide) rfl rfl 0 15 rfl rfl (by omega) (by omega) (fun z1017 ez1017 vz1017 => ?_)
    have wz1017 := i_eq (ez1017.trans (congrFun kp_68 _))
    have kp0_68 := kp_68
    have hMp := hH.2
    refine m_iast 68 16 hF hH dX12_forget_131 (by decide) rfl rfl 0 15 rfl rfl (by omega) (by omega) (by omega) (fun σ1018 H locs eσ1018 hH => ?_)
    have kf_69 : sI σ1018 h0 69 = z990 := (keepFA eσ1018 hMp (by decide)).trans kf_69
    have kp_68 : sI σ1018 (L 68) = upd (sI σL (L 68)) x992.toInt.toNat z1017 := by rw [eσ1018]; exact u2_upd.trans (congrArg (fun f => upd f x992.toInt.toNat z1017) kp_68)
    have hle := hle.tr (show HLe σ1015 σ1018 by rw [eσ1018]; exact HLe.uI)
    have hfr := hfr.aI hMp (by decide) eσ1018 (by decide)
    refine lv_aload_n hx hb dX12_forget_132 rfl (lv_at hl 1 rfl) ?_
    refine m_getA 69 hF hH fk_X12_223 dX12_forget_133 (by decide) rfl ?_
    refine lv_iload_n hx hb dX12_forget_136 rfl (lv_at hl 0 rfl) ?_
    refine lv_aload_n hx hb dX12_forget_137 rfl (lv_at hl 1 rfl) ?_
    refine m_getA 69 hF hH fk_X12_223 dX12_forget_138 (by decide) rfl ?_
    refine lv_iload_n hx hb dX12_forget_141 rfl (lv_at hl 0 rfl) ?_
    refine lv_iconst (v := 1) hx hb dX12_forget_142 (by decide) ?_
    refine lv_iadd hx hb dX12_forget_143 ?_
    refine lv_topi (fun z1019 ez1019 => ?_)
    try have hz1019 := i_add ez1019 (by omega) (by omega)
    refine m_lald 69 16 hF hH dX12_forget_144 (by decide) rfl rfl (by omega) (by omega) (fun z1020 ez1020 => ?_)
    have hMp := hH.2
    refine m_last 69 16 hF hH dX12_forget_145 (by decide) rfl rfl (by omega) (by omega) (fun σ1021 H locs eσ1021 hH => ?_)
    have kf_69 : sI σ1021 h0 69 = z990 := (keepFJ eσ1021).trans kf_69
    have kp_68 : sI σ1021 (L 68) = upd (sI σL (L 68)) x992.toInt.toNat z1017 := (keepAJ eσ1021).trans kp_68
    have hle := hle.tr (show HLe σ1018 σ1021 by rw [eσ1021]; exact HLe.uJ)
    have hfr := hfr.aJ hMp (by decide) eσ1021 (by decide)
    try clear hz1019
    refine lv_aload_n hx hb dX12_forget_146 rfl (lv_at hl 1 rfl) ?_
    refine m_getA 70 hF hH fk_X12_226 dX12_forget_147 (by decide) rfl ?_
    refine lv_iload_n hx hb dX12_forget_150 rfl (lv_at hl 0 rfl) ?_
    refine lv_aload_n hx hb dX12_forget_151 rfl (lv_at hl 1 rfl) ?_
    refine m_getA 70 hF hH fk_X12_226 dX12_forget_152 (by decide) rfl ?_
    refine lv_iload_n hx hb dX12_forget_155 rfl (lv_at hl 0 rfl) ?_
    refine lv_iconst (v := 1) hx hb dX12_forget_156 (by decide) ?_
    refine lv_iadd hx hb dX12_forget_157 ?_
    refine lv_topi (fun z1022 ez1022 => ?_)
    try have hz1022 := i_add ez1022 (by omega) (by omega)
    refine m_iald 70 16 hF hH dX12_forget_158 (by decide) rfl rfl 0 79 rfl rfl (by omega) (by omega) (fun z1023 ez1023 vz1023 => ?_)
    have hMp := hH.2
    refine m_iast 70 16 hF hH dX12_forget_159 (by decide) rfl rfl 0 79 rfl rfl (by omega) (by omega) (by omega) (fun σ1024 H locs eσ1024 hH => ?_)
    have kf_69 : sI σ1024 h0 69 = z990 := (keepFA eσ1024 hMp (by decide)).trans kf_69
    have kp_68 : sI σ1024 (L 68) = upd (sI σL (L 68)) x992.toInt.toNat z1017 := (keepAA eσ1024 hMp (by decide) (by decide) (by decide)).trans kp_68
    have hle := hle.tr (show HLe σ1021 σ1024 by rw [eσ1024]; exact HLe.uI)
    have hfr := hfr.aI hMp (by decide) eσ1024 (by decide)
    try clear hz1022
    clear vz1023
    refine lv_aload_n hx hb dX12_forget_160 rfl (lv_at hl 1 rfl) ?_
    refine m_getA 71 hF hH fk_X12_229 dX12_forget_161 (by decide) rfl ?_
    refine lv_iload_n hx hb dX12_forget_164 rfl (lv_at hl 0 rfl) ?_
    refine lv_aload_n hx hb dX12_forget_165 rfl (lv_at hl 1 rfl) ?_
    refine m_getA 71 hF hH fk_X12_229 dX12_forget_166 (by decide) rfl ?_
    refine lv_iload_n hx hb dX12_forget_169 rfl (lv_at hl 0 rfl) ?_
    refine lv_iconst (v := 1) hx hb dX12_forget_170 (by decide) ?_
    refine lv_iadd hx hb dX12_forget_171 ?_
    refine lv_topi (fun z1025 ez1025 => ?_)
    try have hz1025 := i_add ez1025 (by omega) (by omega)
    refine m_lald 71 16 hF hH dX12_forget_172 (by decide) rfl rfl (by omega) (by omega) (fun z1026 ez1026 => ?_)
    have hMp := hH.2
    refine m_last 71 16 hF hH dX12_forget_173 (by decide) rfl rfl (by omega) (by omega) (fun σ1027 H locs eσ1027 hH => ?_)
    have kf_69 : sI σ1027 h0 69 = z990 := (keepFJ eσ1027).trans kf_69
    have kp_68 : sI σ1027 (L 68) = upd (sI σL (L 68)) x992.toInt.toNat z1017 := (keepAJ eσ1027).trans kp_68
    have hle := hle.tr (show HLe σ1024 σ1027 by rw [eσ1027]; exact HLe.uJ)
    have hfr := hfr.aJ hMp (by decide) eσ1027 (by decide)
    try clear hz1025
    refine lv_aload_n hx hb dX12_forget_174 rfl (lv_at hl 1 rfl) ?_
    refine m_getA 72 hF hH fk_X12_232 dX12_forget_175 (by decide) rfl ?_
    refine lv_iload_n hx hb dX12_forget_178 rfl (lv_at hl 0 rfl) ?_
    refine lv_aload_n hx hb dX12_forget_179 rfl (lv_at hl 1 rfl) ?_
    refine m_getA 72 hF hH fk_X12_232 dX12_forget_180 (by decide) rfl ?_
    refine lv_iload_n hx hb dX12_forget_183 rfl (lv_at hl 0 rfl) ?_
    refine lv_iconst (v := 1) hx hb dX12_forget_184 (by decide) ?_
    refine lv_iadd hx hb dX12_forget_185 ?_
    refine lv_topi (fun z1028 ez1028 => ?_)
    try have hz1028 := i_add ez1028 (by omega) (by omega)
    refine m_lald 72 16 hF hH dX12_forget_186 (by decide) rfl rfl (by omega) (by omega) (fun z1029 ez1029 => ?_)
    have hMp := hH.2
    refine m_last 72 16 hF hH dX12_forget_187 (by decide) rfl rfl (by omega) (by omega) (fun σ1030 H locs eσ1030 hH => ?_)
    have kf_69 : sI σ1030 h0 69 = z990 := (keepFJ eσ1030).trans kf_69
    have kp_68 : sI σ1030 (L 68) = upd (sI σL (L 68)) x992.toInt.toNat z1017 := (keepAJ eσ1030).trans kp_68
    have hle := hle.tr (show HLe σ1027 σ1030 by rw [eσ1030]; exact HLe.uJ)
    have hfr := hfr.aJ hMp (by decide) eσ1030 (by decide)
    try clear hz1028
    refine lv_aload_n hx hb dX12_forget_188 rfl (lv_at hl 1 rfl) ?_
    refine m_getA 73 hF hH fk_X12_235 dX12_forget_189 (by decide) rfl ?_
    refine lv_iload_n hx hb dX12_forget_192 rfl (lv_at hl 0 rfl) ?_
    refine lv_aload_n hx hb dX12_forget_193 rfl (lv_at hl 1 rfl) ?_
    refine m_getA 73 hF hH fk_X12_235 dX12_forget_194 (by decide) rfl ?_
    refine lv_iload_n hx hb dX12_forget_197 rfl (lv_at hl 0 rfl) ?_
    refine lv_iconst (v := 1) hx hb dX12_forget_198 (by decide) ?_
    refine lv_iadd hx hb dX12_forget_199 ?_
    refine lv_topi (fun z1031 ez1031 => ?_)
    try have hz1031 := i_add ez1031 (by omega) (by omega)
    refine m_zald 73 16 hF hH dX12_forget_200 (by decide) rfl rfl 0 1 rfl rfl (by omega) (by omega) (fun z1032 ez1032 vz1032 => ?_)
    have hMp := hH.2
    refine m_zast 73 16 hF hH dX12_forget_201 (by decide) rfl rfl rfl rfl (by omega) (by omega) (fun σ1033 H locs eσ1033 hH => ?_)
    have kf_69 : sI σ1033 h0 69 = z990 := (keepFA eσ1033 hMp (by decide)).trans kf_69
    have kp_68 : sI σ1033 (L 68) = upd (sI σL (L 68)) x992.toInt.toNat z1017 := (keepAA eσ1033 hMp (by decide) (by decide) (by decide)).trans kp_68
    have hle := hle.tr (show HLe σ1030 σ1033 by rw [eσ1033]; exact HLe.uI)
    have hfr := hfr.aI hMp (by decide) eσ1033 (by decide)
    try clear hz1031
    clear vz1032
    refine lv_aload_n hx hb dX12_forget_202 rfl (lv_at hl 1 rfl) ?_
    refine m_getA 74 hF hH fk_X12_238 dX12_forget_203 (by decide) rfl ?_
    refine lv_iload_n hx hb dX12_forget_206 rfl (lv_at hl 0 rfl) ?_
    refine lv_aload_n hx hb dX12_forget_207 rfl (lv_at hl 1 rfl) ?_
    refine m_getA 74 hF hH fk_X12_238 dX12_forget_208 (by decide) rfl ?_
    refine lv_iload_n hx hb dX12_forget_211 rfl (lv_at hl 0 rfl) ?_
    refine lv_iconst (v := 1) hx hb dX12_forget_212 (by decide) ?_
    refine lv_iadd hx hb dX12_forget_213 ?_
    refine lv_topi (fun z1034 ez1034 => ?_)
    try have hz1034 := i_add ez1034 (by omega) (by omega)
    refine m_iald 74 16 hF hH dX12_forget_214 (by decide) rfl rfl 0 4000 rfl rfl (by omega) (by omega) (fun z1035 ez1035 vz1035 => ?_)
    have hMp := hH.2
    refine m_iast 74 16 hF hH dX12_forget_215 (by decide) rfl rfl 0 4000 rfl rfl (by omega) (by omega) (by omega) (fun σ1036 H locs eσ1036 hH => ?_)
    have kf_69 : sI σ1036 h0 69 = z990 := (keepFA eσ1036 hMp (by decide)).trans kf_69
    have kp_68 : sI σ1036 (L 68) = upd (sI σL (L 68)) x992.toInt.toNat z1017 := (keepAA eσ1036 hMp (by decide) (by decide) (by decide)).trans kp_68
    have hle := hle.tr (show HLe σ1033 σ1036 by rw [eσ1036]; exact HLe.uI)
    have hfr := hfr.aI hMp (by decide) eσ1036 (by decide)
    try clear hz1034
    clear vz1035
    refine lv_iconst (v := 0) hx hb dX12_forget_216 (by decide) ?_
    refine lv_istore_n (lv' := [(3, .int 0), (2, .int x992), (0, .ref h0)]) hx hb dX12_forget_217 rfl hl (by decide) rfl (fun ls hl => ?_)
    have hl : lv_has ls 4 [(3, .int 0), (2, .int x992), (0, .ref h0)] := lv_sub hl [0, 1, 2] rfl
    refine m_loop (β := Int32) (L0 := fun x => [(3, .int x), (2, .int x992), (0, .ref h0)]) (I := fun x σ2 => HLe σ σ2 ∧ Fr h0 L [69] [61, 62, 63, 64, 65, 66, 67, 68, 69, 70, 71, 72, 73, 74, 75] σ σ2 ∧ ((0 ≤ x.toInt ∧ x.toInt ≤ 4000) ∧ (sI σ2 (L 68) = upd (sI σL (L 68)) x992.toInt.toNat z1017) ∧ (sI σ2 h0 69 = z990))) (fun x σ2 => (4000 - x.toInt).toNat) (0) hl ⟨hle, hfr, ⟨by (try dsimp only); omega, kp_68, kf_69⟩⟩ hH (fun x σL1037 ls H locs hl hI hH ih1038 => ?_)
    obtain ⟨x1039, hx1⟩ : ∃ y, y = x := ⟨_, rfl⟩
    subst hx1
    obtain ⟨hle, hfr, hI⟩ := hI
    have hl : lv_has ls 4 [(3, .int x1039), (2, .int x992), (0, .ref h0)] := hl
    have hI : (0 ≤ x1039.toInt ∧ x1039.toInt ≤ 4000) ∧ (sI σL1037 (L 68) = upd (sI σL (L 68)) x992.toInt.toNat z1017) ∧ (sI σL1037 h0 69 = z990) := hI
    have rg_x1039 := i_range x1039
    obtain ⟨hI, kp_68, kf_69⟩ := hI
    refine lv_iload_n hx hb dX12_forget_218 rfl (lv_at hl 0 rfl) ?_
    refine lv_aload_n hx hb dX12_forget_219 rfl (lv_at hl 2 rfl) ?_
    refine m_getA 74 hF hH fk_X12_238 dX12_forget_220 (by decide) rfl ?_
    refine lv_iload_n hx hb dX12_forget_223 rfl (lv_at hl 1 rfl) ?_
    refine m_iald 74 16 hF hH dX12_forget_224 (by decide) rfl rfl 0 4000 rfl rfl (by omega) (by omega) (fun z1040 ez1040 vz1040 => ?_)
    refine lv_icmp_ge (tgt := 260) hx hb dX12_forget_225 rfl (fun h1041 => ?_) (fun h1041 => ?_)
    · have ch1041 := i_le h1041
      obtain ⟨z1042, ez1042⟩ : ∃ z : Int32, z = x992 + Int32.ofInt 1 := ⟨_, rfl⟩
      have hz1042 := i_add ez1042 (by rw [show (Int32.ofInt 1).toInt = 1 from rfl]; omega) (by rw [show (Int32.ofInt 1).toInt = 1 from rfl]; omega)
      rw [show (Int32.ofInt 1).toInt = 1 from rfl] at hz1042
      refine lv_iinc (lv' := [(2, .int z1042), (3, .int x1039), (0, .ref h0)]) (k := 1) (v := z1042) hx hb dX12_forget_260 hl rfl ez1042.symm (by decide) rfl (fun ls hl => ?_)
      refine lv_goto (tgt := 12) hx hb dX12_forget_263 rfl ?_
      have hl : lv_has ls 4 [(2, .int z1042), (0, .ref h0)] := lv_sub hl [0, 2] rfl
      exact ih (z1042) σL1037 ls H locs (by (try dsimp only); omega) hl ⟨hle, hfr, ⟨by (try dsimp only); omega, (fun i => by rw [kp_68, upd_at]; (try dsimp only); by_cases hi : i = x992.toInt.toNat; rw [if_pos hi, if_pos (by omega), ez1017, congrFun kp0_68 _, hsh, if_neg (by omega)]; congr 1; omega; rw [if_neg hi, hsh]; by_cases hj : q.toInt.toNat ≤ i ∧ i < x992.toInt.toNat; rw [if_pos hj, if_pos (by omega)]; rw [if_neg hj, if_neg (by omega)]), kf_69⟩⟩ hH
    · have ch1041 := i_nle h1041
      refine lv_aload_n hx hb dX12_forget_228 rfl (lv_at hl 2 rfl) ?_
      refine m_getA 75 hF hH fk_X12_242 dX12_forget_229 (by decide) rfl ?_
      refine lv_sipush (v := 4000) hx hb dX12_forget_232 (by decide) ?_
      refine lv_iload_n hx hb dX12_forget_235 rfl (lv_at hl 1 rfl) ?_
      refine lv_imul hx hb dX12_forget_236 ?_
      refine lv_topi (fun z1043 ez1043 => ?_)
      try have hz1043 := i_mulk 4000 rfl ez1043 (by omega) (by omega)
      refine lv_iload_n hx hb dX12_forget_237 rfl (lv_at hl 0 rfl) ?_
      refine lv_iadd hx hb dX12_forget_238 ?_
      refine lv_topi (fun z1044 ez1044 => ?_)
      try have hz1044 := i_add ez1044 (by omega) (by omega)
      refine lv_aload_n hx hb dX12_forget_239 rfl (lv_at hl 2 rfl) ?_
      refine m_getA 75 hF hH fk_X12_242 dX12_forget_240 (by decide) rfl ?_
      refine lv_sipush (v := 4000) hx hb dX12_forget_243 (by decide) ?_
      refine lv_iload_n hx hb dX12_forget_246 rfl (lv_at hl 1 rfl) ?_
      refine lv_iconst (v := 1) hx hb dX12_forget_247 (by decide) ?_
      refine lv_iadd hx hb dX12_forget_248 ?_
      refine lv_topi (fun z1045 ez1045 => ?_)
      try have hz1045 := i_add ez1045 (by omega) (by omega)
      refine lv_imul hx hb dX12_forget_249 ?_
      refine lv_topi (fun z1046 ez1046 => ?_)
      try have hz1046 := i_mulk 4000 rfl ez1046 (by omega) (by omega)
      refine lv_iload_n hx hb dX12_forget_250 rfl (lv_at hl 0 rfl) ?_
      refine lv_iadd hx hb dX12_forget_251 ?_
      refine lv_topi (fun z1047 ez1047 => ?_)
      try have hz1047 := i_add ez1047 (by omega) (by omega)
      refine m_bald 75 64000 hF hH dX12_forget_252 (by decide) rfl rfl (-128) 127 rfl rfl (by omega) (by omega) (fun z1048 ez1048 vz1048 => ?_)
      have hMp := hH.2
      refine m_bast 75 64000 hF hH dX12_forget_253 (by decide) rfl rfl rfl rfl (by omega) (by omega) (fun σ1049 H locs eσ1049 hH => ?_)
      have kf_69 : sI σ1049 h0 69 = z990 := (keepFA eσ1049 hMp (by decide)).trans kf_69
      have kp_68 : sI σ1049 (L 68) = upd (sI σL (L 68)) x992.toInt.toNat z1017 := (keepAA eσ1049 hMp (by decide) (by decide) (by decide)).trans kp_68
      have hle := hle.tr (show HLe σL1037 σ1049 by rw [eσ1049]; exact HLe.uI)
      have hfr := hfr.aI hMp (by decide) eσ1049 (by decide)
      try clear hz1043
      try clear hz1044
      try clear hz1045
      try clear hz1046
      try clear hz1047
      clear vz1048
      obtain ⟨z1050, ez1050⟩ : ∃ z : Int32, z = x1039 + Int32.ofInt 1 := ⟨_, rfl⟩
      have hz1050 := i_add ez1050 (by rw [show (Int32.ofInt 1).toInt = 1 from rfl]; omega) (by rw [show (Int32.ofInt 1).toInt = 1 from rfl]; omega)
      rw [show (Int32.ofInt 1).toInt = 1 from rfl] at hz1050
      refine lv_iinc (lv' := [(3, .int z1050), (2, .int x992), (0, .ref h0)]) (k := 0) (v := z1050) hx hb dX12_forget_254 hl rfl ez1050.symm (by decide) rfl (fun ls hl => ?_)
      refine lv_goto (tgt := 218) hx hb dX12_forget_257 rfl ?_
      have hl : lv_has ls 4 [(3, .int z1050), (2, .int x992), (0, .ref h0)] := lv_sub hl [0, 1, 2] rfl
      exact ih1038 (z1050) σ1049 ls H locs (by (try dsimp only); omega) hl ⟨hle, hfr, ⟨by (try dsimp only); omega, kp_68, kf_69⟩⟩ hH
theorem dX12_late_0 : decode cX12_late 0 = .ok (.lload_n 2, 1) := by decide +kernel
theorem dX12_late_1 : decode cX12_late 1 = .ok (.lconst 0, 1) := by decide +kernel
theorem dX12_late_2 : decode cX12_late 2 = .ok (.lcmp, 1) := by decide +kernel
theorem dX12_late_3 : decode cX12_late 3 = .ok (.ifCond .eq 19, 3) := by decide +kernel
theorem dX12_late_6 : decode cX12_late 6 = .ok (.aload_n 0, 1) := by decide +kernel
theorem dX12_late_7 : decode cX12_late 7 = .ok (.bipush 9, 2) := by decide +kernel
theorem dX12_late_9 : decode cX12_late 9 = .ok (.invokevirtual 456, 3) := by decide +kernel
theorem dX12_late_12 : decode cX12_late 12 = .ok (.aload_n 0, 1) := by decide +kernel
theorem dX12_late_13 : decode cX12_late 13 = .ok (.bipush 64, 2) := by decide +kernel
theorem dX12_late_15 : decode cX12_late 15 = .ok (.iconst 2, 1) := by decide +kernel
theorem dX12_late_16 : decode cX12_late 16 = .ok (.ldc2_w 459, 3) := by decide +kernel
theorem dX12_late_19 : decode cX12_late 19 = .ok (.invokevirtual 376, 3) := by decide +kernel
theorem dX12_late_22 : decode cX12_late 22 = .ok (.aload_n 0, 1) := by decide +kernel
theorem dX12_late_23 : decode cX12_late 23 = .ok (.getfield 371, 3) := by decide +kernel
theorem dX12_late_26 : decode cX12_late 26 = .ok (.istore 4, 2) := by decide +kernel
theorem dX12_late_28 : decode cX12_late 28 = .ok (.aload_n 0, 1) := by decide +kernel
theorem dX12_late_29 : decode cX12_late 29 = .ok (.lload_n 2, 1) := by decide +kernel
theorem dX12_late_30 : decode cX12_late 30 = .ok (.aload_n 0, 1) := by decide +kernel
theorem dX12_late_31 : decode cX12_late 31 = .ok (.getfield 202, 3) := by decide +kernel
theorem dX12_late_34 : decode cX12_late 34 = .ok (.iload_n 1, 1) := by decide +kernel
theorem dX12_late_35 : decode cX12_late 35 = .ok (.iaload, 1) := by decide +kernel
theorem dX12_late_36 : decode cX12_late 36 = .ok (.aload_n 0, 1) := by decide +kernel
theorem dX12_late_37 : decode cX12_late 37 = .ok (.getfield 205, 3) := by decide +kernel
theorem dX12_late_40 : decode cX12_late 40 = .ok (.iload_n 1, 1) := by decide +kernel
theorem dX12_late_41 : decode cX12_late 41 = .ok (.iaload, 1) := by decide +kernel
theorem dX12_late_42 : decode cX12_late 42 = .ok (.iconst 0, 1) := by decide +kernel
theorem dX12_late_43 : decode cX12_late 43 = .ok (.ldc2_w 573, 3) := by decide +kernel
theorem dX12_late_46 : decode cX12_late 46 = .ok (.aload_n 0, 1) := by decide +kernel
theorem dX12_late_47 : decode cX12_late 47 = .ok (.getfield 208, 3) := by decide +kernel
theorem dX12_late_50 : decode cX12_late 50 = .ok (.iload_n 1, 1) := by decide +kernel
theorem dX12_late_51 : decode cX12_late 51 = .ok (.baload, 1) := by decide +kernel
theorem dX12_late_52 : decode cX12_late 52 = .ok (.ifCond .eq 9, 3) := by decide +kernel
theorem dX12_late_55 : decode cX12_late 55 = .ok (.ldc2_w 410, 3) := by decide +kernel
theorem dX12_late_58 : decode cX12_late 58 = .ok (.goto 4, 3) := by decide +kernel
theorem dX12_late_61 : decode cX12_late 61 = .ok (.lconst 0, 1) := by decide +kernel
theorem dX12_late_62 : decode cX12_late 62 = .ok (.lor, 1) := by decide +kernel
theorem dX12_late_63 : decode cX12_late 63 = .ok (.aload_n 0, 1) := by decide +kernel
theorem dX12_late_64 : decode cX12_late 64 = .ok (.getfield 211, 3) := by decide +kernel
theorem dX12_late_67 : decode cX12_late 67 = .ok (.iload_n 1, 1) := by decide +kernel
theorem dX12_late_68 : decode cX12_late 68 = .ok (.laload, 1) := by decide +kernel
theorem dX12_late_69 : decode cX12_late 69 = .ok (.aload_n 0, 1) := by decide +kernel
theorem dX12_late_70 : decode cX12_late 70 = .ok (.getfield 214, 3) := by decide +kernel
theorem dX12_late_73 : decode cX12_late 73 = .ok (.iload_n 1, 1) := by decide +kernel
theorem dX12_late_74 : decode cX12_late 74 = .ok (.laload, 1) := by decide +kernel
theorem dX12_late_75 : decode cX12_late 75 = .ok (.aload_n 0, 1) := by decide +kernel
theorem dX12_late_76 : decode cX12_late 76 = .ok (.getfield 118, 3) := by decide +kernel
theorem dX12_late_79 : decode cX12_late 79 = .ok (.aload_n 0, 1) := by decide +kernel
theorem dX12_late_80 : decode cX12_late 80 = .ok (.getfield 217, 3) := by decide +kernel
theorem dX12_late_83 : decode cX12_late 83 = .ok (.iload_n 1, 1) := by decide +kernel
theorem dX12_late_84 : decode cX12_late 84 = .ok (.iaload, 1) := by decide +kernel
theorem dX12_late_85 : decode cX12_late 85 = .ok (.laload, 1) := by decide +kernel
theorem dX12_late_86 : decode cX12_late 86 = .ok (.invokevirtual 467, 3) := by decide +kernel
theorem dX12_late_89 : decode cX12_late 89 = .ok (.aload_n 0, 1) := by decide +kernel
theorem dX12_late_90 : decode cX12_late 90 = .ok (.aload_n 0, 1) := by decide +kernel
theorem dX12_late_91 : decode cX12_late 91 = .ok (.getfield 199, 3) := by decide +kernel
theorem dX12_late_94 : decode cX12_late 94 = .ok (.iload_n 1, 1) := by decide +kernel
theorem dX12_late_95 : decode cX12_late 95 = .ok (.iaload, 1) := by decide +kernel
theorem dX12_late_96 : decode cX12_late 96 = .ok (.aload_n 0, 1) := by decide +kernel
theorem dX12_late_97 : decode cX12_late 97 = .ok (.getfield 368, 3) := by decide +kernel
theorem dX12_late_100 : decode cX12_late 100 = .ok (.iload 4, 2) := by decide +kernel
theorem dX12_late_102 : decode cX12_late 102 = .ok (.invokevirtual 429, 3) := by decide +kernel
theorem dX12_late_105 : decode cX12_late 105 = .ok (.return_, 1) := by decide +kernel
set_option maxRecDepth 100000 in
set_option maxHeartbeats 4000000 in
theorem c_X12_late (l : Launch) (D : va_G) (t : Nat → ClassId) (h0 : Nat) (L : Nat → Nat) (σ : HS) (hO : OK ph τ0 σ) (hM : MdI h0 L σ) (q : Int32) (v : Int64) (hz : 0 ≤ q.toInt ∧ q.toInt ≤ 15) (sz : Nat) : HMv ph τ0 l D t yX12_late cX12_late 5 ({ frames := 2, cells := 0, slots := 0, locals := 74 }) σ sz [.ref h0, .int q, .long v] 0 0 (fun σ' => MdI h0 L σ' ∧ Fr h0 L [91] [27, 28, 76] σ σ' ∧ (True)) := by
  refine h_go hO (by decide) (Nat.le_of_ble_eq_true rfl) ?_
  intro p e s m below meth c ls A hF hr hlk hAe hH0 hA hl
  unfold hB
  rw [hAe]
  clear hAe
  have hF : FX p m c cX12_late 5 s _ RX12 D t := hF
  have hx := hF.1.1
  have hb := hF.1.2.1
  have hH : MT D t A s.heap h0 L σ s.heap [] := ⟨hH0, hM⟩
  have hle : HLe σ σ := HLe.rf
  have hfr : Fr h0 L [91] [27, 28, 76] σ σ := Fr.rf
  have kl_0 : (0 : Int64).toInt = 0 := rfl
  have kl_3 : (3 : Int64).toInt = 3 := rfl
  have kl_4 : (4 : Int64).toInt = 4 := rfl
  have kl_9 : (9 : Int64).toInt = 9 := rfl
  have k_0 : (0 : Int32).toInt = 0 := rfl
  have k_2 : (2 : Int32).toInt = 2 := rfl
  have k_9 : (9 : Int32).toInt = 9 := rfl
  have k_64 : (64 : Int32).toInt = 64 := rfl
  have rg_1 := i_range q
  have hl : lv_has ls 5 [(0, .ref h0), (1, .int q), (2, .long v)] := hl
  refine lv_lload_n hx hb dX12_late_0 rfl (lv_at hl 2 rfl) ?_
  refine lv_lconst (v := 0) hx hb dX12_late_1 (by decide) ?_
  refine W.lcmp hx hb dX12_late_2 ?_
  refine lv_topi (fun z1051 ez1051 => ?_)
  have hz1051 := l_cmp ez1051
  refine m_join (β := Unit) 22 (L0 := fun x => [(2, .long v), (1, .int q), (0, .ref h0)]) (I := fun x σ2 => HLe σ σ2 ∧ Fr h0 L [91] [27, 28, 76] σ σ2 ∧ ((True))) hl hH (fun x σJ1053 ls H locs hl hI hH => ?_) (fun jn1052 => ?_)
  · obtain ⟨hle, hfr, hI⟩ := hI
    have hl : lv_has ls 5 [(2, .long v), (1, .int q), (0, .ref h0)] := hl
    have hI : (True) := hI
    refine lv_aload_n hx hb dX12_late_22 rfl (lv_at hl 2 rfl) ?_
    refine m_getI hF hH fk_X12_371 dX12_late_23 0 1200 rfl rfl (fun z1054 ez1054 vz1054 => ?_)
    have wz1054 := i_eq ez1054
    refine lv_istore (lv' := [(4, .int z1054), (2, .long v), (1, .int q), (0, .ref h0)]) hx hb dX12_late_26 hl (by decide) rfl (fun ls hl => ?_)
    refine lv_aload_n hx hb dX12_late_28 rfl (lv_at hl 3 rfl) ?_
    refine lv_lload_n hx hb dX12_late_29 rfl (lv_at hl 1 rfl) ?_
    refine lv_aload_n hx hb dX12_late_30 rfl (lv_at hl 3 rfl) ?_
    refine m_getA 62 hF hH fk_X12_202 dX12_late_31 (by decide) rfl ?_
    refine lv_iload_n hx hb dX12_late_34 rfl (lv_at hl 2 rfl) ?_
    refine m_iald 62 16 hF hH dX12_late_35 (by decide) rfl rfl 0 65535 rfl rfl (by omega) (by omega) (fun z1055 ez1055 vz1055 => ?_)
    refine lv_aload_n hx hb dX12_late_36 rfl (lv_at hl 3 rfl) ?_
    refine m_getA 63 hF hH fk_X12_205 dX12_late_37 (by decide) rfl ?_
    refine lv_iload_n hx hb dX12_late_40 rfl (lv_at hl 2 rfl) ?_
    refine m_iald 63 16 hF hH dX12_late_41 (by decide) rfl rfl 0 65535 rfl rfl (by omega) (by omega) (fun z1056 ez1056 vz1056 => ?_)
    refine lv_iconst (v := 0) hx hb dX12_late_42 (by decide) ?_
    refine lv_ldc2 (v := 3) hx hb hF.1.2.2.2.1 (hF.1.2.2.2.2 _ (wc_48 1 rfl)) dX12_late_43 ?_
    refine lv_aload_n hx hb dX12_late_46 rfl (lv_at hl 3 rfl) ?_
    refine m_getA 64 hF hH fk_X12_208 dX12_late_47 (by decide) rfl ?_
    refine lv_iload_n hx hb dX12_late_50 rfl (lv_at hl 2 rfl) ?_
    refine m_zald 64 16 hF hH dX12_late_51 (by decide) rfl rfl 0 1 rfl rfl (by omega) (by omega) (fun z1057 ez1057 vz1057 => ?_)
    refine m_join (β := Unit) 89 (L0 := fun x => [(4, .int z1054), (1, .int q), (0, .ref h0)]) (I := fun x σ2 => HLe σ σ2 ∧ Fr h0 L [91] [27, 28, 76] σ σ2 ∧ ((True))) hl hH (fun x σJ1059 ls H locs hl hI hH => ?_) (fun jn1058 => ?_)
    · obtain ⟨hle, hfr, hI⟩ := hI
      have hl : lv_has ls 5 [(4, .int z1054), (1, .int q), (0, .ref h0)] := hl
      have hI : (True) := hI
      refine lv_aload_n hx hb dX12_late_89 rfl (lv_at hl 2 rfl) ?_
      refine lv_aload_n hx hb dX12_late_90 rfl (lv_at hl 2 rfl) ?_
      refine m_getA 61 hF hH fk_X12_199 dX12_late_91 (by decide) rfl ?_
      refine lv_iload_n hx hb dX12_late_94 rfl (lv_at hl 1 rfl) ?_
      refine m_iald 61 16 hF hH dX12_late_95 (by decide) rfl rfl 0 5 rfl rfl (by omega) (by omega) (fun z1060 ez1060 vz1060 => ?_)
      refine lv_aload_n hx hb dX12_late_96 rfl (lv_at hl 2 rfl) ?_
      refine m_getI hF hH fk_X12_368 dX12_late_97 0 85000 rfl rfl (fun z1061 ez1061 vz1061 => ?_)
      have wz1061 := i_eq ez1061
      refine lv_iload hx hb dX12_late_100 (lv_at hl 0 rfl) ?_
      refine m_cVv (As := [.int z1060, .int z1061, .int z1054]) (rest := []) hF hH hA mv_X12_429 (fun sz => c_X12_send l D t h0 L _ hH.1.2.2.2 hH.2 z1060 z1061 z1054 (by omega) sz) dX12_late_102 rfl rfl (by decide) rfl hl.1 (Nat.le_of_ble_eq_true rfl) (by decide) rfl (fun σ1063 H locs lσ1063 pz1062 hH => ?_)
      obtain ⟨fz1062, pz1062⟩ := pz1062
      have hle := hle.tr lσ1063
      have hfr := hfr.tr fz1062 (by decide) (by decide)
      exact h_retv hF hr hlk dX12_late_105 hH.1 hle ⟨hH.2, hfr, trivial⟩
    · skip
      refine lv_if_eq (tgt := 61) hx hb dX12_late_52 rfl (fun h1064 => ?_) (fun h1064 => ?_)
      · have ch1064 := i_eq h1064
        refine lv_lconst (v := 0) hx hb dX12_late_61 (by decide) ?_
        refine lv_lor hx hb dX12_late_62 ?_
        refine lv_topl (fun z1065 ez1065 => ?_)
        refine lv_aload_n hx hb dX12_late_63 rfl (lv_at hl 3 rfl) ?_
        refine m_getA 65 hF hH fk_X12_211 dX12_late_64 (by decide) rfl ?_
        refine lv_iload_n hx hb dX12_late_67 rfl (lv_at hl 2 rfl) ?_
        refine m_lald 65 16 hF hH dX12_late_68 (by decide) rfl rfl (by omega) (by omega) (fun z1066 ez1066 => ?_)
        refine lv_aload_n hx hb dX12_late_69 rfl (lv_at hl 3 rfl) ?_
        refine m_getA 66 hF hH fk_X12_214 dX12_late_70 (by decide) rfl ?_
        refine lv_iload_n hx hb dX12_late_73 rfl (lv_at hl 2 rfl) ?_
        refine m_lald 66 16 hF hH dX12_late_74 (by decide) rfl rfl (by omega) (by omega) (fun z1067 ez1067 => ?_)
        refine lv_aload_n hx hb dX12_late_75 rfl (lv_at hl 3 rfl) ?_
        refine m_getA 34 hF hH fk_X12_118 dX12_late_76 (by decide) rfl ?_
        refine lv_aload_n hx hb dX12_late_79 rfl (lv_at hl 3 rfl) ?_
        refine m_getA 67 hF hH fk_X12_217 dX12_late_80 (by decide) rfl ?_
        refine lv_iload_n hx hb dX12_late_83 rfl (lv_at hl 2 rfl) ?_
        refine m_iald 67 16 hF hH dX12_late_84 (by decide) rfl rfl 0 7 rfl rfl (by omega) (by omega) (fun z1068 ez1068 vz1068 => ?_)
        refine m_lald 34 8 hF hH dX12_late_85 (by decide) rfl rfl (by omega) (by omega) (fun z1069 ez1069 => ?_)
        refine m_cVv (As := [.long v, .int z1055, .int z1056, .int 0, .long z1065, .long z1066, .long z1067, .long z1069]) (rest := []) hF hH hA mv_X12_467 (fun sz => c_X12_header l D t h0 L _ hH.1.2.2.2 hH.2 v z1055 z1056 0 z1065 z1066 z1067 z1069  sz) dX12_late_86 rfl rfl (by decide) rfl hl.1 (Nat.le_of_ble_eq_true rfl) (by decide) rfl (fun σ1071 H locs lσ1071 pz1070 hH => ?_)
        obtain ⟨fz1070, pz1070⟩ := pz1070
        have hle := hle.tr lσ1071
        have hfr := hfr.tr fz1070 (by decide) (by decide)
        have hl : lv_has ls 5 [(4, .int z1054), (1, .int q), (0, .ref h0)] := lv_sub hl [0, 2, 3] rfl
        exact jn1058 () σ1071 ls _ _ hl ⟨hle, hfr, trivial⟩ hH
      · have ch1064 := i_ne h1064
        refine lv_ldc2 (v := 4) hx hb hF.1.2.2.2.1 (hF.1.2.2.2.2 _ (wc_47 22 rfl)) dX12_late_55 ?_
        refine lv_goto (tgt := 62) hx hb dX12_late_58 rfl ?_
        refine lv_lor hx hb dX12_late_62 ?_
        refine lv_topl (fun z1072 ez1072 => ?_)
        refine lv_aload_n hx hb dX12_late_63 rfl (lv_at hl 3 rfl) ?_
        refine m_getA 65 hF hH fk_X12_211 dX12_late_64 (by decide) rfl ?_
        refine lv_iload_n hx hb dX12_late_67 rfl (lv_at hl 2 rfl) ?_
        refine m_lald 65 16 hF hH dX12_late_68 (by decide) rfl rfl (by omega) (by omega) (fun z1073 ez1073 => ?_)
        refine lv_aload_n hx hb dX12_late_69 rfl (lv_at hl 3 rfl) ?_
        refine m_getA 66 hF hH fk_X12_214 dX12_late_70 (by decide) rfl ?_
        refine lv_iload_n hx hb dX12_late_73 rfl (lv_at hl 2 rfl) ?_
        refine m_lald 66 16 hF hH dX12_late_74 (by decide) rfl rfl (by omega) (by omega) (fun z1074 ez1074 => ?_)
        refine lv_aload_n hx hb dX12_late_75 rfl (lv_at hl 3 rfl) ?_
        refine m_getA 34 hF hH fk_X12_118 dX12_late_76 (by decide) rfl ?_
        refine lv_aload_n hx hb dX12_late_79 rfl (lv_at hl 3 rfl) ?_
        refine m_getA 67 hF hH fk_X12_217 dX12_late_80 (by decide) rfl ?_
        refine lv_iload_n hx hb dX12_late_83 rfl (lv_at hl 2 rfl) ?_
        refine m_iald 67 16 hF hH dX12_late_84 (by decide) rfl rfl 0 7 rfl rfl (by omega) (by omega) (fun z1075 ez1075 vz1075 => ?_)
        refine m_lald 34 8 hF hH dX12_late_85 (by decide) rfl rfl (by omega) (by omega) (fun z1076 ez1076 => ?_)
        refine m_cVv (As := [.long v, .int z1055, .int z1056, .int 0, .long z1072, .long z1073, .long z1074, .long z1076]) (rest := []) hF hH hA mv_X12_467 (fun sz => c_X12_header l D t h0 L _ hH.1.2.2.2 hH.2 v z1055 z1056 0 z1072 z1073 z1074 z1076  sz) dX12_late_86 rfl rfl (by decide) rfl hl.1 (Nat.le_of_ble_eq_true rfl) (by decide) rfl (fun σ1078 H locs lσ1078 pz1077 hH => ?_)
        obtain ⟨fz1077, pz1077⟩ := pz1077
        have hle := hle.tr lσ1078
        have hfr := hfr.tr fz1077 (by decide) (by decide)
        have hl : lv_has ls 5 [(4, .int z1054), (1, .int q), (0, .ref h0)] := lv_sub hl [0, 2, 3] rfl
        exact jn1058 () σ1078 ls _ _ hl ⟨hle, hfr, trivial⟩ hH
  · skip
    refine lv_if_eq (tgt := 22) hx hb dX12_late_3 rfl (fun h1079 => ?_) (fun h1079 => ?_)
    · have ch1079 := i_eq h1079
      have hl : lv_has ls 5 [(2, .long v), (1, .int q), (0, .ref h0)] := lv_sub hl [2, 1, 0] rfl
      exact jn1052 () σ ls _ _ hl ⟨hle, hfr, trivial⟩ hH
    · have ch1079 := i_ne h1079
      refine lv_aload_n hx hb dX12_late_6 rfl (lv_at hl 0 rfl) ?_
      refine lv_bipush (v := 9) hx hb dX12_late_7 (by decide) ?_
      refine m_cVv (As := [.int 9]) (rest := []) hF hH hA mv_X12_456 (fun sz => c_X12_body l D t h0 L _ hH.1.2.2.2 hH.2 9 (by omega) sz) dX12_late_9 rfl rfl (by decide) rfl hl.1 (Nat.le_of_ble_eq_true rfl) (by decide) rfl (fun σ1081 H locs lσ1081 pz1080 hH => ?_)
      obtain ⟨fz1080, pz1080⟩ := pz1080
      have hle := hle.tr lσ1081
      have hfr := hfr.tr fz1080 (by decide) (by decide)
      refine lv_aload_n hx hb dX12_late_12 rfl (lv_at hl 0 rfl) ?_
      refine lv_bipush (v := 64) hx hb dX12_late_13 (by decide) ?_
      refine lv_iconst (v := 2) hx hb dX12_late_15 (by decide) ?_
      refine lv_ldc2 (v := 9) hx hb hF.1.2.2.2.1 (hF.1.2.2.2.2 _ (wc_47 29 rfl)) dX12_late_16 ?_
      refine m_cVv (As := [.int 64, .int 2, .long 9]) (rest := []) hF hH hA mv_X12_376 (fun sz => c_X12_set l D t h0 L _ hH.1.2.2.2 hH.2 64 2 9 (by omega) sz) dX12_late_19 rfl rfl (by decide) rfl hl.1 (Nat.le_of_ble_eq_true rfl) (by decide) rfl (fun σ1083 H locs lσ1083 pz1082 hH => ?_)
      obtain ⟨fz1082, pz1082⟩ := pz1082
      have hle := hle.tr lσ1083
      have hfr := hfr.tr fz1082 (by decide) (by decide)
      have hl : lv_has ls 5 [(2, .long v), (1, .int q), (0, .ref h0)] := lv_sub hl [2, 1, 0] rfl
      exact jn1052 () σ1083 ls _ _ hl ⟨hle, hfr, trivial⟩ hH

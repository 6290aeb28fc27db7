/-! the class, lifted: 11 -/
set_option maxRecDepth 100000 in
def F_X11_lock (G : GE) (h : Nat) (a1 : Option Nat) (a2 : Option Nat) (post : Int32 → CS → Prop) (κ : CS) : Prop := ∃ b : Nat, a1 = some b ∧ (b ∈ sL κ.1 ∧ sK κ.1 b = 8) ∧ F_X0_number G b 66 2 (fun (z2 : Int64) (κ1 : CS) => ∀ z3 : Int32, z3 = (z2 : Int64).toInt32 → jc (fun (K6 : Unit → CS → Prop) => ((z3.toInt < (1 : Int32).toInt) → K6 () κ1) ∧ (((1 : Int32).toInt ≤ z3.toInt) → (((8 : Int32).toInt < z3.toInt) → K6 () κ1) ∧ ((z3.toInt ≤ (8 : Int32).toInt) → ∀ z9 : Int32, z9 = 24 * z3 → ∀ z10 : Int32, z10 = 88 + z9 → ∃ b : Nat, a1 = some b ∧ (b ∈ sL κ1.1 ∧ sK κ1.1 b = 8) ∧ ∀ z11 : Int32, z11 = sI κ1.1 b 2 → ((z10.toInt ≤ z11.toInt) → ∃ b : Nat, a2 = some b ∧ (b ∈ sL κ1.1 ∧ sK κ1.1 b = 10) ∧ ∀ z12 : Option Nat, z12 = sP κ1.1 b 2 → ∃ b : Nat, z12 = some b ∧ (b ∈ sL κ1.1 ∧ sK κ1.1 b = 5) ∧ ∀ z13 : Int32, z13 = sI κ1.1 b 2 → ((z13.toInt = 0) → ∃ b : Nat, a2 = some b ∧ (b ∈ sL κ1.1 ∧ sK κ1.1 b = 10) ∧ ∀ z14 : Int32, z14 = sI κ1.1 b 3 → ∀ z15 : Int32, z15 = z14 &&& 7 → ((¬ z15.toInt = 0) → ∃ b : Nat, a1 = some b ∧ (b ∈ sL κ1.1 ∧ sK κ1.1 b = 8) ∧ F_X0_number G b 104 4 (fun (z17 : Int64) (κ16 : CS) => jc (fun (K20 : Int32 → CS → Prop) => ((¬ z17.toInt = (4 : Int64).toInt) → K20 0 κ16) ∧ ((z17.toInt = (4 : Int64).toInt) → K20 1 κ16)) (fun (x18 : Int32) (κ19 : CS) => lc (fun (K25 : Int32 → CS → Prop) (x23 : Int32) (κ24 : CS) => ((z3.toInt ≤ x23.toInt) → jc (fun (K29 : Int32 → CS → Prop) => ((x18.toInt = 0) → (h ∈ sL κ24.1 ∧ sK κ24.1 h = 1) ∧ F_X11_lockAll G h a1 a2 z3 (fun (z33 : Int32) (κ32 : CS) => K29 z33 κ32) κ24) ∧ ((¬ x18.toInt = 0) → (h ∈ sL κ24.1 ∧ sK κ24.1 h = 1) ∧ F_X11_unlockEach G h a1 a2 z3 (fun (z35 : Int32) (κ34 : CS) => K29 z35 κ34) κ24)) (fun (x27 : Int32) (κ28 : CS) => post x27 κ28)) ∧ ((x23.toInt < z3.toInt) → ∀ z36 : Int32, z36 = 24 * x23 → ∀ z37 : Int32, z37 = 88 + z36 → ∀ z38 : Int32, z38 = z37 + 16 → ∃ b : Nat, a1 = some b ∧ (b ∈ sL κ24.1 ∧ sK κ24.1 b = 8) ∧ F_X0_number G b z38 4 (fun (z40 : Int64) (κ39 : CS) => jc (fun (K43 : Int32 → CS → Prop) => ((x18.toInt = 0) → F_X11_isLocking G z40 z3 (fun (z60 : Int32) (κ59 : CS) => K43 z60 κ59) κ39) ∧ ((¬ x18.toInt = 0) → ((¬ z40.toInt = (4 : Int64).toInt) → K43 0 κ39) ∧ ((z40.toInt = (4 : Int64).toInt) → K43 1 κ39))) (fun (x41 : Int32) (κ42 : CS) => jc (fun (K48 : Unit → CS → Prop) => ((x41.toInt = 0) → K48 () κ42) ∧ ((¬ x41.toInt = 0) → ∃ b : Nat, a1 = some b ∧ (b ∈ sL κ42.1 ∧ sK κ42.1 b = 8) ∧ F_X0_number G b z37 8 (fun (z52 : Int64) (κ51 : CS) => ∀ z53 : Int32, z53 = z37 + 8 → ∃ b : Nat, a1 = some b ∧ (b ∈ sL κ51.1 ∧ sK κ51.1 b = 8) ∧ F_X0_number G b z53 8 (fun (z55 : Int64) (κ54 : CS) => F_X11_isTooFar G z52 z55 (fun (z57 : Int32) (κ56 : CS) => ((z57.toInt = 0) → ∀ z58 : Int32, z58 = x23 + 1 → K25 z58 κ56) ∧ ((¬ z57.toInt = 0) → K48 () κ56)) κ54) κ51) κ42)) (fun (x46 : Unit) (κ47 : CS) => post (-1073741811) κ47))) κ24)) 0 κ19)) κ1) ∧ ((z15.toInt = 0) → post (-1073741790) κ1)) ∧ ((¬ z13.toInt = 0) → post (-1073741638) κ1)) ∧ ((z11.toInt < z10.toInt) → K6 () κ1)))) (fun (x4 : Unit) (κ5 : CS) => post (-1073741811) κ5)) κ
theorem dX11_lock_0 : decode cX11_lock 0 = .ok (.aload_n 1, 1) := by decide +kernel
theorem dX11_lock_1 : decode cX11_lock 1 = .ok (.bipush 66, 2) := by decide +kernel
theorem dX11_lock_3 : decode cX11_lock 3 = .ok (.iconst 2, 1) := by decide +kernel
theorem dX11_lock_4 : decode cX11_lock 4 = .ok (.invokevirtual 394, 3) := by decide +kernel
theorem dX11_lock_7 : decode cX11_lock 7 = .ok (.l2i, 1) := by decide +kernel
theorem dX11_lock_8 : decode cX11_lock 8 = .ok (.istore_n 3, 1) := by decide +kernel
theorem dX11_lock_9 : decode cX11_lock 9 = .ok (.iload_n 3, 1) := by decide +kernel
theorem dX11_lock_10 : decode cX11_lock 10 = .ok (.iconst 1, 1) := by decide +kernel
theorem dX11_lock_11 : decode cX11_lock 11 = .ok (.if_icmp .lt 23, 3) := by decide +kernel
theorem dX11_lock_14 : decode cX11_lock 14 = .ok (.iload_n 3, 1) := by decide +kernel
theorem dX11_lock_15 : decode cX11_lock 15 = .ok (.bipush 8, 2) := by decide +kernel
theorem dX11_lock_17 : decode cX11_lock 17 = .ok (.if_icmp .gt 17, 3) := by decide +kernel
theorem dX11_lock_20 : decode cX11_lock 20 = .ok (.bipush 88, 2) := by decide +kernel
theorem dX11_lock_22 : decode cX11_lock 22 = .ok (.bipush 24, 2) := by decide +kernel
theorem dX11_lock_24 : decode cX11_lock 24 = .ok (.iload_n 3, 1) := by decide +kernel
theorem dX11_lock_25 : decode cX11_lock 25 = .ok (.imul, 1) := by decide +kernel
theorem dX11_lock_26 : decode cX11_lock 26 = .ok (.iadd, 1) := by decide +kernel
theorem dX11_lock_27 : decode cX11_lock 27 = .ok (.aload_n 1, 1) := by decide +kernel
theorem dX11_lock_28 : decode cX11_lock 28 = .ok (.getfield 306, 3) := by decide +kernel
theorem dX11_lock_31 : decode cX11_lock 31 = .ok (.if_icmp .le 7, 3) := by decide +kernel
theorem dX11_lock_34 : decode cX11_lock 34 = .ok (.ldc_w 398, 3) := by decide +kernel
theorem dX11_lock_37 : decode cX11_lock 37 = .ok (.ireturn, 1) := by decide +kernel
theorem dX11_lock_38 : decode cX11_lock 38 = .ok (.aload_n 2, 1) := by decide +kernel
theorem dX11_lock_39 : decode cX11_lock 39 = .ok (.getfield 564, 3) := by decide +kernel
theorem dX11_lock_42 : decode cX11_lock 42 = .ok (.getfield 577, 3) := by decide +kernel
theorem dX11_lock_45 : decode cX11_lock 45 = .ok (.ifCond .eq 7, 3) := by decide +kernel
theorem dX11_lock_48 : decode cX11_lock 48 = .ok (.ldc_w 750, 3) := by decide +kernel
theorem dX11_lock_51 : decode cX11_lock 51 = .ok (.ireturn, 1) := by decide +kernel
theorem dX11_lock_52 : decode cX11_lock 52 = .ok (.aload_n 2, 1) := by decide +kernel
theorem dX11_lock_53 : decode cX11_lock 53 = .ok (.getfield 765, 3) := by decide +kernel
theorem dX11_lock_56 : decode cX11_lock 56 = .ok (.bipush 7, 2) := by decide +kernel
theorem dX11_lock_58 : decode cX11_lock 58 = .ok (.iand, 1) := by decide +kernel
theorem dX11_lock_59 : decode cX11_lock 59 = .ok (.ifCond .ne 7, 3) := by decide +kernel
theorem dX11_lock_62 : decode cX11_lock 62 = .ok (.ldc_w 658, 3) := by decide +kernel
theorem dX11_lock_65 : decode cX11_lock 65 = .ok (.ireturn, 1) := by decide +kernel
theorem dX11_lock_66 : decode cX11_lock 66 = .ok (.aload_n 1, 1) := by decide +kernel
theorem dX11_lock_67 : decode cX11_lock 67 = .ok (.bipush 104, 2) := by decide +kernel
theorem dX11_lock_69 : decode cX11_lock 69 = .ok (.iconst 4, 1) := by decide +kernel
theorem dX11_lock_70 : decode cX11_lock 70 = .ok (.invokevirtual 394, 3) := by decide +kernel
theorem dX11_lock_73 : decode cX11_lock 73 = .ok (.ldc2_w 481, 3) := by decide +kernel
theorem dX11_lock_76 : decode cX11_lock 76 = .ok (.lcmp, 1) := by decide +kernel
theorem dX11_lock_77 : decode cX11_lock 77 = .ok (.ifCond .ne 7, 3) := by decide +kernel
theorem dX11_lock_80 : decode cX11_lock 80 = .ok (.iconst 1, 1) := by decide +kernel
theorem dX11_lock_81 : decode cX11_lock 81 = .ok (.goto 4, 3) := by decide +kernel
theorem dX11_lock_84 : decode cX11_lock 84 = .ok (.iconst 0, 1) := by decide +kernel
theorem dX11_lock_85 : decode cX11_lock 85 = .ok (.istore 4, 2) := by decide +kernel
theorem dX11_lock_87 : decode cX11_lock 87 = .ok (.iconst 0, 1) := by decide +kernel
theorem dX11_lock_88 : decode cX11_lock 88 = .ok (.istore 5, 2) := by decide +kernel
theorem dX11_lock_90 : decode cX11_lock 90 = .ok (.iload 5, 2) := by decide +kernel
theorem dX11_lock_92 : decode cX11_lock 92 = .ok (.iload_n 3, 1) := by decide +kernel
theorem dX11_lock_93 : decode cX11_lock 93 = .ok (.if_icmp .ge 95, 3) := by decide +kernel
theorem dX11_lock_96 : decode cX11_lock 96 = .ok (.bipush 88, 2) := by decide +kernel
theorem dX11_lock_98 : decode cX11_lock 98 = .ok (.bipush 24, 2) := by decide +kernel
theorem dX11_lock_100 : decode cX11_lock 100 = .ok (.iload 5, 2) := by decide +kernel
theorem dX11_lock_102 : decode cX11_lock 102 = .ok (.imul, 1) := by decide +kernel
theorem dX11_lock_103 : decode cX11_lock 103 = .ok (.iadd, 1) := by decide +kernel
theorem dX11_lock_104 : decode cX11_lock 104 = .ok (.istore 6, 2) := by decide +kernel
theorem dX11_lock_106 : decode cX11_lock 106 = .ok (.aload_n 1, 1) := by decide +kernel
theorem dX11_lock_107 : decode cX11_lock 107 = .ok (.iload 6, 2) := by decide +kernel
theorem dX11_lock_109 : decode cX11_lock 109 = .ok (.bipush 16, 2) := by decide +kernel
theorem dX11_lock_111 : decode cX11_lock 111 = .ok (.iadd, 1) := by decide +kernel
theorem dX11_lock_112 : decode cX11_lock 112 = .ok (.iconst 4, 1) := by decide +kernel
theorem dX11_lock_113 : decode cX11_lock 113 = .ok (.invokevirtual 394, 3) := by decide +kernel
theorem dX11_lock_116 : decode cX11_lock 116 = .ok (.lstore 7, 2) := by decide +kernel
theorem dX11_lock_118 : decode cX11_lock 118 = .ok (.iload 4, 2) := by decide +kernel
theorem dX11_lock_120 : decode cX11_lock 120 = .ok (.ifCond .eq 20, 3) := by decide +kernel
theorem dX11_lock_123 : decode cX11_lock 123 = .ok (.lload 7, 2) := by decide +kernel
theorem dX11_lock_125 : decode cX11_lock 125 = .ok (.ldc2_w 481, 3) := by decide +kernel
theorem dX11_lock_128 : decode cX11_lock 128 = .ok (.lcmp, 1) := by decide +kernel
theorem dX11_lock_129 : decode cX11_lock 129 = .ok (.ifCond .ne 7, 3) := by decide +kernel
theorem dX11_lock_132 : decode cX11_lock 132 = .ok (.iconst 1, 1) := by decide +kernel
theorem dX11_lock_133 : decode cX11_lock 133 = .ok (.goto 13, 3) := by decide +kernel
theorem dX11_lock_136 : decode cX11_lock 136 = .ok (.iconst 0, 1) := by decide +kernel
theorem dX11_lock_137 : decode cX11_lock 137 = .ok (.goto 9, 3) := by decide +kernel
theorem dX11_lock_140 : decode cX11_lock 140 = .ok (.lload 7, 2) := by decide +kernel
theorem dX11_lock_142 : decode cX11_lock 142 = .ok (.iload_n 3, 1) := by decide +kernel
theorem dX11_lock_143 : decode cX11_lock 143 = .ok (.invokestatic 825, 3) := by decide +kernel
theorem dX11_lock_146 : decode cX11_lock 146 = .ok (.istore 9, 2) := by decide +kernel
theorem dX11_lock_148 : decode cX11_lock 148 = .ok (.iload 9, 2) := by decide +kernel
theorem dX11_lock_150 : decode cX11_lock 150 = .ok (.ifCond .eq 28, 3) := by decide +kernel
theorem dX11_lock_153 : decode cX11_lock 153 = .ok (.aload_n 1, 1) := by decide +kernel
theorem dX11_lock_154 : decode cX11_lock 154 = .ok (.iload 6, 2) := by decide +kernel
theorem dX11_lock_156 : decode cX11_lock 156 = .ok (.bipush 8, 2) := by decide +kernel
theorem dX11_lock_158 : decode cX11_lock 158 = .ok (.invokevirtual 394, 3) := by decide +kernel
theorem dX11_lock_161 : decode cX11_lock 161 = .ok (.aload_n 1, 1) := by decide +kernel
theorem dX11_lock_162 : decode cX11_lock 162 = .ok (.iload 6, 2) := by decide +kernel
theorem dX11_lock_164 : decode cX11_lock 164 = .ok (.bipush 8, 2) := by decide +kernel
theorem dX11_lock_166 : decode cX11_lock 166 = .ok (.iadd, 1) := by decide +kernel
theorem dX11_lock_167 : decode cX11_lock 167 = .ok (.bipush 8, 2) := by decide +kernel
theorem dX11_lock_169 : decode cX11_lock 169 = .ok (.invokevirtual 394, 3) := by decide +kernel
theorem dX11_lock_172 : decode cX11_lock 172 = .ok (.invokestatic 829, 3) := by decide +kernel
theorem dX11_lock_175 : decode cX11_lock 175 = .ok (.ifCond .eq 7, 3) := by decide +kernel
theorem dX11_lock_178 : decode cX11_lock 178 = .ok (.ldc_w 398, 3) := by decide +kernel
theorem dX11_lock_181 : decode cX11_lock 181 = .ok (.ireturn, 1) := by decide +kernel
theorem dX11_lock_182 : decode cX11_lock 182 = .ok (.iinc 5 1, 3) := by decide +kernel
theorem dX11_lock_185 : decode cX11_lock 185 = .ok (.goto (-95), 3) := by decide +kernel
theorem dX11_lock_188 : decode cX11_lock 188 = .ok (.iload 4, 2) := by decide +kernel
theorem dX11_lock_190 : decode cX11_lock 190 = .ok (.ifCond .eq 13, 3) := by decide +kernel
theorem dX11_lock_193 : decode cX11_lock 193 = .ok (.aload_n 0, 1) := by decide +kernel
theorem dX11_lock_194 : decode cX11_lock 194 = .ok (.aload_n 1, 1) := by decide +kernel
theorem dX11_lock_195 : decode cX11_lock 195 = .ok (.aload_n 2, 1) := by decide +kernel
theorem dX11_lock_196 : decode cX11_lock 196 = .ok (.iload_n 3, 1) := by decide +kernel
theorem dX11_lock_197 : decode cX11_lock 197 = .ok (.invokevirtual 832, 3) := by decide +kernel
theorem dX11_lock_200 : decode cX11_lock 200 = .ok (.goto 10, 3) := by decide +kernel
theorem dX11_lock_203 : decode cX11_lock 203 = .ok (.aload_n 0, 1) := by decide +kernel
theorem dX11_lock_204 : decode cX11_lock 204 = .ok (.aload_n 1, 1) := by decide +kernel
theorem dX11_lock_205 : decode cX11_lock 205 = .ok (.aload_n 2, 1) := by decide +kernel
theorem dX11_lock_206 : decode cX11_lock 206 = .ok (.iload_n 3, 1) := by decide +kernel
theorem dX11_lock_207 : decode cX11_lock 207 = .ok (.invokevirtual 836, 3) := by decide +kernel
theorem dX11_lock_210 : decode cX11_lock 210 = .ok (.ireturn, 1) := by decide +kernel
set_option maxRecDepth 100000 in
set_option maxHeartbeats 4000000 in
theorem c_X11_lock (l : Launch) (D : va_G) (t : Nat → ClassId) (G : GE) (κ : CS) (h : Nat) (a1 : Option Nat) (a2 : Option Nat) (post : Int32 → CS → Prop) (hw : F_X11_lock G h a1 a2 post κ) (sz : Nat) : CMi l D t yX11_lock cX11_lock 10 (some .int) 9 222 G κ sz [.ref h, va_rf a1, va_rf a2] post := by
  refine c_go (by decide) (by cases a1 <;> cases a2 <;> exact Nat.le_of_ble_eq_true rfl) ?_
  intro p e s m below meth c ls A hF hr hlk hin hAe hH hA hE hl
  unfold cB
  rw [hAe]
  clear hAe
  have hF : FX p m c cX11_lock 10 s _ RX11 D t := hF
  have hx := hF.1.1
  have hb := hF.1.2.1
  have hl : lv_has ls 10 [(0, .ref h), (1, va_rf a1), (2, va_rf a2)] := (by have h2 := hl; clear hw; revert h2; cases a1 <;> cases a2 <;> exact id)
  unfold F_X11_lock at hw
  refine w_aloadq_n hF dX11_lock_0 rfl (lv_at hl 1 rfl) ?_
  refine lv_bipush (v := 66) hx hb dX11_lock_1 (by decide) ?_
  refine lv_iconst (v := 2) hx hb dX11_lock_3 (by decide) ?_
  refine cw_cVlq (q := a1) (As := [.int 66, .int 2]) (rest := []) hF hH hA hE mv_X11_394 ci_X0 (by decide) hw (fun b hw sz => c_X0_number l D t G _ b 66 2 _ hw sz) dX11_lock_4 ⟨Nat.le_of_ble_eq_true rfl, Nat.le_of_ble_eq_true rfl⟩ rfl hl.1 (Nat.le_of_ble_eq_true rfl) rfl (fun z2 κ1 H locs cells slots hw hH => ?_)
  refine lv_l2i hx hb dX11_lock_7 rfl ?_
  refine w_nmi hw (fun z3 hw => ?_)
  refine lv_istore_n (lv' := [(3, .int z3), (0, .ref h), (1, va_rf a1), (2, va_rf a2)]) hx hb dX11_lock_8 rfl hl (by decide) (by generalize a2 = y; cases y <;> rfl) (fun ls hl => ?_)
  refine lv_iload_n hx hb dX11_lock_9 rfl (lv_at hl 0 rfl) ?_
  refine lv_iconst (v := 1) hx hb dX11_lock_10 (by decide) ?_
  obtain ⟨K6, hK7, hw⟩ := jc_open hw
  refine cw_join (K := K6) 34 (fun (x4 : Unit) => []) (fun (x4 : Unit) => []) hl hH (fun x4 κ5 ls H locs cells slots hl hw hH => ?_) (fun jn8 => ?_)
  · have hw := hK7 x4 κ5 hw
    have hl : lv_has ls 10 [] := hl
    refine lv_ldcw (v := (-1073741811)) hx hb hF.1.2.2.2.1 (hF.1.2.2.2.2 _ (wc_16 24 rfl)) dX11_lock_34 ?_
    exact cw_reti hF hH ⟨rfl, rfl⟩ hr rfl hlk dX11_lock_37 hw
  · skip
    refine w_icmp_lt (tgt := 34) hF dX11_lock_11 rfl hw (fun hw => ?_) (fun hw => ?_)
    · have hl : lv_has ls 10 [] := lv_sub hl [] rfl
      exact jn8 () κ1 ls _ _ _ _ hl hw hH
    · refine lv_iload_n hx hb dX11_lock_14 rfl (lv_at hl 0 rfl) ?_
      refine lv_bipush (v := 8) hx hb dX11_lock_15 (by decide) ?_
      refine w_icmp_gt (tgt := 34) hF dX11_lock_17 rfl hw (fun hw => ?_) (fun hw => ?_)
      · have hl : lv_has ls 10 [] := lv_sub hl [] rfl
        exact jn8 () κ1 ls _ _ _ _ hl hw hH
      · refine lv_bipush (v := 88) hx hb dX11_lock_20 (by decide) ?_
        refine lv_bipush (v := 24) hx hb dX11_lock_22 (by decide) ?_
        refine lv_iload_n hx hb dX11_lock_24 rfl (lv_at hl 0 rfl) ?_
        refine lv_imul hx hb dX11_lock_25 ?_
        refine w_nmi hw (fun z9 hw => ?_)
        refine lv_iadd hx hb dX11_lock_26 ?_
        refine w_nmi hw (fun z10 hw => ?_)
        refine w_aloadq_n hF dX11_lock_27 rfl (lv_at hl 2 rfl) ?_
        refine cw_getI (q := a1) hF hH fk_X11_306 dX11_lock_28 hw (fun z11 hw => ?_)
        refine w_icmp_le (tgt := 38) hF dX11_lock_31 rfl hw (fun hw => ?_) (fun hw => ?_)
        · refine w_aloadq_n hF dX11_lock_38 rfl (lv_at hl 3 rfl) ?_
          refine cw_getP (q := a2) hF hH fk_X11_564 dX11_lock_39 hw (fun z12 hw => ?_)
          refine cw_getI (q := z12) hF hH fk_X11_577 dX11_lock_42 hw (fun z13 hw => ?_)
          refine w_if_eq (tgt := 52) hF dX11_lock_45 rfl hw (fun hw => ?_) (fun hw => ?_)
          · refine w_aloadq_n hF dX11_lock_52 rfl (lv_at hl 3 rfl) ?_
            refine cw_getI (q := a2) hF hH fk_X11_765 dX11_lock_53 hw (fun z14 hw => ?_)
            refine lv_bipush (v := 7) hx hb dX11_lock_56 (by decide) ?_
            refine lv_iand hx hb dX11_lock_58 ?_
            refine w_nmi hw (fun z15 hw => ?_)
            refine w_if_ne (tgt := 66) hF dX11_lock_59 rfl hw (fun hw => ?_) (fun hw => ?_)
            · refine w_aloadq_n hF dX11_lock_66 rfl (lv_at hl 2 rfl) ?_
              refine lv_bipush (v := 104) hx hb dX11_lock_67 (by decide) ?_
              refine lv_iconst (v := 4) hx hb dX11_lock_69 (by decide) ?_
              refine cw_cVlq (q := a1) (As := [.int 104, .int 4]) (rest := []) hF hH hA hE mv_X11_394 ci_X0 (by decide) hw (fun b hw sz => c_X0_number l D t G _ b 104 4 _ hw sz) dX11_lock_70 ⟨Nat.le_of_ble_eq_true rfl, Nat.le_of_ble_eq_true rfl⟩ rfl hl.1 (Nat.le_of_ble_eq_true rfl) rfl (fun z17 κ16 H locs cells slots hw hH => ?_)
              refine lv_ldc2 (v := 4) hx hb hF.1.2.2.2.1 (hF.1.2.2.2.2 _ (wc_16 27 rfl)) dX11_lock_73 ?_
              obtain ⟨K20, hK21, hw⟩ := jc_open hw
              refine cw_join (K := K20) 85 (fun (x18 : Int32) => [(3, .int z3), (2, va_rf a2), (1, va_rf a1), (0, .ref h)]) (fun (x18 : Int32) => [.int x18]) hl hH (fun x18 κ19 ls H locs cells slots hl hw hH => ?_) (fun jn22 => ?_)
              · have hw := hK21 x18 κ19 hw
                have hl : lv_has ls 10 [(3, .int z3), (2, va_rf a2), (1, va_rf a1), (0, .ref h)] := hl
                refine lv_istore (lv' := [(4, .int x18), (3, .int z3), (2, va_rf a2), (1, va_rf a1), (0, .ref h)]) hx hb dX11_lock_85 hl (by decide) rfl (fun ls hl => ?_)
                refine lv_iconst (v := 0) hx hb dX11_lock_87 (by decide) ?_
                refine lv_istore (lv' := [(5, .int 0), (4, .int x18), (3, .int z3), (2, va_rf a2), (1, va_rf a1), (0, .ref h)]) hx hb dX11_lock_88 hl (by decide) rfl (fun ls hl => ?_)
                refine cw_loop (β := Int32) (fun x23 => [(5, .int x23), (4, .int x18), (3, .int z3), (2, va_rf a2), (1, va_rf a1), (0, .ref h)]) 0 hl hw hH (fun K25 x23 κ24 ls H locs cells slots hl hw hH ih26 => ?_)
                have hl : lv_has ls 10 [(5, .int x23), (4, .int x18), (3, .int z3), (2, va_rf a2), (1, va_rf a1), (0, .ref h)] := hl
                refine lv_iload hx hb dX11_lock_90 (lv_at hl 0 rfl) ?_
                refine lv_iload_n hx hb dX11_lock_92 rfl (lv_at hl 2 rfl) ?_
                refine w_icmp_ge (tgt := 188) hF dX11_lock_93 rfl hw (fun hw => ?_) (fun hw => ?_)
                · refine lv_iload hx hb dX11_lock_188 (lv_at hl 1 rfl) ?_
                  obtain ⟨K29, hK30, hw⟩ := jc_open hw
                  refine cw_join (K := K29) 210 (fun (x27 : Int32) => []) (fun (x27 : Int32) => [.int x27]) hl hH (fun x27 κ28 ls H locs cells slots hl hw hH => ?_) (fun jn31 => ?_)
                  · have hw := hK30 x27 κ28 hw
                    have hl : lv_has ls 10 [] := hl
                    exact cw_reti hF hH ⟨rfl, rfl⟩ hr rfl hlk dX11_lock_210 hw
                  · skip
                    refine w_if_eq (tgt := 203) hF dX11_lock_190 rfl hw (fun hw => ?_) (fun hw => ?_)
                    · refine lv_aload_n hx hb dX11_lock_203 rfl (lv_at hl 5 rfl) ?_
                      refine w_aloadq_n hF dX11_lock_204 rfl (lv_at hl 4 rfl) ?_
                      refine w_aloadq_n hF dX11_lock_205 rfl (lv_at hl 3 rfl) ?_
                      refine lv_iload_n hx hb dX11_lock_206 rfl (lv_at hl 2 rfl) ?_
                      refine cw_cVi (b := h) (As := [va_rf a1, va_rf a2, .int z3]) (rest := []) hF hH hA hE mv_X11_836 ci_X11 (by decide) (fun sz => c_X11_lockAll l D t G _ h a1 a2 z3 _ hw.2 sz) dX11_lock_207 hw.1 ⟨Nat.le_of_ble_eq_true rfl, Nat.le_of_ble_eq_true rfl⟩ rfl hl.1 (Nat.le_of_ble_eq_true rfl) rfl (fun z33 κ32 H locs cells slots hw hH => ?_)
                      have hl : lv_has ls 10 [] := lv_sub hl [] rfl
                      exact jn31 z33 κ32 ls _ _ _ _ hl hw hH
                    · refine lv_aload_n hx hb dX11_lock_193 rfl (lv_at hl 5 rfl) ?_
                      refine w_aloadq_n hF dX11_lock_194 rfl (lv_at hl 4 rfl) ?_
                      refine w_aloadq_n hF dX11_lock_195 rfl (lv_at hl 3 rfl) ?_
                      refine lv_iload_n hx hb dX11_lock_196 rfl (lv_at hl 2 rfl) ?_
                      refine cw_cVi (b := h) (As := [va_rf a1, va_rf a2, .int z3]) (rest := []) hF hH hA hE mv_X11_832 ci_X11 (by decide) (fun sz => c_X11_unlockEach l D t G _ h a1 a2 z3 _ hw.2 sz) dX11_lock_197 hw.1 ⟨Nat.le_of_ble_eq_true rfl, Nat.le_of_ble_eq_true rfl⟩ rfl hl.1 (Nat.le_of_ble_eq_true rfl) rfl (fun z35 κ34 H locs cells slots hw hH => ?_)
                      refine lv_goto (tgt := 210) hx hb dX11_lock_200 rfl ?_
                      have hl : lv_has ls 10 [] := lv_sub hl [] rfl
                      exact jn31 z35 κ34 ls _ _ _ _ hl hw hH
                · refine lv_bipush (v := 88) hx hb dX11_lock_96 (by decide) ?_
                  refine lv_bipush (v := 24) hx hb dX11_lock_98 (by decide) ?_
                  refine lv_iload hx hb dX11_lock_100 (lv_at hl 0 rfl) ?_
                  refine lv_imul hx hb dX11_lock_102 ?_
                  refine w_nmi hw (fun z36 hw => ?_)
                  refine lv_iadd hx hb dX11_lock_103 ?_
                  refine w_nmi hw (fun z37 hw => ?_)
                  refine lv_istore (lv' := [(6, .int z37), (5, .int x23), (4, .int x18), (3, .int z3), (2, va_rf a2), (1, va_rf a1), (0, .ref h)]) hx hb dX11_lock_104 hl (by decide) rfl (fun ls hl => ?_)
                  refine w_aloadq_n hF dX11_lock_106 rfl (lv_at hl 5 rfl) ?_
                  refine lv_iload hx hb dX11_lock_107 (lv_at hl 0 rfl) ?_
                  refine lv_bipush (v := 16) hx hb dX11_lock_109 (by decide) ?_
                  refine lv_iadd hx hb dX11_lock_111 ?_
                  refine w_nmi hw (fun z38 hw => ?_)
                  refine lv_iconst (v := 4) hx hb dX11_lock_112 (by decide) ?_
                  refine cw_cVlq (q := a1) (As := [.int z38, .int 4]) (rest := []) hF hH hA hE mv_X11_394 ci_X0 (by decide) hw (fun b hw sz => c_X0_number l D t G _ b z38 4 _ hw sz) dX11_lock_113 ⟨Nat.le_of_ble_eq_true rfl, Nat.le_of_ble_eq_true rfl⟩ rfl hl.1 (Nat.le_of_ble_eq_true rfl) rfl (fun z40 κ39 H locs cells slots hw hH => ?_)
                  refine lv_lstore (lv' := [(7, .long z40), (6, .int z37), (5, .int x23), (4, .int x18), (3, .int z3), (2, va_rf a2), (1, va_rf a1), (0, .ref h)]) hx hb dX11_lock_116 hl (by decide) rfl (fun ls hl => ?_)
                  refine lv_iload hx hb dX11_lock_118 (lv_at hl 3 rfl) ?_
                  obtain ⟨K43, hK44, hw⟩ := jc_open hw
                  refine cw_join (K := K43) 146 (fun (x41 : Int32) => [(6, .int z37), (5, .int x23), (4, .int x18), (3, .int z3), (2, va_rf a2), (1, va_rf a1), (0, .ref h)]) (fun (x41 : Int32) => [.int x41]) hl hH (fun x41 κ42 ls H locs cells slots hl hw hH => ?_) (fun jn45 => ?_)
                  · have hw := hK44 x41 κ42 hw
                    have hl : lv_has ls 10 [(6, .int z37), (5, .int x23), (4, .int x18), (3, .int z3), (2, va_rf a2), (1, va_rf a1), (0, .ref h)] := hl
                    refine lv_istore (lv' := [(9, .int x41), (6, .int z37), (5, .int x23), (4, .int x18), (3, .int z3), (2, va_rf a2), (1, va_rf a1), (0, .ref h)]) hx hb dX11_lock_146 hl (by decide) rfl (fun ls hl => ?_)
                    refine lv_iload hx hb dX11_lock_148 (lv_at hl 0 rfl) ?_
                    obtain ⟨K48, hK49, hw⟩ := jc_open hw
                    refine cw_join (K := K48) 178 (fun (x46 : Unit) => []) (fun (x46 : Unit) => []) hl hH (fun x46 κ47 ls H locs cells slots hl hw hH => ?_) (fun jn50 => ?_)
                    · have hw := hK49 x46 κ47 hw
                      have hl : lv_has ls 10 [] := hl
                      refine lv_ldcw (v := (-1073741811)) hx hb hF.1.2.2.2.1 (hF.1.2.2.2.2 _ (wc_16 24 rfl)) dX11_lock_178 ?_
                      exact cw_reti hF hH ⟨rfl, rfl⟩ hr rfl hlk dX11_lock_181 hw
                    · skip
                      refine w_if_eq (tgt := 178) hF dX11_lock_150 rfl hw (fun hw => ?_) (fun hw => ?_)
                      · have hl : lv_has ls 10 [] := lv_sub hl [] rfl
                        exact jn50 () κ42 ls _ _ _ _ hl hw hH
                      · refine w_aloadq_n hF dX11_lock_153 rfl (lv_at hl 6 rfl) ?_
                        refine lv_iload hx hb dX11_lock_154 (lv_at hl 1 rfl) ?_
                        refine lv_bipush (v := 8) hx hb dX11_lock_156 (by decide) ?_
                        refine cw_cVlq (q := a1) (As := [.int z37, .int 8]) (rest := []) hF hH hA hE mv_X11_394 ci_X0 (by decide) hw (fun b hw sz => c_X0_number l D t G _ b z37 8 _ hw sz) dX11_lock_158 ⟨Nat.le_of_ble_eq_true rfl, Nat.le_of_ble_eq_true rfl⟩ rfl hl.1 (Nat.le_of_ble_eq_true rfl) rfl (fun z52 κ51 H locs cells slots hw hH => ?_)
                        refine w_aloadq_n hF dX11_lock_161 rfl (lv_at hl 6 rfl) ?_
                        refine lv_iload hx hb dX11_lock_162 (lv_at hl 1 rfl) ?_
                        refine lv_bipush (v := 8) hx hb dX11_lock_164 (by decide) ?_
                        refine lv_iadd hx hb dX11_lock_166 ?_
                        refine w_nmi hw (fun z53 hw => ?_)
                        refine lv_bipush (v := 8) hx hb dX11_lock_167 (by decide) ?_
                        refine cw_cVlq (q := a1) (As := [.int z53, .int 8]) (rest := [.long z52]) hF hH hA hE mv_X11_394 ci_X0 (by decide) hw (fun b hw sz => c_X0_number l D t G _ b z53 8 _ hw sz) dX11_lock_169 ⟨Nat.le_of_ble_eq_true rfl, Nat.le_of_ble_eq_true rfl⟩ rfl hl.1 (Nat.le_of_ble_eq_true rfl) rfl (fun z55 κ54 H locs cells slots hw hH => ?_)
                        refine cw_cSi (As := [.long z52, .long z55]) (rest := []) hF hH hA hE ms_X11_829 (fun sz => c_X11_isTooFar l D t G _ z52 z55 _ hw sz) dX11_lock_172 ⟨Nat.le_of_ble_eq_true rfl, Nat.le_of_ble_eq_true rfl⟩ rfl hl.1 (Nat.le_of_ble_eq_true rfl) rfl (fun z57 κ56 H locs cells slots hw hH => ?_)
                        refine w_if_eq (tgt := 182) hF dX11_lock_175 rfl hw (fun hw => ?_) (fun hw => ?_)
                        · obtain ⟨z58, ez58⟩ : ∃ z : Int32, z = x23 + 1 := ⟨_, rfl⟩
                          have hw := hw z58 ez58
                          refine lv_iinc (lv' := [(5, .int z58), (9, .int x41), (6, .int z37), (4, .int x18), (3, .int z3), (2, va_rf a2), (1, va_rf a1), (0, .ref h)]) (k := 2) (v := z58) hx hb dX11_lock_182 hl rfl ez58.symm (by decide) rfl (fun ls hl => ?_)
                          refine lv_goto (tgt := 90) hx hb dX11_lock_185 rfl ?_
                          have hl : lv_has ls 10 [(5, .int z58), (4, .int x18), (3, .int z3), (2, va_rf a2), (1, va_rf a1), (0, .ref h)] := lv_sub hl [0, 3, 4, 5, 6, 7] rfl
                          exact ih26 z58 κ56 ls _ _ _ _ hl hw hH
                        · have hl : lv_has ls 10 [] := lv_sub hl [] rfl
                          exact jn50 () κ56 ls _ _ _ _ hl hw hH
                  · skip
                    refine w_if_eq (tgt := 140) hF dX11_lock_120 rfl hw (fun hw => ?_) (fun hw => ?_)
                    · refine lv_lload hx hb dX11_lock_140 (lv_at hl 0 rfl) ?_
                      refine lv_iload_n hx hb dX11_lock_142 rfl (lv_at hl 4 rfl) ?_
                      refine cw_cSi (As := [.long z40, .int z3]) (rest := []) hF hH hA hE ms_X11_825 (fun sz => c_X11_isLocking l D t G _ z40 z3 _ hw sz) dX11_lock_143 ⟨Nat.le_of_ble_eq_true rfl, Nat.le_of_ble_eq_true rfl⟩ rfl hl.1 (Nat.le_of_ble_eq_true rfl) rfl (fun z60 κ59 H locs cells slots hw hH => ?_)
                      have hl : lv_has ls 10 [(6, .int z37), (5, .int x23), (4, .int x18), (3, .int z3), (2, va_rf a2), (1, va_rf a1), (0, .ref h)] := lv_sub hl [1, 2, 3, 4, 5, 6, 7] rfl
                      exact jn45 z60 κ59 ls _ _ _ _ hl hw hH
                    · refine lv_lload hx hb dX11_lock_123 (lv_at hl 0 rfl) ?_
                      refine lv_ldc2 (v := 4) hx hb hF.1.2.2.2.1 (hF.1.2.2.2.2 _ (wc_16 27 rfl)) dX11_lock_125 ?_
                      refine w_lif_ne (tgt := 136) hF dX11_lock_128 dX11_lock_129 rfl hw (fun hw => ?_) (fun hw => ?_)
                      · refine lv_iconst (v := 0) hx hb dX11_lock_136 (by decide) ?_
                        refine lv_goto (tgt := 146) hx hb dX11_lock_137 rfl ?_
                        have hl : lv_has ls 10 [(6, .int z37), (5, .int x23), (4, .int x18), (3, .int z3), (2, va_rf a2), (1, va_rf a1), (0, .ref h)] := lv_sub hl [1, 2, 3, 4, 5, 6, 7] rfl
                        exact jn45 0 κ39 ls _ _ _ _ hl hw hH
                      · refine lv_iconst (v := 1) hx hb dX11_lock_132 (by decide) ?_
                        refine lv_goto (tgt := 146) hx hb dX11_lock_133 rfl ?_
                        have hl : lv_has ls 10 [(6, .int z37), (5, .int x23), (4, .int x18), (3, .int z3), (2, va_rf a2), (1, va_rf a1), (0, .ref h)] := lv_sub hl [1, 2, 3, 4, 5, 6, 7] rfl
                        exact jn45 1 κ39 ls _ _ _ _ hl hw hH
              · skip
                refine w_lif_ne (tgt := 84) hF dX11_lock_76 dX11_lock_77 rfl hw (fun hw => ?_) (fun hw => ?_)
                · refine lv_iconst (v := 0) hx hb dX11_lock_84 (by decide) ?_
                  have hl : lv_has ls 10 [(3, .int z3), (2, va_rf a2), (1, va_rf a1), (0, .ref h)] := lv_sub hl [0, 3, 2, 1] rfl
                  exact jn22 0 κ16 ls _ _ _ _ hl hw hH
                · refine lv_iconst (v := 1) hx hb dX11_lock_80 (by decide) ?_
                  refine lv_goto (tgt := 85) hx hb dX11_lock_81 rfl ?_
                  have hl : lv_has ls 10 [(3, .int z3), (2, va_rf a2), (1, va_rf a1), (0, .ref h)] := lv_sub hl [0, 3, 2, 1] rfl
                  exact jn22 1 κ16 ls _ _ _ _ hl hw hH
            · refine lv_ldcw (v := (-1073741790)) hx hb hF.1.2.2.2.1 (hF.1.2.2.2.2 _ (wc_22 30 rfl)) dX11_lock_62 ?_
              exact cw_reti hF hH ⟨rfl, rfl⟩ hr rfl hlk dX11_lock_65 hw
          · refine lv_ldcw (v := (-1073741638)) hx hb hF.1.2.2.2.1 (hF.1.2.2.2.2 _ (wc_23 13 rfl)) dX11_lock_48 ?_
            exact cw_reti hF hH ⟨rfl, rfl⟩ hr rfl hlk dX11_lock_51 hw
        · have hl : lv_has ls 10 [] := lv_sub hl [] rfl
          exact jn8 () κ1 ls _ _ _ _ hl hw hH
set_option maxRecDepth 100000 in
def F_X11_nextStage (G : GE) (h : Nat) (a1 : Option Nat) (post : Int32 → CS → Prop) (κ : CS) : Prop := ∃ b : Nat, a1 = some b ∧ (b ∈ sL κ.1 ∧ sK κ.1 b = 10) ∧ ∀ z1 : Int32, z1 = sI κ.1 b 12 → jc (fun (K4 : Int32 → CS → Prop) => ((¬ z1.toInt = 0) → K4 z1 κ) ∧ ((z1.toInt = 0) → ∃ b : Nat, a1 = some b ∧ (b ∈ sL κ.1 ∧ sK κ.1 b = 10) ∧ F_X5_matches G b (some G.2.2.2.1) 1 (fun (z15 : Int32) (κ14 : CS) => ((¬ z15.toInt = 0) → K4 z1 κ14) ∧ ((z15.toInt = 0) → K4 1 κ14)) κ)) (fun (x2 : Int32) (κ3 : CS) => jc (fun (K9 : Int32 → CS → Prop) => ((¬ x2.toInt = (1 : Int32).toInt) → K9 x2 κ3) ∧ ((x2.toInt = (1 : Int32).toInt) → ∃ b : Nat, a1 = some b ∧ (b ∈ sL κ3.1 ∧ sK κ3.1 b = 10) ∧ F_X5_matches G b (some G.2.2.2.1) 2 (fun (z13 : Int32) (κ12 : CS) => ((¬ z13.toInt = 0) → K9 x2 κ12) ∧ ((z13.toInt = 0) → K9 2 κ12)) κ3)) (fun (x7 : Int32) (κ8 : CS) => post x7 κ8))
theorem dX11_nextStage_0 : decode cX11_nextStage 0 = .ok (.aload_n 1, 1) := by decide +kernel
theorem dX11_nextStage_1 : decode cX11_nextStage 1 = .ok (.getfield 897, 3) := by decide +kernel
theorem dX11_nextStage_4 : decode cX11_nextStage 4 = .ok (.istore_n 2, 1) := by decide +kernel
theorem dX11_nextStage_5 : decode cX11_nextStage 5 = .ok (.iload_n 2, 1) := by decide +kernel
theorem dX11_nextStage_6 : decode cX11_nextStage 6 = .ok (.ifCond .ne 16, 3) := by decide +kernel
theorem dX11_nextStage_9 : decode cX11_nextStage 9 = .ok (.aload_n 1, 1) := by decide +kernel
theorem dX11_nextStage_10 : decode cX11_nextStage 10 = .ok (.getstatic 886, 3) := by decide +kernel
theorem dX11_nextStage_13 : decode cX11_nextStage 13 = .ok (.iconst 1, 1) := by decide +kernel
theorem dX11_nextStage_14 : decode cX11_nextStage 14 = .ok (.invokevirtual 900, 3) := by decide +kernel
theorem dX11_nextStage_17 : decode cX11_nextStage 17 = .ok (.ifCond .ne 5, 3) := by decide +kernel
theorem dX11_nextStage_20 : decode cX11_nextStage 20 = .ok (.iconst 1, 1) := by decide +kernel
theorem dX11_nextStage_21 : decode cX11_nextStage 21 = .ok (.istore_n 2, 1) := by decide +kernel
theorem dX11_nextStage_22 : decode cX11_nextStage 22 = .ok (.iload_n 2, 1) := by decide +kernel
theorem dX11_nextStage_23 : decode cX11_nextStage 23 = .ok (.iconst 1, 1) := by decide +kernel
theorem dX11_nextStage_24 : decode cX11_nextStage 24 = .ok (.if_icmp .ne 16, 3) := by decide +kernel
theorem dX11_nextStage_27 : decode cX11_nextStage 27 = .ok (.aload_n 1, 1) := by decide +kernel
theorem dX11_nextStage_28 : decode cX11_nextStage 28 = .ok (.getstatic 886, 3) := by decide +kernel
theorem dX11_nextStage_31 : decode cX11_nextStage 31 = .ok (.iconst 2, 1) := by decide +kernel
theorem dX11_nextStage_32 : decode cX11_nextStage 32 = .ok (.invokevirtual 900, 3) := by decide +kernel
theorem dX11_nextStage_35 : decode cX11_nextStage 35 = .ok (.ifCond .ne 5, 3) := by decide +kernel
theorem dX11_nextStage_38 : decode cX11_nextStage 38 = .ok (.iconst 2, 1) := by decide +kernel
theorem dX11_nextStage_39 : decode cX11_nextStage 39 = .ok (.istore_n 2, 1) := by decide +kernel
theorem dX11_nextStage_40 : decode cX11_nextStage 40 = .ok (.iload_n 2, 1) := by decide +kernel
theorem dX11_nextStage_41 : decode cX11_nextStage 41 = .ok (.ireturn, 1) := by decide +kernel
set_option maxRecDepth 100000 in
set_option maxHeartbeats 4000000 in
theorem c_X11_nextStage (l : Launch) (D : va_G) (t : Nat → ClassId) (G : GE) (κ : CS) (h : Nat) (a1 : Option Nat) (post : Int32 → CS → Prop) (hw : F_X11_nextStage G h a1 post κ) (sz : Nat) : CMi l D t yX11_nextStage cX11_nextStage 3 (some .int) 2 63 G κ sz [.ref h, va_rf a1] post := by
  refine c_go (by decide) (by cases a1 <;> exact Nat.le_of_ble_eq_true rfl) ?_
  intro p e s m below meth c ls A hF hr hlk hin hAe hH hA hE hl
  unfold cB
  rw [hAe]
  clear hAe
  have hF : FX p m c cX11_nextStage 3 s _ RX11 D t := hF
  have hx := hF.1.1
  have hb := hF.1.2.1
  have hl : lv_has ls 3 [(0, .ref h), (1, va_rf a1)] := (by have h2 := hl; clear hw; revert h2; cases a1 <;> exact id)
  unfold F_X11_nextStage at hw
  refine w_aloadq_n hF dX11_nextStage_0 rfl (lv_at hl 1 rfl) ?_
  refine cw_getI (q := a1) hF hH fk_X11_897 dX11_nextStage_1 hw (fun z1 hw => ?_)
  refine lv_istore_n (lv' := [(2, .int z1), (0, .ref h), (1, va_rf a1)]) hx hb dX11_nextStage_4 rfl hl (by decide) (by generalize a1 = y; cases y <;> rfl) (fun ls hl => ?_)
  refine lv_iload_n hx hb dX11_nextStage_5 rfl (lv_at hl 0 rfl) ?_
  obtain ⟨K4, hK5, hw⟩ := jc_open hw
  refine cw_join (K := K4) 22 (fun (x2 : Int32) => [(2, .int x2), (1, va_rf a1)]) (fun (x2 : Int32) => []) hl hH (fun x2 κ3 ls H locs cells slots hl hw hH => ?_) (fun jn6 => ?_)
  · have hw := hK5 x2 κ3 hw
    have hl : lv_has ls 3 [(2, .int x2), (1, va_rf a1)] := hl
    refine lv_iload_n hx hb dX11_nextStage_22 rfl (lv_at hl 0 rfl) ?_
    refine lv_iconst (v := 1) hx hb dX11_nextStage_23 (by decide) ?_
    obtain ⟨K9, hK10, hw⟩ := jc_open hw
    refine cw_join (K := K9) 40 (fun (x7 : Int32) => [(2, .int x7)]) (fun (x7 : Int32) => []) hl hH (fun x7 κ8 ls H locs cells slots hl hw hH => ?_) (fun jn11 => ?_)
    · have hw := hK10 x7 κ8 hw
      have hl : lv_has ls 3 [(2, .int x7)] := hl
      refine lv_iload_n hx hb dX11_nextStage_40 rfl (lv_at hl 0 rfl) ?_
      exact cw_reti hF hH ⟨rfl, rfl⟩ hr rfl hlk dX11_nextStage_41 hw
    · skip
      refine w_icmp_ne (tgt := 40) hF dX11_nextStage_24 rfl hw (fun hw => ?_) (fun hw => ?_)
      · have hl : lv_has ls 3 [(2, .int x2)] := lv_sub hl [0] rfl
        exact jn11 x2 κ3 ls _ _ _ _ hl hw hH
      · refine w_aloadq_n hF dX11_nextStage_27 rfl (lv_at hl 1 rfl) ?_
        refine cw_getsD hF hH hE (wc_33 7 rfl) dX11_nextStage_28 ?_
        refine lv_iconst (v := 2) hx hb dX11_nextStage_31 (by decide) ?_
        refine cw_cViq (q := a1) (As := [.ref G.2.2.2.1, .int 2]) (rest := []) hF hH hA hE mv_X11_900 ci_X5 (by decide) hw (fun b hw sz => c_X5_matches l D t G _ b (some G.2.2.2.1) 2 _ hw sz) dX11_nextStage_32 ⟨Nat.le_of_ble_eq_true rfl, Nat.le_of_ble_eq_true rfl⟩ rfl hl.1 (Nat.le_of_ble_eq_true rfl) rfl (fun z13 κ12 H locs cells slots hw hH => ?_)
        refine w_if_ne (tgt := 40) hF dX11_nextStage_35 rfl hw (fun hw => ?_) (fun hw => ?_)
        · have hl : lv_has ls 3 [(2, .int x2)] := lv_sub hl [0] rfl
          exact jn11 x2 κ12 ls _ _ _ _ hl hw hH
        · refine lv_iconst (v := 2) hx hb dX11_nextStage_38 (by decide) ?_
          refine lv_istore_n (lv' := [(2, .int 2), (1, va_rf a1)]) hx hb dX11_nextStage_39 rfl hl (by decide) (by generalize a1 = y; cases y <;> rfl) (fun ls hl => ?_)
          have hl : lv_has ls 3 [(2, .int 2)] := lv_sub hl [0] rfl
          exact jn11 2 κ12 ls _ _ _ _ hl hw hH
  · skip
    refine w_if_ne (tgt := 22) hF dX11_nextStage_6 rfl hw (fun hw => ?_) (fun hw => ?_)
    · have hl : lv_has ls 3 [(2, .int z1), (1, va_rf a1)] := lv_sub hl [0, 2] rfl
      exact jn6 z1 κ ls _ _ _ _ hl hw hH
    · refine w_aloadq_n hF dX11_nextStage_9 rfl (lv_at hl 2 rfl) ?_
      refine cw_getsD hF hH hE (wc_33 7 rfl) dX11_nextStage_10 ?_
      refine lv_iconst (v := 1) hx hb dX11_nextStage_13 (by decide) ?_
      refine cw_cViq (q := a1) (As := [.ref G.2.2.2.1, .int 1]) (rest := []) hF hH hA hE mv_X11_900 ci_X5 (by decide) hw (fun b hw sz => c_X5_matches l D t G _ b (some G.2.2.2.1) 1 _ hw sz) dX11_nextStage_14 ⟨Nat.le_of_ble_eq_true rfl, Nat.le_of_ble_eq_true rfl⟩ rfl hl.1 (Nat.le_of_ble_eq_true rfl) rfl (fun z15 κ14 H locs cells slots hw hH => ?_)
      refine w_if_ne (tgt := 22) hF dX11_nextStage_17 rfl hw (fun hw => ?_) (fun hw => ?_)
      · have hl : lv_has ls 3 [(2, .int z1), (1, va_rf a1)] := lv_sub hl [0, 2] rfl
        exact jn6 z1 κ14 ls _ _ _ _ hl hw hH
      · refine lv_iconst (v := 1) hx hb dX11_nextStage_20 (by decide) ?_
        refine lv_istore_n (lv' := [(2, .int 1), (0, .ref h), (1, va_rf a1)]) hx hb dX11_nextStage_21 rfl hl (by decide) (by generalize a1 = y; cases y <;> rfl) (fun ls hl => ?_)
        have hl : lv_has ls 3 [(2, .int 1), (1, va_rf a1)] := lv_sub hl [0, 2] rfl
        exact jn6 1 κ14 ls _ _ _ _ hl hw hH
set_option maxRecDepth 100000 in
def F_X11_entryNode (G : GE) (h : Nat) (a1 : Option Nat) (a2 : Int32) (post : Option Nat → CS → Prop) (κ : CS) : Prop := jc (fun (K3 : Unit → CS → Prop) => ((a2.toInt = 0) → K3 () κ) ∧ ((¬ a2.toInt = 0) → jc (fun (K9 : Unit → CS → Prop) => ((¬ a2.toInt = (1 : Int32).toInt) → K9 () κ) ∧ ((a2.toInt = (1 : Int32).toInt) → ∃ b : Nat, a1 = some b ∧ (b ∈ sL κ.1 ∧ sK κ.1 b = 10) ∧ ∀ z50 : Option Nat, z50 = sP κ.1 b 2 → ∃ b : Nat, z50 = some b ∧ (b ∈ sL κ.1 ∧ sK κ.1 b = 5) ∧ ∀ z51 : Int32, z51 = sI κ.1 b 4 → ((¬ z51.toInt = ((-1) : Int32).toInt) → K9 () κ) ∧ ((z51.toInt = ((-1) : Int32).toInt) → K3 () κ))) (fun (x7 : Unit) (κ8 : CS) => ((¬ a2.toInt = (1 : Int32).toInt) → lc (fun (K14 : (Int32 × Option Nat) → CS → Prop) (x12 : Int32 × Option Nat) (κ13 : CS) => (((80 : Int32).toInt ≤ x12.1.toInt) → post x12.2 κ13) ∧ ((x12.1.toInt < (80 : Int32).toInt) → (h ∈ sL κ13.1 ∧ sK κ13.1 h = 1) ∧ ∀ z16 : Option Nat, z16 = sP κ13.1 h 3 → ∃ b : Nat, z16 = some b ∧ (b ∈ sL κ13.1 ∧ sK κ13.1 b = 6) ∧ F_X9_node G b x12.1 (fun (z18 : Option Nat) (κ17 : CS) => jc (fun (K21 : (Option Nat) → CS → Prop) => ((z18 = none) → K21 x12.2 κ17) ∧ ((¬ z18 = none) → ∃ b : Nat, z18 = some b ∧ (b ∈ sL κ17.1 ∧ sK κ17.1 b = 5) ∧ ∀ z25 : Int32, z25 = sI κ17.1 b 4 → ∃ b : Nat, a1 = some b ∧ (b ∈ sL κ17.1 ∧ sK κ17.1 b = 10) ∧ ∀ z26 : Option Nat, z26 = sP κ17.1 b 2 → ∃ b : Nat, z26 = some b ∧ (b ∈ sL κ17.1 ∧ sK κ17.1 b = 5) ∧ ∀ z27 : Int32, z27 = sI κ17.1 b 0 → ((¬ z25.toInt = z27.toInt) → K21 x12.2 κ17) ∧ ((z25.toInt = z27.toInt) → ∃ b : Nat, a1 = some b ∧ (b ∈ sL κ17.1 ∧ sK κ17.1 b = 10) ∧ ∀ z28 : Option Nat, z28 = sP κ17.1 b 13 → ∃ b : Nat, a1 = some b ∧ (b ∈ sL κ17.1 ∧ sK κ17.1 b = 10) ∧ ∀ z29 : Int32, z29 = sI κ17.1 b 14 → ∃ b : Nat, z18 = some b ∧ (b ∈ sL κ17.1 ∧ sK κ17.1 b = 5) ∧ F_X4_isBehind G b z28 z29 (fun (z31 : Int32) (κ30 : CS) => ((z31.toInt = 0) → K21 x12.2 κ30) ∧ ((¬ z31.toInt = 0) → jc (fun (K34 : Unit → CS → Prop) => ((x12.2 = none) → K34 () κ30) ∧ ((¬ x12.2 = none) → ∃ b : Nat, z18 = some b ∧ (b ∈ sL κ30.1 ∧ sK κ30.1 b = 5) ∧ ∀ z41 : Option Nat, z41 = sP κ30.1 b 5 → ∃ b : Nat, z18 = some b ∧ (b ∈ sL κ30.1 ∧ sK κ30.1 b = 5) ∧ ∀ z42 : Int32, z42 = sI κ30.1 b 6 → ∃ b : Nat, x12.2 = some b ∧ (b ∈ sL κ30.1 ∧ sK κ30.1 b = 5) ∧ F_X4_isBehind G b z41 z42 (fun (z44 : Int32) (κ43 : CS) => ((z44.toInt = 0) → K21 x12.2 κ43) ∧ ((¬ z44.toInt = 0) → K34 () κ43)) κ30)) (fun (x32 : Unit) (κ33 : CS) => ∃ b : Nat, z18 = some b ∧ (b ∈ sL κ33.1 ∧ sK κ33.1 b = 5) ∧ ∀ z37 : Option Nat, z37 = sP κ33.1 b 5 → ∃ b : Nat, z18 = some b ∧ (b ∈ sL κ33.1 ∧ sK κ33.1 b = 5) ∧ ∀ z38 : Int32, z38 = sI κ33.1 b 6 → ∃ b : Nat, a1 = some b ∧ (b ∈ sL κ33.1 ∧ sK κ33.1 b = 10) ∧ F_X5_matches G b z37 z38 (fun (z40 : Int32) (κ39 : CS) => ((z40.toInt = 0) → K21 x12.2 κ39) ∧ ((¬ z40.toInt = 0) → K21 z18 κ39)) κ33))) κ17))) (fun (x19 : Option Nat) (κ20 : CS) => ∀ z24 : Int32, z24 = x12.1 + 1 → K14 (z24, x19) κ20)) κ13)) (0, (none : Option Nat)) κ8) ∧ ((a2.toInt = (1 : Int32).toInt) → (h ∈ sL κ8.1 ∧ sK κ8.1 h = 1) ∧ ∀ z45 : Option Nat, z45 = sP κ8.1 h 3 → ∃ b : Nat, a1 = some b ∧ (b ∈ sL κ8.1 ∧ sK κ8.1 b = 10) ∧ ∀ z46 : Option Nat, z46 = sP κ8.1 b 2 → ∃ b : Nat, z46 = some b ∧ (b ∈ sL κ8.1 ∧ sK κ8.1 b = 5) ∧ ∀ z47 : Int32, z47 = sI κ8.1 b 4 → ∃ b : Nat, z45 = some b ∧ (b ∈ sL κ8.1 ∧ sK κ8.1 b = 6) ∧ F_X9_node G b z47 (fun (z49 : Option Nat) (κ48 : CS) => post z49 κ48) κ8)))) (fun (x1 : Unit) (κ2 : CS) => ∃ b : Nat, a1 = some b ∧ (b ∈ sL κ2.1 ∧ sK κ2.1 b = 10) ∧ ∀ z6 : Option Nat, z6 = sP κ2.1 b 2 → post z6 κ2)
theorem dX11_entryNode_0 : decode cX11_entryNode 0 = .ok (.iload_n 2, 1) := by decide +kernel
theorem dX11_entryNode_1 : decode cX11_entryNode 1 = .ok (.ifCond .eq 19, 3) := by decide +kernel
theorem dX11_entryNode_4 : decode cX11_entryNode 4 = .ok (.iload_n 2, 1) := by decide +kernel
theorem dX11_entryNode_5 : decode cX11_entryNode 5 = .ok (.iconst 1, 1) := by decide +kernel
theorem dX11_entryNode_6 : decode cX11_entryNode 6 = .ok (.if_icmp .ne 19, 3) := by decide +kernel
theorem dX11_entryNode_9 : decode cX11_entryNode 9 = .ok (.aload_n 1, 1) := by decide +kernel
theorem dX11_entryNode_10 : decode cX11_entryNode 10 = .ok (.getfield 564, 3) := by decide +kernel
theorem dX11_entryNode_13 : decode cX11_entryNode 13 = .ok (.getfield 752, 3) := by decide +kernel
theorem dX11_entryNode_16 : decode cX11_entryNode 16 = .ok (.iconst (-1), 1) := by decide +kernel
theorem dX11_entryNode_17 : decode cX11_entryNode 17 = .ok (.if_icmp .ne 8, 3) := by decide +kernel
theorem dX11_entryNode_20 : decode cX11_entryNode 20 = .ok (.aload_n 1, 1) := by decide +kernel
theorem dX11_entryNode_21 : decode cX11_entryNode 21 = .ok (.getfield 564, 3) := by decide +kernel
theorem dX11_entryNode_24 : decode cX11_entryNode 24 = .ok (.areturn, 1) := by decide +kernel
theorem dX11_entryNode_25 : decode cX11_entryNode 25 = .ok (.iload_n 2, 1) := by decide +kernel
theorem dX11_entryNode_26 : decode cX11_entryNode 26 = .ok (.iconst 1, 1) := by decide +kernel
theorem dX11_entryNode_27 : decode cX11_entryNode 27 = .ok (.if_icmp .ne 18, 3) := by decide +kernel
theorem dX11_entryNode_30 : decode cX11_entryNode 30 = .ok (.aload_n 0, 1) := by decide +kernel
theorem dX11_entryNode_31 : decode cX11_entryNode 31 = .ok (.getfield 29, 3) := by decide +kernel
theorem dX11_entryNode_34 : decode cX11_entryNode 34 = .ok (.aload_n 1, 1) := by decide +kernel
theorem dX11_entryNode_35 : decode cX11_entryNode 35 = .ok (.getfield 564, 3) := by decide +kernel
theorem dX11_entryNode_38 : decode cX11_entryNode 38 = .ok (.getfield 752, 3) := by decide +kernel
theorem dX11_entryNode_41 : decode cX11_entryNode 41 = .ok (.invokevirtual 214, 3) := by decide +kernel
theorem dX11_entryNode_44 : decode cX11_entryNode 44 = .ok (.areturn, 1) := by decide +kernel
theorem dX11_entryNode_45 : decode cX11_entryNode 45 = .ok (.aconst_null, 1) := by decide +kernel
theorem dX11_entryNode_46 : decode cX11_entryNode 46 = .ok (.astore_n 3, 1) := by decide +kernel
theorem dX11_entryNode_47 : decode cX11_entryNode 47 = .ok (.iconst 0, 1) := by decide +kernel
theorem dX11_entryNode_48 : decode cX11_entryNode 48 = .ok (.istore 4, 2) := by decide +kernel
theorem dX11_entryNode_50 : decode cX11_entryNode 50 = .ok (.iload 4, 2) := by decide +kernel
theorem dX11_entryNode_52 : decode cX11_entryNode 52 = .ok (.bipush 80, 2) := by decide +kernel
theorem dX11_entryNode_54 : decode cX11_entryNode 54 = .ok (.if_icmp .ge 97, 3) := by decide +kernel
theorem dX11_entryNode_57 : decode cX11_entryNode 57 = .ok (.aload_n 0, 1) := by decide +kernel
theorem dX11_entryNode_58 : decode cX11_entryNode 58 = .ok (.getfield 29, 3) := by decide +kernel
theorem dX11_entryNode_61 : decode cX11_entryNode 61 = .ok (.iload 4, 2) := by decide +kernel
theorem dX11_entryNode_63 : decode cX11_entryNode 63 = .ok (.invokevirtual 214, 3) := by decide +kernel
theorem dX11_entryNode_66 : decode cX11_entryNode 66 = .ok (.astore 5, 2) := by decide +kernel
theorem dX11_entryNode_68 : decode cX11_entryNode 68 = .ok (.aload 5, 2) := by decide +kernel
theorem dX11_entryNode_70 : decode cX11_entryNode 70 = .ok (.ifnull 75, 3) := by decide +kernel
theorem dX11_entryNode_73 : decode cX11_entryNode 73 = .ok (.aload 5, 2) := by decide +kernel
theorem dX11_entryNode_75 : decode cX11_entryNode 75 = .ok (.getfield 752, 3) := by decide +kernel
theorem dX11_entryNode_78 : decode cX11_entryNode 78 = .ok (.aload_n 1, 1) := by decide +kernel
theorem dX11_entryNode_79 : decode cX11_entryNode 79 = .ok (.getfield 564, 3) := by decide +kernel
theorem dX11_entryNode_82 : decode cX11_entryNode 82 = .ok (.getfield 248, 3) := by decide +kernel
theorem dX11_entryNode_85 : decode cX11_entryNode 85 = .ok (.if_icmp .ne 60, 3) := by decide +kernel
theorem dX11_entryNode_88 : decode cX11_entryNode 88 = .ok (.aload 5, 2) := by decide +kernel
theorem dX11_entryNode_90 : decode cX11_entryNode 90 = .ok (.aload_n 1, 1) := by decide +kernel
theorem dX11_entryNode_91 : decode cX11_entryNode 91 = .ok (.getfield 904, 3) := by decide +kernel
theorem dX11_entryNode_94 : decode cX11_entryNode 94 = .ok (.aload_n 1, 1) := by decide +kernel
theorem dX11_entryNode_95 : decode cX11_entryNode 95 = .ok (.getfield 907, 3) := by decide +kernel
theorem dX11_entryNode_98 : decode cX11_entryNode 98 = .ok (.invokevirtual 910, 3) := by decide +kernel
theorem dX11_entryNode_101 : decode cX11_entryNode 101 = .ok (.ifCond .eq 44, 3) := by decide +kernel
theorem dX11_entryNode_104 : decode cX11_entryNode 104 = .ok (.aload_n 3, 1) := by decide +kernel
theorem dX11_entryNode_105 : decode cX11_entryNode 105 = .ok (.ifnull 20, 3) := by decide +kernel
theorem dX11_entryNode_108 : decode cX11_entryNode 108 = .ok (.aload_n 3, 1) := by decide +kernel
theorem dX11_entryNode_109 : decode cX11_entryNode 109 = .ok (.aload 5, 2) := by decide +kernel
theorem dX11_entryNode_111 : decode cX11_entryNode 111 = .ok (.getfield 223, 3) := by decide +kernel
theorem dX11_entryNode_114 : decode cX11_entryNode 114 = .ok (.aload 5, 2) := by decide +kernel
theorem dX11_entryNode_116 : decode cX11_entryNode 116 = .ok (.getfield 218, 3) := by decide +kernel
theorem dX11_entryNode_119 : decode cX11_entryNode 119 = .ok (.invokevirtual 910, 3) := by decide +kernel
theorem dX11_entryNode_122 : decode cX11_entryNode 122 = .ok (.ifCond .eq 23, 3) := by decide +kernel
theorem dX11_entryNode_125 : decode cX11_entryNode 125 = .ok (.aload_n 1, 1) := by decide +kernel
theorem dX11_entryNode_126 : decode cX11_entryNode 126 = .ok (.aload 5, 2) := by decide +kernel
theorem dX11_entryNode_128 : decode cX11_entryNode 128 = .ok (.getfield 223, 3) := by decide +kernel
theorem dX11_entryNode_131 : decode cX11_entryNode 131 = .ok (.aload 5, 2) := by decide +kernel
theorem dX11_entryNode_133 : decode cX11_entryNode 133 = .ok (.getfield 218, 3) := by decide +kernel
theorem dX11_entryNode_136 : decode cX11_entryNode 136 = .ok (.invokevirtual 900, 3) := by decide +kernel
theorem dX11_entryNode_139 : decode cX11_entryNode 139 = .ok (.ifCond .eq 6, 3) := by decide +kernel
theorem dX11_entryNode_142 : decode cX11_entryNode 142 = .ok (.aload 5, 2) := by decide +kernel
theorem dX11_entryNode_144 : decode cX11_entryNode 144 = .ok (.astore_n 3, 1) := by decide +kernel
theorem dX11_entryNode_145 : decode cX11_entryNode 145 = .ok (.iinc 4 1, 3) := by decide +kernel
theorem dX11_entryNode_148 : decode cX11_entryNode 148 = .ok (.goto (-98), 3) := by decide +kernel
theorem dX11_entryNode_151 : decode cX11_entryNode 151 = .ok (.aload_n 3, 1) := by decide +kernel
theorem dX11_entryNode_152 : decode cX11_entryNode 152 = .ok (.areturn, 1) := by decide +kernel
set_option maxRecDepth 100000 in
set_option maxHeartbeats 4000000 in
theorem c_X11_entryNode (l : Launch) (D : va_G) (t : Nat → ClassId) (G : GE) (κ : CS) (h : Nat) (a1 : Option Nat) (a2 : Int32) (post : Option Nat → CS → Prop) (hw : F_X11_entryNode G h a1 a2 post κ) (sz : Nat) : CMq l D t yX11_entryNode cX11_entryNode 6 (some (.object "ShareHouse$Node")) 2 65 G κ sz [.ref h, va_rf a1, .int a2] post := by
  refine c_go (by decide) (by cases a1 <;> exact Nat.le_of_ble_eq_true rfl) ?_
  intro p e s m below meth c ls A hF hr hlk hin hAe hH hA hE hl
  unfold cB
  rw [hAe]
  clear hAe
  have hF : FX p m c cX11_entryNode 6 s _ RX11 D t := hF
  have hx := hF.1.1
  have hb := hF.1.2.1
  have hl : lv_has ls 6 [(0, .ref h), (1, va_rf a1), (2, .int a2)] := (by have h2 := hl; clear hw; revert h2; cases a1 <;> exact id)
  unfold F_X11_entryNode at hw
  refine lv_iload_n hx hb dX11_entryNode_0 rfl (lv_at hl 2 rfl) ?_
  obtain ⟨K3, hK4, hw⟩ := jc_open hw
  refine cw_join (K := K3) 20 (fun (x1 : Unit) => [(1, va_rf a1)]) (fun (x1 : Unit) => []) hl hH (fun x1 κ2 ls H locs cells slots hl hw hH => ?_) (fun jn5 => ?_)
  · have hw := hK4 x1 κ2 hw
    have hl : lv_has ls 6 [(1, va_rf a1)] := hl
    refine w_aloadq_n hF dX11_entryNode_20 rfl (lv_at hl 0 rfl) ?_
    refine cw_getP (q := a1) hF hH fk_X11_564 dX11_entryNode_21 hw (fun z6 hw => ?_)
    exact cw_retq (v := z6) hF hH ⟨rfl, rfl⟩ hr (by first | exact Or.inl ⟨_, rfl⟩ | exact Or.inr ⟨_, rfl⟩) hlk dX11_entryNode_24 hw
  · skip
    refine w_if_eq (tgt := 20) hF dX11_entryNode_1 rfl hw (fun hw => ?_) (fun hw => ?_)
    · have hl : lv_has ls 6 [(1, va_rf a1)] := lv_sub hl [1] rfl
      exact jn5 () κ ls _ _ _ _ hl hw hH
    · refine lv_iload_n hx hb dX11_entryNode_4 rfl (lv_at hl 2 rfl) ?_
      refine lv_iconst (v := 1) hx hb dX11_entryNode_5 (by decide) ?_
      obtain ⟨K9, hK10, hw⟩ := jc_open hw
      refine cw_join (K := K9) 25 (fun (x7 : Unit) => [(2, .int a2), (1, va_rf a1), (0, .ref h)]) (fun (x7 : Unit) => []) hl hH (fun x7 κ8 ls H locs cells slots hl hw hH => ?_) (fun jn11 => ?_)
      · have hw := hK10 x7 κ8 hw
        have hl : lv_has ls 6 [(2, .int a2), (1, va_rf a1), (0, .ref h)] := hl
        refine lv_iload_n hx hb dX11_entryNode_25 rfl (lv_at hl 0 rfl) ?_
        refine lv_iconst (v := 1) hx hb dX11_entryNode_26 (by decide) ?_
        refine w_icmp_ne (tgt := 45) hF dX11_entryNode_27 rfl hw (fun hw => ?_) (fun hw => ?_)
        · refine cw_null dX11_entryNode_45 hF ?_
          refine w_astoreq_n (lv' := [(3, va_rf (none : Option Nat)), (2, .int a2), (1, va_rf a1), (0, .ref h)]) hF dX11_entryNode_46 rfl hl (by decide) rfl (fun ls hl => ?_)
          refine lv_iconst (v := 0) hx hb dX11_entryNode_47 (by decide) ?_
          refine lv_istore (lv' := [(4, .int 0), (3, va_rf (none : Option Nat)), (2, .int a2), (1, va_rf a1), (0, .ref h)]) hx hb dX11_entryNode_48 hl (by decide) (by generalize (none : Option Nat) = y; cases y <;> rfl) (fun ls hl => ?_)
          have hl : lv_has ls 6 [(4, .int 0), (3, va_rf (none : Option Nat)), (1, va_rf a1), (0, .ref h)] := lv_sub hl [0, 1, 3, 4] rfl
          refine cw_loop (β := Int32 × Option Nat) (fun x12 => [(4, .int x12.1), (3, va_rf x12.2), (1, va_rf a1), (0, .ref h)]) (0, (none : Option Nat)) hl hw hH (fun K14 x12 κ13 ls H locs cells slots hl hw hH ih15 => ?_)
          have hl : lv_has ls 6 [(4, .int x12.1), (3, va_rf x12.2), (1, va_rf a1), (0, .ref h)] := hl
          refine lv_iload hx hb dX11_entryNode_50 (lv_at hl 0 rfl) ?_
          refine lv_bipush (v := 80) hx hb dX11_entryNode_52 (by decide) ?_
          refine w_icmp_ge (tgt := 151) hF dX11_entryNode_54 rfl hw (fun hw => ?_) (fun hw => ?_)
          · refine w_aloadq_n hF dX11_entryNode_151 rfl (lv_at hl 1 rfl) ?_
            exact cw_retq (v := x12.2) hF hH ⟨rfl, rfl⟩ hr (by first | exact Or.inl ⟨_, rfl⟩ | exact Or.inr ⟨_, rfl⟩) hlk dX11_entryNode_152 hw
          · refine lv_aload_n hx hb dX11_entryNode_57 rfl (lv_at hl 3 rfl) ?_
            refine cw_getPr (a := h) hF hH fk_X11_29 dX11_entryNode_58 hw (fun z16 hw => ?_)
            refine lv_iload hx hb dX11_entryNode_61 (lv_at hl 0 rfl) ?_
            refine cw_cVqq (q := z16) (As := [.int x12.1]) (rest := []) hF hH hA hE mv_X11_214 ci_X9 (by decide) hw (fun b hw sz => c_X9_node l D t G _ b x12.1 _ hw sz) dX11_entryNode_63 ⟨Nat.le_of_ble_eq_true rfl, Nat.le_of_ble_eq_true rfl⟩ rfl hl.1 (Nat.le_of_ble_eq_true rfl) rfl (fun z18 κ17 H locs cells slots hw hH => ?_)
            refine w_astoreq (lv' := [(5, va_rf z18), (4, .int x12.1), (3, va_rf x12.2), (1, va_rf a1), (0, .ref h)]) hF dX11_entryNode_66 hl (by decide) rfl (fun ls hl => ?_)
            refine w_aloadq hF dX11_entryNode_68 (lv_at hl 0 rfl) ?_
            obtain ⟨K21, hK22, hw⟩ := jc_open hw
            refine cw_join (K := K21) 145 (fun (x19 : Option Nat) => [(4, .int x12.1), (3, va_rf x19), (1, va_rf a1), (0, .ref h)]) (fun (x19 : Option Nat) => []) hl hH (fun x19 κ20 ls H locs cells slots hl hw hH => ?_) (fun jn23 => ?_)
            · have hw := hK22 x19 κ20 hw
              have hl : lv_has ls 6 [(4, .int x12.1), (3, va_rf x19), (1, va_rf a1), (0, .ref h)] := hl
              obtain ⟨z24, ez24⟩ : ∃ z : Int32, z = x12.1 + 1 := ⟨_, rfl⟩
              have hw := hw z24 ez24
              refine lv_iinc (lv' := [(4, .int z24), (3, va_rf x19), (1, va_rf a1), (0, .ref h)]) (k := 0) (v := z24) hx hb dX11_entryNode_145 hl rfl ez24.symm (by decide) (by generalize x19 = y; cases y <;> rfl) (fun ls hl => ?_)
              refine lv_goto (tgt := 50) hx hb dX11_entryNode_148 rfl ?_
              exact ih15 (z24, x19) κ20 ls _ _ _ _ hl hw hH
            · skip
              refine cw_ifnull (q := z18) (tgt := 145) hF dX11_entryNode_70 rfl hw (fun hw => ?_) (fun hw => ?_)
              · have hl : lv_has ls 6 [(4, .int x12.1), (3, va_rf x12.2), (1, va_rf a1), (0, .ref h)] := lv_sub hl [1, 2, 3, 4] rfl
                exact jn23 x12.2 κ17 ls _ _ _ _ hl hw hH
              · refine w_aloadq hF dX11_entryNode_73 (lv_at hl 0 rfl) ?_
                refine cw_getI (q := z18) hF hH fk_X11_752 dX11_entryNode_75 hw (fun z25 hw => ?_)
                refine w_aloadq_n hF dX11_entryNode_78 rfl (lv_at hl 3 rfl) ?_
                refine cw_getP (q := a1) hF hH fk_X11_564 dX11_entryNode_79 hw (fun z26 hw => ?_)
                refine cw_getI (q := z26) hF hH fk_X11_248 dX11_entryNode_82 hw (fun z27 hw => ?_)
                refine w_icmp_ne (tgt := 145) hF dX11_entryNode_85 rfl hw (fun hw => ?_) (fun hw => ?_)
                · have hl : lv_has ls 6 [(4, .int x12.1), (3, va_rf x12.2), (1, va_rf a1), (0, .ref h)] := lv_sub hl [1, 2, 3, 4] rfl
                  exact jn23 x12.2 κ17 ls _ _ _ _ hl hw hH
                · refine w_aloadq hF dX11_entryNode_88 (lv_at hl 0 rfl) ?_
                  refine w_aloadq_n hF dX11_entryNode_90 rfl (lv_at hl 3 rfl) ?_
                  refine cw_getP (q := a1) hF hH fk_X11_904 dX11_entryNode_91 hw (fun z28 hw => ?_)
                  refine w_aloadq_n hF dX11_entryNode_94 rfl (lv_at hl 3 rfl) ?_
                  refine cw_getI (q := a1) hF hH fk_X11_907 dX11_entryNode_95 hw (fun z29 hw => ?_)
                  refine cw_cViq (q := z18) (As := [va_rf z28, .int z29]) (rest := []) hF hH hA hE mv_X11_910 ci_X4 (by decide) hw (fun b hw sz => c_X4_isBehind l D t G _ b z28 z29 _ hw sz) dX11_entryNode_98 ⟨Nat.le_of_ble_eq_true rfl, Nat.le_of_ble_eq_true rfl⟩ rfl hl.1 (Nat.le_of_ble_eq_true rfl) rfl (fun z31 κ30 H locs cells slots hw hH => ?_)
                  refine w_if_eq (tgt := 145) hF dX11_entryNode_101 rfl hw (fun hw => ?_) (fun hw => ?_)
                  · have hl : lv_has ls 6 [(4, .int x12.1), (3, va_rf x12.2), (1, va_rf a1), (0, .ref h)] := lv_sub hl [1, 2, 3, 4] rfl
                    exact jn23 x12.2 κ30 ls _ _ _ _ hl hw hH
                  · refine w_aloadq_n hF dX11_entryNode_104 rfl (lv_at hl 2 rfl) ?_
                    obtain ⟨K34, hK35, hw⟩ := jc_open hw
                    refine cw_join (K := K34) 125 (fun (x32 : Unit) => [(5, va_rf z18), (4, .int x12.1), (3, va_rf x12.2), (1, va_rf a1), (0, .ref h)]) (fun (x32 : Unit) => []) hl hH (fun x32 κ33 ls H locs cells slots hl hw hH => ?_) (fun jn36 => ?_)
                    · have hw := hK35 x32 κ33 hw
                      have hl : lv_has ls 6 [(5, va_rf z18), (4, .int x12.1), (3, va_rf x12.2), (1, va_rf a1), (0, .ref h)] := hl
                      refine w_aloadq_n hF dX11_entryNode_125 rfl (lv_at hl 3 rfl) ?_
                      refine w_aloadq hF dX11_entryNode_126 (lv_at hl 0 rfl) ?_
                      refine cw_getP (q := z18) hF hH fk_X11_223 dX11_entryNode_128 hw (fun z37 hw => ?_)
                      refine w_aloadq hF dX11_entryNode_131 (lv_at hl 0 rfl) ?_
                      refine cw_getI (q := z18) hF hH fk_X11_218 dX11_entryNode_133 hw (fun z38 hw => ?_)
                      refine cw_cViq (q := a1) (As := [va_rf z37, .int z38]) (rest := []) hF hH hA hE mv_X11_900 ci_X5 (by decide) hw (fun b hw sz => c_X5_matches l D t G _ b z37 z38 _ hw sz) dX11_entryNode_136 ⟨Nat.le_of_ble_eq_true rfl, Nat.le_of_ble_eq_true rfl⟩ rfl hl.1 (Nat.le_of_ble_eq_true rfl) rfl (fun z40 κ39 H locs cells slots hw hH => ?_)
                      refine w_if_eq (tgt := 145) hF dX11_entryNode_139 rfl hw (fun hw => ?_) (fun hw => ?_)
                      · have hl : lv_has ls 6 [(4, .int x12.1), (3, va_rf x12.2), (1, va_rf a1), (0, .ref h)] := lv_sub hl [1, 2, 3, 4] rfl
                        exact jn23 x12.2 κ39 ls _ _ _ _ hl hw hH
                      · refine w_aloadq hF dX11_entryNode_142 (lv_at hl 0 rfl) ?_
                        refine w_astoreq_n (lv' := [(3, va_rf z18), (5, va_rf z18), (4, .int x12.1), (1, va_rf a1), (0, .ref h)]) hF dX11_entryNode_144 rfl hl (by decide) rfl (fun ls hl => ?_)
                        have hl : lv_has ls 6 [(4, .int x12.1), (3, va_rf z18), (1, va_rf a1), (0, .ref h)] := lv_sub hl [2, 0, 3, 4] rfl
                        exact jn23 z18 κ39 ls _ _ _ _ hl hw hH
                    · skip
                      refine cw_ifnull (q := x12.2) (tgt := 125) hF dX11_entryNode_105 rfl hw (fun hw => ?_) (fun hw => ?_)
                      · exact jn36 () κ30 ls _ _ _ _ hl hw hH
                      · refine w_aloadq_n hF dX11_entryNode_108 rfl (lv_at hl 2 rfl) ?_
                        refine w_aloadq hF dX11_entryNode_109 (lv_at hl 0 rfl) ?_
                        refine cw_getP (q := z18) hF hH fk_X11_223 dX11_entryNode_111 hw (fun z41 hw => ?_)
                        refine w_aloadq hF dX11_entryNode_114 (lv_at hl 0 rfl) ?_
                        refine cw_getI (q := z18) hF hH fk_X11_218 dX11_entryNode_116 hw (fun z42 hw => ?_)
                        refine cw_cViq (q := x12.2) (As := [va_rf z41, .int z42]) (rest := []) hF hH hA hE mv_X11_910 ci_X4 (by decide) hw (fun b hw sz => c_X4_isBehind l D t G _ b z41 z42 _ hw sz) dX11_entryNode_119 ⟨Nat.le_of_ble_eq_true rfl, Nat.le_of_ble_eq_true rfl⟩ rfl hl.1 (Nat.le_of_ble_eq_true rfl) rfl (fun z44 κ43 H locs cells slots hw hH => ?_)
                        refine w_if_eq (tgt := 145) hF dX11_entryNode_122 rfl hw (fun hw => ?_) (fun hw => ?_)
                        · have hl : lv_has ls 6 [(4, .int x12.1), (3, va_rf x12.2), (1, va_rf a1), (0, .ref h)] := lv_sub hl [1, 2, 3, 4] rfl
                          exact jn23 x12.2 κ43 ls _ _ _ _ hl hw hH
                        · exact jn36 () κ43 ls _ _ _ _ hl hw hH
        · refine lv_aload_n hx hb dX11_entryNode_30 rfl (lv_at hl 2 rfl) ?_
          refine cw_getPr (a := h) hF hH fk_X11_29 dX11_entryNode_31 hw (fun z45 hw => ?_)
          refine w_aloadq_n hF dX11_entryNode_34 rfl (lv_at hl 1 rfl) ?_
          refine cw_getP (q := a1) hF hH fk_X11_564 dX11_entryNode_35 hw (fun z46 hw => ?_)
          refine cw_getI (q := z46) hF hH fk_X11_752 dX11_entryNode_38 hw (fun z47 hw => ?_)
          refine cw_cVqq (q := z45) (As := [.int z47]) (rest := []) hF hH hA hE mv_X11_214 ci_X9 (by decide) hw (fun b hw sz => c_X9_node l D t G _ b z47 _ hw sz) dX11_entryNode_41 ⟨Nat.le_of_ble_eq_true rfl, Nat.le_of_ble_eq_true rfl⟩ rfl hl.1 (Nat.le_of_ble_eq_true rfl) rfl (fun z49 κ48 H locs cells slots hw hH => ?_)
          exact cw_retq (v := z49) hF hH ⟨rfl, rfl⟩ hr (by first | exact Or.inl ⟨_, rfl⟩ | exact Or.inr ⟨_, rfl⟩) hlk dX11_entryNode_44 hw
      · skip
        refine w_icmp_ne (tgt := 25) hF dX11_entryNode_6 rfl hw (fun hw => ?_) (fun hw => ?_)
        · have hl : lv_has ls 6 [(2, .int a2), (1, va_rf a1), (0, .ref h)] := lv_sub hl [2, 1, 0] rfl
          exact jn11 () κ ls _ _ _ _ hl hw hH
        · refine w_aloadq_n hF dX11_entryNode_9 rfl (lv_at hl 1 rfl) ?_
          refine cw_getP (q := a1) hF hH fk_X11_564 dX11_entryNode_10 hw (fun z50 hw => ?_)
          refine cw_getI (q := z50) hF hH fk_X11_752 dX11_entryNode_13 hw (fun z51 hw => ?_)
          refine lv_iconst (v := (-1)) hx hb dX11_entryNode_16 (by decide) ?_
          refine w_icmp_ne (tgt := 25) hF dX11_entryNode_17 rfl hw (fun hw => ?_) (fun hw => ?_)
          · have hl : lv_has ls 6 [(2, .int a2), (1, va_rf a1), (0, .ref h)] := lv_sub hl [2, 1, 0] rfl
            exact jn11 () κ ls _ _ _ _ hl hw hH
          · have hl : lv_has ls 6 [(1, va_rf a1)] := lv_sub hl [1] rfl
            exact jn5 () κ ls _ _ _ _ hl hw hH
set_option maxRecDepth 100000 in
def F_X11_putEntry (G : GE) (h : Nat) (a1 : Int32) (a2 : Int32) (a3 : Option Nat) (a4 : Option Nat) (a5 : Int32) (post : CS → Prop) (κ : CS) : Prop := ∀ z1 : Int32, z1 = a1 + 8 → jc (fun (K4 : Int32 → CS → Prop) => ((¬ a2.toInt = (1 : Int32).toInt) → K4 z1 κ) ∧ ((a2.toInt = (1 : Int32).toInt) → (h ∈ sL κ.1 ∧ sK κ.1 h = 1) ∧ ∀ z31 : Option Nat, z31 = sP κ.1 h 15 → ∀ z32 : Int32, z32 = a1 + 8 → ∃ b : Nat, a3 = some b ∧ (b ∈ sL κ.1 ∧ sK κ.1 b = 5) ∧ F_X4_tellTimes G b z31 z32 (fun (κ33 : CS) => (h ∈ sL κ33.1 ∧ sK κ33.1 h = 1) ∧ ∀ z35 : Option Nat, z35 = sP κ33.1 h 15 → ∀ z36 : Int32, z36 = a1 + 40 → ∃ b : Nat, a3 = some b ∧ (b ∈ sL κ33.1 ∧ sK κ33.1 b = 5) ∧ ∀ z37 : Int32, z37 = sI κ33.1 b 12 → ∀ z38 : Int64, z38 = (z37 : Int32).toInt64 → ∃ b : Nat, z35 = some b ∧ (b ∈ sL κ33.1 ∧ sK κ33.1 b = 2) ∧ F_X6_put G b z36 8 z38 (fun (κ39 : CS) => (h ∈ sL κ39.1 ∧ sK κ39.1 h = 1) ∧ ∀ z41 : Option Nat, z41 = sP κ39.1 h 15 → ∀ z42 : Int32, z42 = a1 + 48 → ∃ b : Nat, a3 = some b ∧ (b ∈ sL κ39.1 ∧ sK κ39.1 b = 5) ∧ F_X4_room G b  (fun (z44 : Int32) (κ43 : CS) => ∀ z45 : Int64, z45 = (z44 : Int32).toInt64 → ∃ b : Nat, z41 = some b ∧ (b ∈ sL κ43.1 ∧ sK κ43.1 b = 2) ∧ F_X6_put G b z42 8 z45 (fun (κ46 : CS) => (h ∈ sL κ46.1 ∧ sK κ46.1 h = 1) ∧ ∀ z48 : Option Nat, z48 = sP κ46.1 h 15 → ∀ z49 : Int32, z49 = a1 + 56 → ∃ b : Nat, a3 = some b ∧ (b ∈ sL κ46.1 ∧ sK κ46.1 b = 5) ∧ F_X4_toldAttributes G b  (fun (z51 : Int32) (κ50 : CS) => ∀ z52 : Int64, z52 = (z51 : Int32).toInt64 → ∃ b : Nat, z48 = some b ∧ (b ∈ sL κ50.1 ∧ sK κ50.1 b = 2) ∧ F_X6_put G b z49 4 z52 (fun (κ53 : CS) => ∀ z55 : Int32, z55 = a1 + 60 → K4 z55 κ53) κ50) κ46) κ43) κ39) κ33) κ)) (fun (x2 : Int32) (κ3 : CS) => (h ∈ sL κ3.1 ∧ sK κ3.1 h = 1) ∧ ∀ z7 : Option Nat, z7 = sP κ3.1 h 15 → ∀ z8 : Int32, z8 = 2 * a5 → ∀ z9 : Int64, z9 = (z8 : Int32).toInt64 → ∃ b : Nat, z7 = some b ∧ (b ∈ sL κ3.1 ∧ sK κ3.1 b = 2) ∧ F_X6_put G b x2 4 z9 (fun (κ10 : CS) => lc (fun (K14 : Int32 → CS → Prop) (x12 : Int32) (κ13 : CS) => jc (fun (K18 : Unit → CS → Prop) => ((a5.toInt ≤ x12.toInt) → K18 () κ13) ∧ ((x12.toInt < a5.toInt) → ∃ n : Nat, AL G κ13 a4 n ∧ ∀ z21 : Int32, z21 = nI n → ((z21.toInt ≤ x12.toInt) → K18 () κ13) ∧ ((x12.toInt < z21.toInt) → (h ∈ sL κ13.1 ∧ sK κ13.1 h = 1) ∧ ∀ z22 : Option Nat, z22 = sP κ13.1 h 15 → ∀ z23 : Int32, z23 = x2 + 4 → ∀ z24 : Int32, z24 = 2 * x12 → ∀ z25 : Int32, z25 = z23 + z24 → ∃ (f : Nat → Int32) (n : Nat), BA G κ13 a4 f n ∧ (0 ≤ x12.toInt ∧ x12.toInt < (n : Int)) ∧ ∀ z26 : Int32, z26 = f x12.toInt.toNat → ∀ z27 : Int64, z27 = (z26 : Int32).toInt64 → ∃ b : Nat, z22 = some b ∧ (b ∈ sL κ13.1 ∧ sK κ13.1 b = 2) ∧ F_X6_put G b z25 2 z27 (fun (κ28 : CS) => ∀ z30 : Int32, z30 = x12 + 1 → K14 z30 κ28) κ13))) (fun (x16 : Unit) (κ17 : CS) => post κ17)) 0 κ10) κ3)
theorem dX11_putEntry_0 : decode cX11_putEntry 0 = .ok (.iload_n 1, 1) := by decide +kernel
theorem dX11_putEntry_1 : decode cX11_putEntry 1 = .ok (.bipush 8, 2) := by decide +kernel
theorem dX11_putEntry_3 : decode cX11_putEntry 3 = .ok (.iadd, 1) := by decide +kernel
theorem dX11_putEntry_4 : decode cX11_putEntry 4 = .ok (.istore 6, 2) := by decide +kernel
theorem dX11_putEntry_6 : decode cX11_putEntry 6 = .ok (.iload_n 2, 1) := by decide +kernel
theorem dX11_putEntry_7 : decode cX11_putEntry 7 = .ok (.iconst 1, 1) := by decide +kernel
theorem dX11_putEntry_8 : decode cX11_putEntry 8 = .ok (.if_icmp .ne 74, 3) := by decide +kernel
theorem dX11_putEntry_11 : decode cX11_putEntry 11 = .ok (.aload_n 3, 1) := by decide +kernel
theorem dX11_putEntry_12 : decode cX11_putEntry 12 = .ok (.aload_n 0, 1) := by decide +kernel
theorem dX11_putEntry_13 : decode cX11_putEntry 13 = .ok (.getfield 68, 3) := by decide +kernel
theorem dX11_putEntry_16 : decode cX11_putEntry 16 = .ok (.iload_n 1, 1) := by decide +kernel
theorem dX11_putEntry_17 : decode cX11_putEntry 17 = .ok (.bipush 8, 2) := by decide +kernel
theorem dX11_putEntry_19 : decode cX11_putEntry 19 = .ok (.iadd, 1) := by decide +kernel
theorem dX11_putEntry_20 : decode cX11_putEntry 20 = .ok (.invokevirtual 913, 3) := by decide +kernel
theorem dX11_putEntry_23 : decode cX11_putEntry 23 = .ok (.aload_n 0, 1) := by decide +kernel
theorem dX11_putEntry_24 : decode cX11_putEntry 24 = .ok (.getfield 68, 3) := by decide +kernel
theorem dX11_putEntry_27 : decode cX11_putEntry 27 = .ok (.iload_n 1, 1) := by decide +kernel
theorem dX11_putEntry_28 : decode cX11_putEntry 28 = .ok (.bipush 40, 2) := by decide +kernel
theorem dX11_putEntry_30 : decode cX11_putEntry 30 = .ok (.iadd, 1) := by decide +kernel
theorem dX11_putEntry_31 : decode cX11_putEntry 31 = .ok (.bipush 8, 2) := by decide +kernel
theorem dX11_putEntry_33 : decode cX11_putEntry 33 = .ok (.aload_n 3, 1) := by decide +kernel
theorem dX11_putEntry_34 : decode cX11_putEntry 34 = .ok (.getfield 789, 3) := by decide +kernel
theorem dX11_putEntry_37 : decode cX11_putEntry 37 = .ok (.i2l, 1) := by decide +kernel
theorem dX11_putEntry_38 : decode cX11_putEntry 38 = .ok (.invokevirtual 349, 3) := by decide +kernel
theorem dX11_putEntry_41 : decode cX11_putEntry 41 = .ok (.aload_n 0, 1) := by decide +kernel
theorem dX11_putEntry_42 : decode cX11_putEntry 42 = .ok (.getfield 68, 3) := by decide +kernel
theorem dX11_putEntry_45 : decode cX11_putEntry 45 = .ok (.iload_n 1, 1) := by decide +kernel
theorem dX11_putEntry_46 : decode cX11_putEntry 46 = .ok (.bipush 48, 2) := by decide +kernel
theorem dX11_putEntry_48 : decode cX11_putEntry 48 = .ok (.iadd, 1) := by decide +kernel
theorem dX11_putEntry_49 : decode cX11_putEntry 49 = .ok (.bipush 8, 2) := by decide +kernel
theorem dX11_putEntry_51 : decode cX11_putEntry 51 = .ok (.aload_n 3, 1) := by decide +kernel
theorem dX11_putEntry_52 : decode cX11_putEntry 52 = .ok (.invokevirtual 917, 3) := by decide +kernel
theorem dX11_putEntry_55 : decode cX11_putEntry 55 = .ok (.i2l, 1) := by decide +kernel
theorem dX11_putEntry_56 : decode cX11_putEntry 56 = .ok (.invokevirtual 349, 3) := by decide +kernel
theorem dX11_putEntry_59 : decode cX11_putEntry 59 = .ok (.aload_n 0, 1) := by decide +kernel
theorem dX11_putEntry_60 : decode cX11_putEntry 60 = .ok (.getfield 68, 3) := by decide +kernel
theorem dX11_putEntry_63 : decode cX11_putEntry 63 = .ok (.iload_n 1, 1) := by decide +kernel
theorem dX11_putEntry_64 : decode cX11_putEntry 64 = .ok (.bipush 56, 2) := by decide +kernel
theorem dX11_putEntry_66 : decode cX11_putEntry 66 = .ok (.iadd, 1) := by decide +kernel
theorem dX11_putEntry_67 : decode cX11_putEntry 67 = .ok (.iconst 4, 1) := by decide +kernel
theorem dX11_putEntry_68 : decode cX11_putEntry 68 = .ok (.aload_n 3, 1) := by decide +kernel
theorem dX11_putEntry_69 : decode cX11_putEntry 69 = .ok (.invokevirtual 920, 3) := by decide +kernel
theorem dX11_putEntry_72 : decode cX11_putEntry 72 = .ok (.i2l, 1) := by decide +kernel
theorem dX11_putEntry_73 : decode cX11_putEntry 73 = .ok (.invokevirtual 349, 3) := by decide +kernel
theorem dX11_putEntry_76 : decode cX11_putEntry 76 = .ok (.iload_n 1, 1) := by decide +kernel
theorem dX11_putEntry_77 : decode cX11_putEntry 77 = .ok (.bipush 60, 2) := by decide +kernel
theorem dX11_putEntry_79 : decode cX11_putEntry 79 = .ok (.iadd, 1) := by decide +kernel
theorem dX11_putEntry_80 : decode cX11_putEntry 80 = .ok (.istore 6, 2) := by decide +kernel
theorem dX11_putEntry_82 : decode cX11_putEntry 82 = .ok (.aload_n 0, 1) := by decide +kernel
theorem dX11_putEntry_83 : decode cX11_putEntry 83 = .ok (.getfield 68, 3) := by decide +kernel
theorem dX11_putEntry_86 : decode cX11_putEntry 86 = .ok (.iload 6, 2) := by decide +kernel
theorem dX11_putEntry_88 : decode cX11_putEntry 88 = .ok (.iconst 4, 1) := by decide +kernel
theorem dX11_putEntry_89 : decode cX11_putEntry 89 = .ok (.iconst 2, 1) := by decide +kernel
theorem dX11_putEntry_90 : decode cX11_putEntry 90 = .ok (.iload 5, 2) := by decide +kernel
theorem dX11_putEntry_92 : decode cX11_putEntry 92 = .ok (.imul, 1) := by decide +kernel
theorem dX11_putEntry_93 : decode cX11_putEntry 93 = .ok (.i2l, 1) := by decide +kernel
theorem dX11_putEntry_94 : decode cX11_putEntry 94 = .ok (.invokevirtual 349, 3) := by decide +kernel
theorem dX11_putEntry_97 : decode cX11_putEntry 97 = .ok (.iconst 0, 1) := by decide +kernel
theorem dX11_putEntry_98 : decode cX11_putEntry 98 = .ok (.istore 7, 2) := by decide +kernel
theorem dX11_putEntry_100 : decode cX11_putEntry 100 = .ok (.iload 7, 2) := by decide +kernel
theorem dX11_putEntry_102 : decode cX11_putEntry 102 = .ok (.iload 5, 2) := by decide +kernel
theorem dX11_putEntry_104 : decode cX11_putEntry 104 = .ok (.if_icmp .ge 40, 3) := by decide +kernel
theorem dX11_putEntry_107 : decode cX11_putEntry 107 = .ok (.iload 7, 2) := by decide +kernel
theorem dX11_putEntry_109 : decode cX11_putEntry 109 = .ok (.aload 4, 2) := by decide +kernel
theorem dX11_putEntry_111 : decode cX11_putEntry 111 = .ok (.arraylength, 1) := by decide +kernel
theorem dX11_putEntry_112 : decode cX11_putEntry 112 = .ok (.if_icmp .ge 32, 3) := by decide +kernel
theorem dX11_putEntry_115 : decode cX11_putEntry 115 = .ok (.aload_n 0, 1) := by decide +kernel
theorem dX11_putEntry_116 : decode cX11_putEntry 116 = .ok (.getfield 68, 3) := by decide +kernel
theorem dX11_putEntry_119 : decode cX11_putEntry 119 = .ok (.iload 6, 2) := by decide +kernel
theorem dX11_putEntry_121 : decode cX11_putEntry 121 = .ok (.iconst 4, 1) := by decide +kernel
theorem dX11_putEntry_122 : decode cX11_putEntry 122 = .ok (.iadd, 1) := by decide +kernel
theorem dX11_putEntry_123 : decode cX11_putEntry 123 = .ok (.iconst 2, 1) := by decide +kernel
theorem dX11_putEntry_124 : decode cX11_putEntry 124 = .ok (.iload 7, 2) := by decide +kernel
theorem dX11_putEntry_126 : decode cX11_putEntry 126 = .ok (.imul, 1) := by decide +kernel
theorem dX11_putEntry_127 : decode cX11_putEntry 127 = .ok (.iadd, 1) := by decide +kernel
theorem dX11_putEntry_128 : decode cX11_putEntry 128 = .ok (.iconst 2, 1) := by decide +kernel
theorem dX11_putEntry_129 : decode cX11_putEntry 129 = .ok (.aload 4, 2) := by decide +kernel
theorem dX11_putEntry_131 : decode cX11_putEntry 131 = .ok (.iload 7, 2) := by decide +kernel
theorem dX11_putEntry_133 : decode cX11_putEntry 133 = .ok (.baload, 1) := by decide +kernel
theorem dX11_putEntry_134 : decode cX11_putEntry 134 = .ok (.i2l, 1) := by decide +kernel
theorem dX11_putEntry_135 : decode cX11_putEntry 135 = .ok (.invokevirtual 349, 3) := by decide +kernel
theorem dX11_putEntry_138 : decode cX11_putEntry 138 = .ok (.iinc 7 1, 3) := by decide +kernel
theorem dX11_putEntry_141 : decode cX11_putEntry 141 = .ok (.goto (-41), 3) := by decide +kernel
theorem dX11_putEntry_144 : decode cX11_putEntry 144 = .ok (.return_, 1) := by decide +kernel
set_option maxRecDepth 100000 in
set_option maxHeartbeats 4000000 in
theorem c_X11_putEntry (l : Launch) (D : va_G) (t : Nat → ClassId) (G : GE) (κ : CS) (h : Nat) (a1 : Int32) (a2 : Int32) (a3 : Option Nat) (a4 : Option Nat) (a5 : Int32) (post : CS → Prop) (hw : F_X11_putEntry G h a1 a2 a3 a4 a5 post κ) (sz : Nat) : CMv l D t yX11_putEntry cX11_putEntry 8 2 62 G κ sz [.ref h, .int a1, .int a2, va_rf a3, va_rf a4, .int a5] post := by
  refine c_go (by decide) (by cases a3 <;> cases a4 <;> exact Nat.le_of_ble_eq_true rfl) ?_
  intro p e s m below meth c ls A hF hr hlk hin hAe hH hA hE hl
  unfold cB
  rw [hAe]
  clear hAe
  have hF : FX p m c cX11_putEntry 8 s _ RX11 D t := hF
  have hx := hF.1.1
  have hb := hF.1.2.1
  have hl : lv_has ls 8 [(0, .ref h), (1, .int a1), (2, .int a2), (3, va_rf a3), (4, va_rf a4), (5, .int a5)] := (by have h2 := hl; clear hw; revert h2; cases a3 <;> cases a4 <;> exact id)
  unfold F_X11_putEntry at hw
  refine lv_iload_n hx hb dX11_putEntry_0 rfl (lv_at hl 1 rfl) ?_
  refine lv_bipush (v := 8) hx hb dX11_putEntry_1 (by decide) ?_
  refine lv_iadd hx hb dX11_putEntry_3 ?_
  refine w_nmi hw (fun z1 hw => ?_)
  refine lv_istore (lv' := [(6, .int z1), (0, .ref h), (1, .int a1), (2, .int a2), (3, va_rf a3), (4, va_rf a4), (5, .int a5)]) hx hb dX11_putEntry_4 hl (by decide) rfl (fun ls hl => ?_)
  refine lv_iload_n hx hb dX11_putEntry_6 rfl (lv_at hl 3 rfl) ?_
  refine lv_iconst (v := 1) hx hb dX11_putEntry_7 (by decide) ?_
  obtain ⟨K4, hK5, hw⟩ := jc_open hw
  refine cw_join (K := K4) 82 (fun (x2 : Int32) => [(6, .int x2), (5, .int a5), (4, va_rf a4), (0, .ref h)]) (fun (x2 : Int32) => []) hl hH (fun x2 κ3 ls H locs cells slots hl hw hH => ?_) (fun jn6 => ?_)
  · have hw := hK5 x2 κ3 hw
    have hl : lv_has ls 8 [(6, .int x2), (5, .int a5), (4, va_rf a4), (0, .ref h)] := hl
    refine lv_aload_n hx hb dX11_putEntry_82 rfl (lv_at hl 3 rfl) ?_
    refine cw_getPr (a := h) hF hH fk_X11_68 dX11_putEntry_83 hw (fun z7 hw => ?_)
    refine lv_iload hx hb dX11_putEntry_86 (lv_at hl 0 rfl) ?_
    refine lv_iconst (v := 4) hx hb dX11_putEntry_88 (by decide) ?_
    refine lv_iconst (v := 2) hx hb dX11_putEntry_89 (by decide) ?_
    refine lv_iload hx hb dX11_putEntry_90 (lv_at hl 1 rfl) ?_
    refine lv_imul hx hb dX11_putEntry_92 ?_
    refine w_nmi hw (fun z8 hw => ?_)
    refine lv_i2l hx hb dX11_putEntry_93 rfl ?_
    refine w_nml hw (fun z9 hw => ?_)
    refine cw_cVvq (q := z7) (As := [.int x2, .int 4, .long z9]) (rest := []) hF hH hA hE mv_X11_349 ci_X6 (by decide) hw (fun b hw sz => c_X6_put l D t G _ b x2 4 z9 _ hw sz) dX11_putEntry_94 ⟨Nat.le_of_ble_eq_true rfl, Nat.le_of_ble_eq_true rfl⟩ rfl hl.1 (Nat.le_of_ble_eq_true rfl) rfl (fun κ10 H locs cells slots hw hH => ?_)
    refine lv_iconst (v := 0) hx hb dX11_putEntry_97 (by decide) ?_
    refine lv_istore (lv' := [(7, .int 0), (6, .int x2), (5, .int a5), (4, va_rf a4), (0, .ref h)]) hx hb dX11_putEntry_98 hl (by decide) rfl (fun ls hl => ?_)
    refine cw_loop (β := Int32) (fun x12 => [(7, .int x12), (6, .int x2), (5, .int a5), (4, va_rf a4), (0, .ref h)]) 0 hl hw hH (fun K14 x12 κ13 ls H locs cells slots hl hw hH ih15 => ?_)
    have hl : lv_has ls 8 [(7, .int x12), (6, .int x2), (5, .int a5), (4, va_rf a4), (0, .ref h)] := hl
    refine lv_iload hx hb dX11_putEntry_100 (lv_at hl 0 rfl) ?_
    refine lv_iload hx hb dX11_putEntry_102 (lv_at hl 2 rfl) ?_
    obtain ⟨K18, hK19, hw⟩ := jc_open hw
    refine cw_join (K := K18) 144 (fun (x16 : Unit) => []) (fun (x16 : Unit) => []) hl hH (fun x16 κ17 ls H locs cells slots hl hw hH => ?_) (fun jn20 => ?_)
    · have hw := hK19 x16 κ17 hw
      have hl : lv_has ls 8 [] := hl
      exact cw_retv hF hH ⟨rfl, rfl⟩ hr hlk dX11_putEntry_144 hw
    · skip
      refine w_icmp_ge (tgt := 144) hF dX11_putEntry_104 rfl hw (fun hw => ?_) (fun hw => ?_)
      · have hl : lv_has ls 8 [] := lv_sub hl [] rfl
        exact jn20 () κ13 ls _ _ _ _ hl hw hH
      · refine lv_iload hx hb dX11_putEntry_107 (lv_at hl 0 rfl) ?_
        refine w_aloadq hF dX11_putEntry_109 (lv_at hl 3 rfl) ?_
        refine cw_alen (q := a4) hF hH hE dX11_putEntry_111 hw (fun z21 hw => ?_)
        refine w_icmp_ge (tgt := 144) hF dX11_putEntry_112 rfl hw (fun hw => ?_) (fun hw => ?_)
        · have hl : lv_has ls 8 [] := lv_sub hl [] rfl
          exact jn20 () κ13 ls _ _ _ _ hl hw hH
        · refine lv_aload_n hx hb dX11_putEntry_115 rfl (lv_at hl 4 rfl) ?_
          refine cw_getPr (a := h) hF hH fk_X11_68 dX11_putEntry_116 hw (fun z22 hw => ?_)
          refine lv_iload hx hb dX11_putEntry_119 (lv_at hl 1 rfl) ?_
          refine lv_iconst (v := 4) hx hb dX11_putEntry_121 (by decide) ?_
          refine lv_iadd hx hb dX11_putEntry_122 ?_
          refine w_nmi hw (fun z23 hw => ?_)
          refine lv_iconst (v := 2) hx hb dX11_putEntry_123 (by decide) ?_
          refine lv_iload hx hb dX11_putEntry_124 (lv_at hl 0 rfl) ?_
          refine lv_imul hx hb dX11_putEntry_126 ?_
          refine w_nmi hw (fun z24 hw => ?_)
          refine lv_iadd hx hb dX11_putEntry_127 ?_
          refine w_nmi hw (fun z25 hw => ?_)
          refine lv_iconst (v := 2) hx hb dX11_putEntry_128 (by decide) ?_
          refine w_aloadq hF dX11_putEntry_129 (lv_at hl 3 rfl) ?_
          refine lv_iload hx hb dX11_putEntry_131 (lv_at hl 0 rfl) ?_
          refine cw_bald (q := a4) hF hH hE dX11_putEntry_133 hw (fun z26 hw => ?_)
          refine lv_i2l hx hb dX11_putEntry_134 rfl ?_
          refine w_nml hw (fun z27 hw => ?_)
          refine cw_cVvq (q := z22) (As := [.int z25, .int 2, .long z27]) (rest := []) hF hH hA hE mv_X11_349 ci_X6 (by decide) hw (fun b hw sz => c_X6_put l D t G _ b z25 2 z27 _ hw sz) dX11_putEntry_135 ⟨Nat.le_of_ble_eq_true rfl, Nat.le_of_ble_eq_true rfl⟩ rfl hl.1 (Nat.le_of_ble_eq_true rfl) rfl (fun κ28 H locs cells slots hw hH => ?_)
          obtain ⟨z30, ez30⟩ : ∃ z : Int32, z = x12 + 1 := ⟨_, rfl⟩
          have hw := hw z30 ez30
          refine lv_iinc (lv' := [(7, .int z30), (6, .int x2), (5, .int a5), (4, va_rf a4), (0, .ref h)]) (k := 0) (v := z30) hx hb dX11_putEntry_138 hl rfl ez30.symm (by decide) rfl (fun ls hl => ?_)
          refine lv_goto (tgt := 100) hx hb dX11_putEntry_141 rfl ?_
          exact ih15 z30 κ28 ls _ _ _ _ hl hw hH
  · skip
    refine w_icmp_ne (tgt := 82) hF dX11_putEntry_8 rfl hw (fun hw => ?_) (fun hw => ?_)
    · have hl : lv_has ls 8 [(6, .int z1), (5, .int a5), (4, va_rf a4), (0, .ref h)] := lv_sub hl [0, 6, 5, 1] rfl
      exact jn6 z1 κ ls _ _ _ _ hl hw hH
    · refine w_aloadq_n hF dX11_putEntry_11 rfl (lv_at hl 4 rfl) ?_
      refine lv_aload_n hx hb dX11_putEntry_12 rfl (lv_at hl 1 rfl) ?_
      refine cw_getPr (a := h) hF hH fk_X11_68 dX11_putEntry_13 hw (fun z31 hw => ?_)
      refine lv_iload_n hx hb dX11_putEntry_16 rfl (lv_at hl 2 rfl) ?_
      refine lv_bipush (v := 8) hx hb dX11_putEntry_17 (by decide) ?_
      refine lv_iadd hx hb dX11_putEntry_19 ?_
      refine w_nmi hw (fun z32 hw => ?_)
      refine cw_cVvq (q := a3) (As := [va_rf z31, .int z32]) (rest := []) hF hH hA hE mv_X11_913 ci_X4 (by decide) hw (fun b hw sz => c_X4_tellTimes l D t G _ b z31 z32 _ hw sz) dX11_putEntry_20 ⟨Nat.le_of_ble_eq_true rfl, Nat.le_of_ble_eq_true rfl⟩ rfl hl.1 (Nat.le_of_ble_eq_true rfl) rfl (fun κ33 H locs cells slots hw hH => ?_)
      refine lv_aload_n hx hb dX11_putEntry_23 rfl (lv_at hl 1 rfl) ?_
      refine cw_getPr (a := h) hF hH fk_X11_68 dX11_putEntry_24 hw (fun z35 hw => ?_)
      refine lv_iload_n hx hb dX11_putEntry_27 rfl (lv_at hl 2 rfl) ?_
      refine lv_bipush (v := 40) hx hb dX11_putEntry_28 (by decide) ?_
      refine lv_iadd hx hb dX11_putEntry_30 ?_
      refine w_nmi hw (fun z36 hw => ?_)
      refine lv_bipush (v := 8) hx hb dX11_putEntry_31 (by decide) ?_
      refine w_aloadq_n hF dX11_putEntry_33 rfl (lv_at hl 4 rfl) ?_
      refine cw_getI (q := a3) hF hH fk_X11_789 dX11_putEntry_34 hw (fun z37 hw => ?_)
      refine lv_i2l hx hb dX11_putEntry_37 rfl ?_
      refine w_nml hw (fun z38 hw => ?_)
      refine cw_cVvq (q := z35) (As := [.int z36, .int 8, .long z38]) (rest := []) hF hH hA hE mv_X11_349 ci_X6 (by decide) hw (fun b hw sz => c_X6_put l D t G _ b z36 8 z38 _ hw sz) dX11_putEntry_38 ⟨Nat.le_of_ble_eq_true rfl, Nat.le_of_ble_eq_true rfl⟩ rfl hl.1 (Nat.le_of_ble_eq_true rfl) rfl (fun κ39 H locs cells slots hw hH => ?_)
      refine lv_aload_n hx hb dX11_putEntry_41 rfl (lv_at hl 1 rfl) ?_
      refine cw_getPr (a := h) hF hH fk_X11_68 dX11_putEntry_42 hw (fun z41 hw => ?_)
      refine lv_iload_n hx hb dX11_putEntry_45 rfl (lv_at hl 2 rfl) ?_
      refine lv_bipush (v := 48) hx hb dX11_putEntry_46 (by decide) ?_
      refine lv_iadd hx hb dX11_putEntry_48 ?_
      refine w_nmi hw (fun z42 hw => ?_)
      refine lv_bipush (v := 8) hx hb dX11_putEntry_49 (by decide) ?_
      refine w_aloadq_n hF dX11_putEntry_51 rfl (lv_at hl 4 rfl) ?_
      refine cw_cViq (q := a3) (As := []) (rest := [.int 8, .int z42, va_rf z41]) hF hH hA hE mv_X11_917 ci_X4 (by decide) hw (fun b hw sz => c_X4_room l D t G _ b  _ hw sz) dX11_putEntry_52 ⟨Nat.le_of_ble_eq_true rfl, Nat.le_of_ble_eq_true rfl⟩ rfl hl.1 (by simp only [List.map_cons, List.map_nil, cat_rf]; exact Nat.le_of_ble_eq_true rfl) rfl (fun z44 κ43 H locs cells slots hw hH => ?_)
      refine lv_i2l hx hb dX11_putEntry_55 rfl ?_
      refine w_nml hw (fun z45 hw => ?_)
      refine cw_cVvq (q := z41) (As := [.int z42, .int 8, .long z45]) (rest := []) hF hH hA hE mv_X11_349 ci_X6 (by decide) hw (fun b hw sz => c_X6_put l D t G _ b z42 8 z45 _ hw sz) dX11_putEntry_56 ⟨Nat.le_of_ble_eq_true rfl, Nat.le_of_ble_eq_true rfl⟩ rfl hl.1 (Nat.le_of_ble_eq_true rfl) rfl (fun κ46 H locs cells slots hw hH => ?_)
      refine lv_aload_n hx hb dX11_putEntry_59 rfl (lv_at hl 1 rfl) ?_
      refine cw_getPr (a := h) hF hH fk_X11_68 dX11_putEntry_60 hw (fun z48 hw => ?_)
      refine lv_iload_n hx hb dX11_putEntry_63 rfl (lv_at hl 2 rfl) ?_
      refine lv_bipush (v := 56) hx hb dX11_putEntry_64 (by decide) ?_
      refine lv_iadd hx hb dX11_putEntry_66 ?_
      refine w_nmi hw (fun z49 hw => ?_)
      refine lv_iconst (v := 4) hx hb dX11_putEntry_67 (by decide) ?_
      refine w_aloadq_n hF dX11_putEntry_68 rfl (lv_at hl 4 rfl) ?_
      refine cw_cViq (q := a3) (As := []) (rest := [.int 4, .int z49, va_rf z48]) hF hH hA hE mv_X11_920 ci_X4 (by decide) hw (fun b hw sz => c_X4_toldAttributes l D t G _ b  _ hw sz) dX11_putEntry_69 ⟨Nat.le_of_ble_eq_true rfl, Nat.le_of_ble_eq_true rfl⟩ rfl hl.1 (by simp only [List.map_cons, List.map_nil, cat_rf]; exact Nat.le_of_ble_eq_true rfl) rfl (fun z51 κ50 H locs cells slots hw hH => ?_)
      refine lv_i2l hx hb dX11_putEntry_72 rfl ?_
      refine w_nml hw (fun z52 hw => ?_)
      refine cw_cVvq (q := z48) (As := [.int z49, .int 4, .long z52]) (rest := []) hF hH hA hE mv_X11_349 ci_X6 (by decide) hw (fun b hw sz => c_X6_put l D t G _ b z49 4 z52 _ hw sz) dX11_putEntry_73 ⟨Nat.le_of_ble_eq_true rfl, Nat.le_of_ble_eq_true rfl⟩ rfl hl.1 (Nat.le_of_ble_eq_true rfl) rfl (fun κ53 H locs cells slots hw hH => ?_)
      refine lv_iload_n hx hb dX11_putEntry_76 rfl (lv_at hl 2 rfl) ?_
      refine lv_bipush (v := 60) hx hb dX11_putEntry_77 (by decide) ?_
      refine lv_iadd hx hb dX11_putEntry_79 ?_
      refine w_nmi hw (fun z55 hw => ?_)
      refine lv_istore (lv' := [(6, .int z55), (0, .ref h), (1, .int a1), (2, .int a2), (3, va_rf a3), (4, va_rf a4), (5, .int a5)]) hx hb dX11_putEntry_80 hl (by decide) rfl (fun ls hl => ?_)
      have hl : lv_has ls 8 [(6, .int z55), (5, .int a5), (4, va_rf a4), (0, .ref h)] := lv_sub hl [0, 6, 5, 1] rfl
      exact jn6 z55 κ53 ls _ _ _ _ hl hw hH
set_option maxRecDepth 100000 in
def F_X11_list (G : GE) (h : Nat) (a1 : Option Nat) (a2 : Int32) (a3 : Int32) (a4 : Int32) (post : Int32 → CS → Prop) (κ : CS) : Prop := (h ∈ sL κ.1 ∧ sK κ.1 h = 1) ∧ ∀ z1 : Option Nat, z1 = sP κ.1 h 15 → ∀ z2 : Int32, z2 = 72 + a3 → ∃ b : Nat, z1 = some b ∧ (b ∈ sL κ.1 ∧ sK κ.1 b = 2) ∧ F_X6_begin G b z2 (fun (κ3 : CS) => jc (fun (K7 : Int32 → CS → Prop) => ((¬ a2.toInt = (1 : Int32).toInt) → K7 12 κ3) ∧ ((a2.toInt = (1 : Int32).toInt) → K7 64 κ3)) (fun (x5 : Int32) (κ6 : CS) => lc (fun (K12 : (Int32 × Int32 × Int32 × Int32) → CS → Prop) (x10 : Int32 × Int32 × Int32 × Int32) (κ11 : CS) => jc (fun (K16 : Int32 → CS → Prop) => ((a4.toInt ≤ x10.1.toInt) → K16 x10.2.1 κ11) ∧ ((x10.1.toInt < a4.toInt) → (h ∈ sL κ11.1 ∧ sK κ11.1 h = 1) ∧ F_X11_nextStage G h a1 (fun (z33 : Int32) (κ32 : CS) => (h ∈ sL κ32.1 ∧ sK κ32.1 h = 1) ∧ F_X11_entryNode G h a1 z33 (fun (z35 : Option Nat) (κ34 : CS) => ((¬ z35 = none) → jc (fun (K38 : (Option Nat) → CS → Prop) => (((2 : Int32).toInt ≤ z33.toInt) → ∃ b : Nat, z35 = some b ∧ (b ∈ sL κ34.1 ∧ sK κ34.1 b = 5) ∧ ∀ z75 : Option Nat, z75 = sP κ34.1 b 5 → K38 z75 κ34) ∧ ((z33.toInt < (2 : Int32).toInt) → K38 (some G.2.2.2.1) κ34)) (fun (x36 : Option Nat) (κ37 : CS) => jc (fun (K43 : Int32 → CS → Prop) => (((2 : Int32).toInt ≤ z33.toInt) → ∃ b : Nat, z35 = some b ∧ (b ∈ sL κ37.1 ∧ sK κ37.1 b = 5) ∧ ∀ z73 : Int32, z73 = sI κ37.1 b 6 → K43 z73 κ37) ∧ ((z33.toInt < (2 : Int32).toInt) → ∀ z74 : Int32, z74 = z33 + 1 → K43 z74 κ37)) (fun (x41 : Int32) (κ42 : CS) => ∀ z46 : Int32, z46 = x10.2.2.2 + 7 → ∀ z47 : Int32, z47 = x10.2.2.2 + 7 → ∀ z48 : Int32, z48 = z47 - z47 / 8 * 8 → ∀ z49 : Int32, z49 = z46 - z48 → ∀ z50 : Int32, z50 = z49 + x5 → ∀ z51 : Int32, z51 = 2 * x41 → ∀ z52 : Int32, z52 = z50 + z51 → ((z52.toInt ≤ a3.toInt) → (h ∈ sL κ42.1 ∧ sK κ42.1 h = 1) ∧ ∀ z53 : Option Nat, z53 = sP κ42.1 h 15 → ∀ z54 : Int32, z54 = 72 + x10.2.2.1 → ∀ z55 : Int32, z55 = z49 - x10.2.2.1 → ∀ z56 : Int64, z56 = (z55 : Int32).toInt64 → ∃ b : Nat, z53 = some b ∧ (b ∈ sL κ42.1 ∧ sK κ42.1 b = 2) ∧ F_X6_put G b z54 4 z56 (fun (κ57 : CS) => ∀ z59 : Int32, z59 = 72 + z49 → (h ∈ sL κ57.1 ∧ sK κ57.1 h = 1) ∧ F_X11_putEntry G h z59 a2 z35 x36 x41 (fun (κ60 : CS) => ∃ b : Nat, a1 = some b ∧ (b ∈ sL κ60.1 ∧ sK κ60.1 b = 10) ∧ F_X5_goBehind G b z33 z35 (fun (κ62 : CS) => ∀ z64 : Int32, z64 = z49 + x5 → ∀ z65 : Int32, z65 = 2 * x41 → ∀ z66 : Int32, z66 = z64 + z65 → ∀ z67 : Int32, z67 = x10.1 + 1 → K12 (z67, 0, z49, z66) κ62) κ60) κ57) κ42) ∧ ((a3.toInt < z52.toInt) → jc (fun (K70 : Int32 → CS → Prop) => ((¬ x10.1.toInt = 0) → K70 x10.2.1 κ42) ∧ ((x10.1.toInt = 0) → K70 (-1073741820) κ42)) (fun (x68 : Int32) (κ69 : CS) => K16 x68 κ69))))) ∧ ((z35 = none) → K16 x10.2.1 κ34)) κ32) κ11)) (fun (x14 : Int32) (κ15 : CS) => (h ∈ sL κ15.1 ∧ sK κ15.1 h = 1) ∧ ∀ z19 : Option Nat, z19 = sP κ15.1 h 15 → ∃ b : Nat, z19 = some b ∧ (b ∈ sL κ15.1 ∧ sK κ15.1 b = 2) ∧ F_X6_put G b 64 2 9 (fun (κ20 : CS) => (h ∈ sL κ20.1 ∧ sK κ20.1 h = 1) ∧ ∀ z22 : Option Nat, z22 = sP κ20.1 h 15 → ∃ b : Nat, z22 = some b ∧ (b ∈ sL κ20.1 ∧ sK κ20.1 b = 2) ∧ F_X6_put G b 66 2 72 (fun (κ23 : CS) => (h ∈ sL κ23.1 ∧ sK κ23.1 h = 1) ∧ ∀ z25 : Option Nat, z25 = sP κ23.1 h 15 → ∀ z26 : Int64, z26 = (x10.2.2.2 : Int32).toInt64 → ∃ b : Nat, z25 = some b ∧ (b ∈ sL κ23.1 ∧ sK κ23.1 b = 2) ∧ F_X6_put G b 68 4 z26 (fun (κ27 : CS) => (h ∈ sL κ27.1 ∧ sK κ27.1 h = 1) ∧ ∀ z29 : Option Nat, z29 = sP κ27.1 h 15 → ∀ z30 : Int32, z30 = 72 + x10.2.2.2 → ∃ b : Nat, z29 = some b ∧ (b ∈ sL κ27.1 ∧ sK κ27.1 b = 2) ∧ ∀ κ31 : CS, κ31 = (h_uI κ27.1 b 1 z30, κ27.2) → post x14 κ31) κ23) κ20) κ15)) (0, (-2147483642), 0, 0) κ6)) κ
theorem dX11_list_0 : decode cX11_list 0 = .ok (.aload_n 0, 1) := by decide +kernel
theorem dX11_list_1 : decode cX11_list 1 = .ok (.getfield 68, 3) := by decide +kernel
theorem dX11_list_4 : decode cX11_list 4 = .ok (.bipush 72, 2) := by decide +kernel
theorem dX11_list_6 : decode cX11_list 6 = .ok (.iload_n 3, 1) := by decide +kernel
theorem dX11_list_7 : decode cX11_list 7 = .ok (.iadd, 1) := by decide +kernel
theorem dX11_list_8 : decode cX11_list 8 = .ok (.invokevirtual 262, 3) := by decide +kernel
theorem dX11_list_11 : decode cX11_list 11 = .ok (.iload_n 2, 1) := by decide +kernel
theorem dX11_list_12 : decode cX11_list 12 = .ok (.iconst 1, 1) := by decide +kernel
theorem dX11_list_13 : decode cX11_list 13 = .ok (.if_icmp .ne 8, 3) := by decide +kernel
theorem dX11_list_16 : decode cX11_list 16 = .ok (.bipush 64, 2) := by decide +kernel
theorem dX11_list_18 : decode cX11_list 18 = .ok (.goto 5, 3) := by decide +kernel
theorem dX11_list_21 : decode cX11_list 21 = .ok (.bipush 12, 2) := by decide +kernel
theorem dX11_list_23 : decode cX11_list 23 = .ok (.istore 5, 2) := by decide +kernel
theorem dX11_list_25 : decode cX11_list 25 = .ok (.iconst 0, 1) := by decide +kernel
theorem dX11_list_26 : decode cX11_list 26 = .ok (.istore 6, 2) := by decide +kernel
theorem dX11_list_28 : decode cX11_list 28 = .ok (.iconst 0, 1) := by decide +kernel
theorem dX11_list_29 : decode cX11_list 29 = .ok (.istore 7, 2) := by decide +kernel
theorem dX11_list_31 : decode cX11_list 31 = .ok (.ldc_w 877, 3) := by decide +kernel
theorem dX11_list_34 : decode cX11_list 34 = .ok (.istore 8, 2) := by decide +kernel
theorem dX11_list_36 : decode cX11_list 36 = .ok (.iconst 0, 1) := by decide +kernel
theorem dX11_list_37 : decode cX11_list 37 = .ok (.istore 9, 2) := by decide +kernel
theorem dX11_list_39 : decode cX11_list 39 = .ok (.iload 9, 2) := by decide +kernel
theorem dX11_list_41 : decode cX11_list 41 = .ok (.iload 4, 2) := by decide +kernel
theorem dX11_list_43 : decode cX11_list 43 = .ok (.if_icmp .ge 182, 3) := by decide +kernel
theorem dX11_list_46 : decode cX11_list 46 = .ok (.aload_n 0, 1) := by decide +kernel
theorem dX11_list_47 : decode cX11_list 47 = .ok (.aload_n 1, 1) := by decide +kernel
theorem dX11_list_48 : decode cX11_list 48 = .ok (.invokevirtual 879, 3) := by decide +kernel
theorem dX11_list_51 : decode cX11_list 51 = .ok (.istore 10, 2) := by decide +kernel
theorem dX11_list_53 : decode cX11_list 53 = .ok (.aload_n 0, 1) := by decide +kernel
theorem dX11_list_54 : decode cX11_list 54 = .ok (.aload_n 1, 1) := by decide +kernel
theorem dX11_list_55 : decode cX11_list 55 = .ok (.iload 10, 2) := by decide +kernel
theorem dX11_list_57 : decode cX11_list 57 = .ok (.invokevirtual 882, 3) := by decide +kernel
theorem dX11_list_60 : decode cX11_list 60 = .ok (.astore 11, 2) := by decide +kernel
theorem dX11_list_62 : decode cX11_list 62 = .ok (.aload 11, 2) := by decide +kernel
theorem dX11_list_64 : decode cX11_list 64 = .ok (.ifnonnull 6, 3) := by decide +kernel
theorem dX11_list_67 : decode cX11_list 67 = .ok (.goto 158, 3) := by decide +kernel
theorem dX11_list_70 : decode cX11_list 70 = .ok (.iload 10, 2) := by decide +kernel
theorem dX11_list_72 : decode cX11_list 72 = .ok (.iconst 2, 1) := by decide +kernel
theorem dX11_list_73 : decode cX11_list 73 = .ok (.if_icmp .ge 9, 3) := by decide +kernel
theorem dX11_list_76 : decode cX11_list 76 = .ok (.getstatic 886, 3) := by decide +kernel
theorem dX11_list_79 : decode cX11_list 79 = .ok (.goto 8, 3) := by decide +kernel
theorem dX11_list_82 : decode cX11_list 82 = .ok (.aload 11, 2) := by decide +kernel
theorem dX11_list_84 : decode cX11_list 84 = .ok (.getfield 223, 3) := by decide +kernel
theorem dX11_list_87 : decode cX11_list 87 = .ok (.astore 12, 2) := by decide +kernel
theorem dX11_list_89 : decode cX11_list 89 = .ok (.iload 10, 2) := by decide +kernel
theorem dX11_list_91 : decode cX11_list 91 = .ok (.iconst 2, 1) := by decide +kernel
theorem dX11_list_92 : decode cX11_list 92 = .ok (.if_icmp .ge 10, 3) := by decide +kernel
theorem dX11_list_95 : decode cX11_list 95 = .ok (.iload 10, 2) := by decide +kernel
theorem dX11_list_97 : decode cX11_list 97 = .ok (.iconst 1, 1) := by decide +kernel
theorem dX11_list_98 : decode cX11_list 98 = .ok (.iadd, 1) := by decide +kernel
theorem dX11_list_99 : decode cX11_list 99 = .ok (.goto 8, 3) := by decide +kernel
theorem dX11_list_102 : decode cX11_list 102 = .ok (.aload 11, 2) := by decide +kernel
theorem dX11_list_104 : decode cX11_list 104 = .ok (.getfield 218, 3) := by decide +kernel
theorem dX11_list_107 : decode cX11_list 107 = .ok (.istore 13, 2) := by decide +kernel
theorem dX11_list_109 : decode cX11_list 109 = .ok (.iload 6, 2) := by decide +kernel
theorem dX11_list_111 : decode cX11_list 111 = .ok (.bipush 7, 2) := by decide +kernel
theorem dX11_list_113 : decode cX11_list 113 = .ok (.iadd, 1) := by decide +kernel
theorem dX11_list_114 : decode cX11_list 114 = .ok (.iload 6, 2) := by decide +kernel
theorem dX11_list_116 : decode cX11_list 116 = .ok (.bipush 7, 2) := by decide +kernel
theorem dX11_list_118 : decode cX11_list 118 = .ok (.iadd, 1) := by decide +kernel
theorem dX11_list_119 : decode cX11_list 119 = .ok (.bipush 8, 2) := by decide +kernel
theorem dX11_list_121 : decode cX11_list 121 = .ok (.irem, 1) := by decide +kernel
theorem dX11_list_122 : decode cX11_list 122 = .ok (.isub, 1) := by decide +kernel
theorem dX11_list_123 : decode cX11_list 123 = .ok (.istore 14, 2) := by decide +kernel
theorem dX11_list_125 : decode cX11_list 125 = .ok (.iload 14, 2) := by decide +kernel
theorem dX11_list_127 : decode cX11_list 127 = .ok (.iload 5, 2) := by decide +kernel
theorem dX11_list_129 : decode cX11_list 129 = .ok (.iadd, 1) := by decide +kernel
theorem dX11_list_130 : decode cX11_list 130 = .ok (.iconst 2, 1) := by decide +kernel
theorem dX11_list_131 : decode cX11_list 131 = .ok (.iload 13, 2) := by decide +kernel
theorem dX11_list_133 : decode cX11_list 133 = .ok (.imul, 1) := by decide +kernel
theorem dX11_list_134 : decode cX11_list 134 = .ok (.iadd, 1) := by decide +kernel
theorem dX11_list_135 : decode cX11_list 135 = .ok (.iload_n 3, 1) := by decide +kernel
theorem dX11_list_136 : decode cX11_list 136 = .ok (.if_icmp .le 21, 3) := by decide +kernel
theorem dX11_list_139 : decode cX11_list 139 = .ok (.iload 9, 2) := by decide +kernel
theorem dX11_list_141 : decode cX11_list 141 = .ok (.ifCond .ne 9, 3) := by decide +kernel
theorem dX11_list_144 : decode cX11_list 144 = .ok (.ldc_w 889, 3) := by decide +kernel
theorem dX11_list_147 : decode cX11_list 147 = .ok (.goto 5, 3) := by decide +kernel
theorem dX11_list_150 : decode cX11_list 150 = .ok (.iload 8, 2) := by decide +kernel
theorem dX11_list_152 : decode cX11_list 152 = .ok (.istore 8, 2) := by decide +kernel
theorem dX11_list_154 : decode cX11_list 154 = .ok (.goto 71, 3) := by decide +kernel
theorem dX11_list_157 : decode cX11_list 157 = .ok (.aload_n 0, 1) := by decide +kernel
theorem dX11_list_158 : decode cX11_list 158 = .ok (.getfield 68, 3) := by decide +kernel
theorem dX11_list_161 : decode cX11_list 161 = .ok (.bipush 72, 2) := by decide +kernel
theorem dX11_list_163 : decode cX11_list 163 = .ok (.iload 7, 2) := by decide +kernel
theorem dX11_list_165 : decode cX11_list 165 = .ok (.iadd, 1) := by decide +kernel
theorem dX11_list_166 : decode cX11_list 166 = .ok (.iconst 4, 1) := by decide +kernel
theorem dX11_list_167 : decode cX11_list 167 = .ok (.iload 14, 2) := by decide +kernel
theorem dX11_list_169 : decode cX11_list 169 = .ok (.iload 7, 2) := by decide +kernel
theorem dX11_list_171 : decode cX11_list 171 = .ok (.isub, 1) := by decide +kernel
theorem dX11_list_172 : decode cX11_list 172 = .ok (.i2l, 1) := by decide +kernel
theorem dX11_list_173 : decode cX11_list 173 = .ok (.invokevirtual 349, 3) := by decide +kernel
theorem dX11_list_176 : decode cX11_list 176 = .ok (.aload_n 0, 1) := by decide +kernel
theorem dX11_list_177 : decode cX11_list 177 = .ok (.bipush 72, 2) := by decide +kernel
theorem dX11_list_179 : decode cX11_list 179 = .ok (.iload 14, 2) := by decide +kernel
theorem dX11_list_181 : decode cX11_list 181 = .ok (.iadd, 1) := by decide +kernel
theorem dX11_list_182 : decode cX11_list 182 = .ok (.iload_n 2, 1) := by decide +kernel
theorem dX11_list_183 : decode cX11_list 183 = .ok (.aload 11, 2) := by decide +kernel
theorem dX11_list_185 : decode cX11_list 185 = .ok (.aload 12, 2) := by decide +kernel
theorem dX11_list_187 : decode cX11_list 187 = .ok (.iload 13, 2) := by decide +kernel
theorem dX11_list_189 : decode cX11_list 189 = .ok (.invokevirtual 890, 3) := by decide +kernel
theorem dX11_list_192 : decode cX11_list 192 = .ok (.aload_n 1, 1) := by decide +kernel
theorem dX11_list_193 : decode cX11_list 193 = .ok (.iload 10, 2) := by decide +kernel
theorem dX11_list_195 : decode cX11_list 195 = .ok (.aload 11, 2) := by decide +kernel
theorem dX11_list_197 : decode cX11_list 197 = .ok (.invokevirtual 894, 3) := by decide +kernel
theorem dX11_list_200 : decode cX11_list 200 = .ok (.iload 14, 2) := by decide +kernel
theorem dX11_list_202 : decode cX11_list 202 = .ok (.istore 7, 2) := by decide +kernel
theorem dX11_list_204 : decode cX11_list 204 = .ok (.iload 14, 2) := by decide +kernel
theorem dX11_list_206 : decode cX11_list 206 = .ok (.iload 5, 2) := by decide +kernel
theorem dX11_list_208 : decode cX11_list 208 = .ok (.iadd, 1) := by decide +kernel
theorem dX11_list_209 : decode cX11_list 209 = .ok (.iconst 2, 1) := by decide +kernel
theorem dX11_list_210 : decode cX11_list 210 = .ok (.iload 13, 2) := by decide +kernel
theorem dX11_list_212 : decode cX11_list 212 = .ok (.imul, 1) := by decide +kernel
theorem dX11_list_213 : decode cX11_list 213 = .ok (.iadd, 1) := by decide +kernel
theorem dX11_list_214 : decode cX11_list 214 = .ok (.istore 6, 2) := by decide +kernel
theorem dX11_list_216 : decode cX11_list 216 = .ok (.iconst 0, 1) := by decide +kernel
theorem dX11_list_217 : decode cX11_list 217 = .ok (.istore 8, 2) := by decide +kernel
theorem dX11_list_219 : decode cX11_list 219 = .ok (.iinc 9 1, 3) := by decide +kernel
theorem dX11_list_222 : decode cX11_list 222 = .ok (.goto (-183), 3) := by decide +kernel
theorem dX11_list_225 : decode cX11_list 225 = .ok (.aload_n 0, 1) := by decide +kernel
theorem dX11_list_226 : decode cX11_list 226 = .ok (.getfield 68, 3) := by decide +kernel
theorem dX11_list_229 : decode cX11_list 229 = .ok (.bipush 64, 2) := by decide +kernel
theorem dX11_list_231 : decode cX11_list 231 = .ok (.iconst 2, 1) := by decide +kernel
theorem dX11_list_232 : decode cX11_list 232 = .ok (.ldc2_w 347, 3) := by decide +kernel
theorem dX11_list_235 : decode cX11_list 235 = .ok (.invokevirtual 349, 3) := by decide +kernel
theorem dX11_list_238 : decode cX11_list 238 = .ok (.aload_n 0, 1) := by decide +kernel
theorem dX11_list_239 : decode cX11_list 239 = .ok (.getfield 68, 3) := by decide +kernel
theorem dX11_list_242 : decode cX11_list 242 = .ok (.bipush 66, 2) := by decide +kernel
theorem dX11_list_244 : decode cX11_list 244 = .ok (.iconst 2, 1) := by decide +kernel
theorem dX11_list_245 : decode cX11_list 245 = .ok (.ldc2_w 614, 3) := by decide +kernel
theorem dX11_list_248 : decode cX11_list 248 = .ok (.invokevirtual 349, 3) := by decide +kernel
theorem dX11_list_251 : decode cX11_list 251 = .ok (.aload_n 0, 1) := by decide +kernel
theorem dX11_list_252 : decode cX11_list 252 = .ok (.getfield 68, 3) := by decide +kernel
theorem dX11_list_255 : decode cX11_list 255 = .ok (.bipush 68, 2) := by decide +kernel
theorem dX11_list_257 : decode cX11_list 257 = .ok (.iconst 4, 1) := by decide +kernel
theorem dX11_list_258 : decode cX11_list 258 = .ok (.iload 6, 2) := by decide +kernel
theorem dX11_list_260 : decode cX11_list 260 = .ok (.i2l, 1) := by decide +kernel
theorem dX11_list_261 : decode cX11_list 261 = .ok (.invokevirtual 349, 3) := by decide +kernel
theorem dX11_list_264 : decode cX11_list 264 = .ok (.aload_n 0, 1) := by decide +kernel
theorem dX11_list_265 : decode cX11_list 265 = .ok (.getfield 68, 3) := by decide +kernel
theorem dX11_list_268 : decode cX11_list 268 = .ok (.bipush 72, 2) := by decide +kernel
theorem dX11_list_270 : decode cX11_list 270 = .ok (.iload 6, 2) := by decide +kernel
theorem dX11_list_272 : decode cX11_list 272 = .ok (.iadd, 1) := by decide +kernel
theorem dX11_list_273 : decode cX11_list 273 = .ok (.putfield 85, 3) := by decide +kernel
theorem dX11_list_276 : decode cX11_list 276 = .ok (.iload 8, 2) := by decide +kernel
theorem dX11_list_278 : decode cX11_list 278 = .ok (.ireturn, 1) := by decide +kernel
set_option maxRecDepth 100000 in
set_option maxHeartbeats 4000000 in
theorem c_X11_list (l : Launch) (D : va_G) (t : Nat → ClassId) (G : GE) (κ : CS) (h : Nat) (a1 : Option Nat) (a2 : Int32) (a3 : Int32) (a4 : Int32) (post : Int32 → CS → Prop) (hw : F_X11_list G h a1 a2 a3 a4 post κ) (sz : Nat) : CMi l D t yX11_list cX11_list 15 (some .int) 3 90 G κ sz [.ref h, va_rf a1, .int a2, .int a3, .int a4] post := by
  refine c_go (by decide) (by cases a1 <;> exact Nat.le_of_ble_eq_true rfl) ?_
  intro p e s m below meth c ls A hF hr hlk hin hAe hH hA hE hl
  unfold cB
  rw [hAe]
  clear hAe
  have hF : FX p m c cX11_list 15 s _ RX11 D t := hF
  have hx := hF.1.1
  have hb := hF.1.2.1
  have hl : lv_has ls 15 [(0, .ref h), (1, va_rf a1), (2, .int a2), (3, .int a3), (4, .int a4)] := (by have h2 := hl; clear hw; revert h2; cases a1 <;> exact id)
  unfold F_X11_list at hw
  refine lv_aload_n hx hb dX11_list_0 rfl (lv_at hl 0 rfl) ?_
  refine cw_getPr (a := h) hF hH fk_X11_68 dX11_list_1 hw (fun z1 hw => ?_)
  refine lv_bipush (v := 72) hx hb dX11_list_4 (by decide) ?_
  refine lv_iload_n hx hb dX11_list_6 rfl (lv_at hl 3 rfl) ?_
  refine lv_iadd hx hb dX11_list_7 ?_
  refine w_nmi hw (fun z2 hw => ?_)
  refine cw_cVvq (q := z1) (As := [.int z2]) (rest := []) hF hH hA hE mv_X11_262 ci_X6 (by decide) hw (fun b hw sz => c_X6_begin l D t G _ b z2 _ hw sz) dX11_list_8 ⟨Nat.le_of_ble_eq_true rfl, Nat.le_of_ble_eq_true rfl⟩ rfl hl.1 (Nat.le_of_ble_eq_true rfl) rfl (fun κ3 H locs cells slots hw hH => ?_)
  refine lv_iload_n hx hb dX11_list_11 rfl (lv_at hl 2 rfl) ?_
  refine lv_iconst (v := 1) hx hb dX11_list_12 (by decide) ?_
  obtain ⟨K7, hK8, hw⟩ := jc_open hw
  refine cw_join (K := K7) 23 (fun (x5 : Int32) => [(4, .int a4), (3, .int a3), (2, .int a2), (1, va_rf a1), (0, .ref h)]) (fun (x5 : Int32) => [.int x5]) hl hH (fun x5 κ6 ls H locs cells slots hl hw hH => ?_) (fun jn9 => ?_)
  · have hw := hK8 x5 κ6 hw
    have hl : lv_has ls 15 [(4, .int a4), (3, .int a3), (2, .int a2), (1, va_rf a1), (0, .ref h)] := hl
    refine lv_istore (lv' := [(5, .int x5), (4, .int a4), (3, .int a3), (2, .int a2), (1, va_rf a1), (0, .ref h)]) hx hb dX11_list_23 hl (by decide) rfl (fun ls hl => ?_)
    refine lv_iconst (v := 0) hx hb dX11_list_25 (by decide) ?_
    refine lv_istore (lv' := [(6, .int 0), (5, .int x5), (4, .int a4), (3, .int a3), (2, .int a2), (1, va_rf a1), (0, .ref h)]) hx hb dX11_list_26 hl (by decide) rfl (fun ls hl => ?_)
    refine lv_iconst (v := 0) hx hb dX11_list_28 (by decide) ?_
    refine lv_istore (lv' := [(7, .int 0), (6, .int 0), (5, .int x5), (4, .int a4), (3, .int a3), (2, .int a2), (1, va_rf a1), (0, .ref h)]) hx hb dX11_list_29 hl (by decide) rfl (fun ls hl => ?_)
    refine lv_ldcw (v := (-2147483642)) hx hb hF.1.2.2.2.1 (hF.1.2.2.2.2 _ (wc_32 39 rfl)) dX11_list_31 ?_
    refine lv_istore (lv' := [(8, .int (-2147483642)), (7, .int 0), (6, .int 0), (5, .int x5), (4, .int a4), (3, .int a3), (2, .int a2), (1, va_rf a1), (0, .ref h)]) hx hb dX11_list_34 hl (by decide) rfl (fun ls hl => ?_)
    refine lv_iconst (v := 0) hx hb dX11_list_36 (by decide) ?_
    refine lv_istore (lv' := [(9, .int 0), (8, .int (-2147483642)), (7, .int 0), (6, .int 0), (5, .int x5), (4, .int a4), (3, .int a3), (2, .int a2), (1, va_rf a1), (0, .ref h)]) hx hb dX11_list_37 hl (by decide) rfl (fun ls hl => ?_)
    refine cw_loop (β := Int32 × Int32 × Int32 × Int32) (fun x10 => [(9, .int x10.1), (8, .int x10.2.1), (7, .int x10.2.2.1), (6, .int x10.2.2.2), (5, .int x5), (4, .int a4), (3, .int a3), (2, .int a2), (1, va_rf a1), (0, .ref h)]) (0, (-2147483642), 0, 0) hl hw hH (fun K12 x10 κ11 ls H locs cells slots hl hw hH ih13 => ?_)
    have hl : lv_has ls 15 [(9, .int x10.1), (8, .int x10.2.1), (7, .int x10.2.2.1), (6, .int x10.2.2.2), (5, .int x5), (4, .int a4), (3, .int a3), (2, .int a2), (1, va_rf a1), (0, .ref h)] := hl
    refine lv_iload hx hb dX11_list_39 (lv_at hl 0 rfl) ?_
    refine lv_iload hx hb dX11_list_41 (lv_at hl 5 rfl) ?_
    obtain ⟨K16, hK17, hw⟩ := jc_open hw
    refine cw_join (K := K16) 225 (fun (x14 : Int32) => [(8, .int x14), (6, .int x10.2.2.2), (0, .ref h)]) (fun (x14 : Int32) => []) hl hH (fun x14 κ15 ls H locs cells slots hl hw hH => ?_) (fun jn18 => ?_)
    · have hw := hK17 x14 κ15 hw
      have hl : lv_has ls 15 [(8, .int x14), (6, .int x10.2.2.2), (0, .ref h)] := hl
      refine lv_aload_n hx hb dX11_list_225 rfl (lv_at hl 2 rfl) ?_
      refine cw_getPr (a := h) hF hH fk_X11_68 dX11_list_226 hw (fun z19 hw => ?_)
      refine lv_bipush (v := 64) hx hb dX11_list_229 (by decide) ?_
      refine lv_iconst (v := 2) hx hb dX11_list_231 (by decide) ?_
      refine lv_ldc2 (v := 9) hx hb hF.1.2.2.2.1 (hF.1.2.2.2.2 _ (wc_16 19 rfl)) dX11_list_232 ?_
      refine cw_cVvq (q := z19) (As := [.int 64, .int 2, .long 9]) (rest := []) hF hH hA hE mv_X11_349 ci_X6 (by decide) hw (fun b hw sz => c_X6_put l D t G _ b 64 2 9 _ hw sz) dX11_list_235 ⟨Nat.le_of_ble_eq_true rfl, Nat.le_of_ble_eq_true rfl⟩ rfl hl.1 (Nat.le_of_ble_eq_true rfl) rfl (fun κ20 H locs cells slots hw hH => ?_)
      refine lv_aload_n hx hb dX11_list_238 rfl (lv_at hl 2 rfl) ?_
      refine cw_getPr (a := h) hF hH fk_X11_68 dX11_list_239 hw (fun z22 hw => ?_)
      refine lv_bipush (v := 66) hx hb dX11_list_242 (by decide) ?_
      refine lv_iconst (v := 2) hx hb dX11_list_244 (by decide) ?_
      refine lv_ldc2 (v := 72) hx hb hF.1.2.2.2.1 (hF.1.2.2.2.2 _ (wc_31 13 rfl)) dX11_list_245 ?_
      refine cw_cVvq (q := z22) (As := [.int 66, .int 2, .long 72]) (rest := []) hF hH hA hE mv_X11_349 ci_X6 (by decide) hw (fun b hw sz => c_X6_put l D t G _ b 66 2 72 _ hw sz) dX11_list_248 ⟨Nat.le_of_ble_eq_true rfl, Nat.le_of_ble_eq_true rfl⟩ rfl hl.1 (Nat.le_of_ble_eq_true rfl) rfl (fun κ23 H locs cells slots hw hH => ?_)
      refine lv_aload_n hx hb dX11_list_251 rfl (lv_at hl 2 rfl) ?_
      refine cw_getPr (a := h) hF hH fk_X11_68 dX11_list_252 hw (fun z25 hw => ?_)
      refine lv_bipush (v := 68) hx hb dX11_list_255 (by decide) ?_
      refine lv_iconst (v := 4) hx hb dX11_list_257 (by decide) ?_
      refine lv_iload hx hb dX11_list_258 (lv_at hl 1 rfl) ?_
      refine lv_i2l hx hb dX11_list_260 rfl ?_
      refine w_nml hw (fun z26 hw => ?_)
      refine cw_cVvq (q := z25) (As := [.int 68, .int 4, .long z26]) (rest := []) hF hH hA hE mv_X11_349 ci_X6 (by decide) hw (fun b hw sz => c_X6_put l D t G _ b 68 4 z26 _ hw sz) dX11_list_261 ⟨Nat.le_of_ble_eq_true rfl, Nat.le_of_ble_eq_true rfl⟩ rfl hl.1 (Nat.le_of_ble_eq_true rfl) rfl (fun κ27 H locs cells slots hw hH => ?_)
      refine lv_aload_n hx hb dX11_list_264 rfl (lv_at hl 2 rfl) ?_
      refine cw_getPr (a := h) hF hH fk_X11_68 dX11_list_265 hw (fun z29 hw => ?_)
      refine lv_bipush (v := 72) hx hb dX11_list_268 (by decide) ?_
      refine lv_iload hx hb dX11_list_270 (lv_at hl 1 rfl) ?_
      refine lv_iadd hx hb dX11_list_272 ?_
      refine w_nmi hw (fun z30 hw => ?_)
      refine cw_putI (q := z29) (v := z30) hF hH fk_X11_85 dX11_list_273 rfl rfl rfl hw (fun κ31 H locs cells slots hw hH => ?_)
      refine lv_iload hx hb dX11_list_276 (lv_at hl 0 rfl) ?_
      exact cw_reti hF hH ⟨rfl, rfl⟩ hr rfl hlk dX11_list_278 hw
    · skip
      refine w_icmp_ge (tgt := 225) hF dX11_list_43 rfl hw (fun hw => ?_) (fun hw => ?_)
      · have hl : lv_has ls 15 [(8, .int x10.2.1), (6, .int x10.2.2.2), (0, .ref h)] := lv_sub hl [1, 3, 9] rfl
        exact jn18 x10.2.1 κ11 ls _ _ _ _ hl hw hH
      · refine lv_aload_n hx hb dX11_list_46 rfl (lv_at hl 9 rfl) ?_
        refine w_aloadq_n hF dX11_list_47 rfl (lv_at hl 8 rfl) ?_
        refine cw_cVi (b := h) (As := [va_rf a1]) (rest := []) hF hH hA hE mv_X11_879 ci_X11 (by decide) (fun sz => c_X11_nextStage l D t G _ h a1 _ hw.2 sz) dX11_list_48 hw.1 ⟨Nat.le_of_ble_eq_true rfl, Nat.le_of_ble_eq_true rfl⟩ rfl hl.1 (Nat.le_of_ble_eq_true rfl) rfl (fun z33 κ32 H locs cells slots hw hH => ?_)
        refine lv_istore (lv' := [(10, .int z33), (9, .int x10.1), (8, .int x10.2.1), (7, .int x10.2.2.1), (6, .int x10.2.2.2), (5, .int x5), (4, .int a4), (3, .int a3), (2, .int a2), (1, va_rf a1), (0, .ref h)]) hx hb dX11_list_51 hl (by decide) rfl (fun ls hl => ?_)
        refine lv_aload_n hx hb dX11_list_53 rfl (lv_at hl 10 rfl) ?_
        refine w_aloadq_n hF dX11_list_54 rfl (lv_at hl 9 rfl) ?_
        refine lv_iload hx hb dX11_list_55 (lv_at hl 0 rfl) ?_
        refine cw_cVq (b := h) (As := [va_rf a1, .int z33]) (rest := []) hF hH hA hE mv_X11_882 ci_X11 (by decide) (fun sz => c_X11_entryNode l D t G _ h a1 z33 _ hw.2 sz) dX11_list_57 hw.1 ⟨Nat.le_of_ble_eq_true rfl, Nat.le_of_ble_eq_true rfl⟩ rfl hl.1 (Nat.le_of_ble_eq_true rfl) rfl (fun z35 κ34 H locs cells slots hw hH => ?_)
        refine w_astoreq (lv' := [(11, va_rf z35), (10, .int z33), (9, .int x10.1), (8, .int x10.2.1), (7, .int x10.2.2.1), (6, .int x10.2.2.2), (5, .int x5), (4, .int a4), (3, .int a3), (2, .int a2), (1, va_rf a1), (0, .ref h)]) hF dX11_list_60 hl (by decide) rfl (fun ls hl => ?_)
        refine w_aloadq hF dX11_list_62 (lv_at hl 0 rfl) ?_
        refine cw_ifnonnull (q := z35) (tgt := 70) hF dX11_list_64 rfl hw (fun hw => ?_) (fun hw => ?_)
        · refine lv_iload hx hb dX11_list_70 (lv_at hl 1 rfl) ?_
          refine lv_iconst (v := 2) hx hb dX11_list_72 (by decide) ?_
          obtain ⟨K38, hK39, hw⟩ := jc_open hw
          refine cw_join (K := K38) 87 (fun (x36 : Option Nat) => [(11, va_rf z35), (10, .int z33), (9, .int x10.1), (8, .int x10.2.1), (7, .int x10.2.2.1), (6, .int x10.2.2.2), (5, .int x5), (4, .int a4), (3, .int a3), (2, .int a2), (1, va_rf a1), (0, .ref h)]) (fun (x36 : Option Nat) => [va_rf x36]) hl hH (fun x36 κ37 ls H locs cells slots hl hw hH => ?_) (fun jn40 => ?_)
          · have hw := hK39 x36 κ37 hw
            have hl : lv_has ls 15 [(11, va_rf z35), (10, .int z33), (9, .int x10.1), (8, .int x10.2.1), (7, .int x10.2.2.1), (6, .int x10.2.2.2), (5, .int x5), (4, .int a4), (3, .int a3), (2, .int a2), (1, va_rf a1), (0, .ref h)] := hl
            refine w_astoreq (lv' := [(12, va_rf x36), (11, va_rf z35), (10, .int z33), (9, .int x10.1), (8, .int x10.2.1), (7, .int x10.2.2.1), (6, .int x10.2.2.2), (5, .int x5), (4, .int a4), (3, .int a3), (2, .int a2), (1, va_rf a1), (0, .ref h)]) hF dX11_list_87 hl (by decide) (by generalize z35 = y; cases y <;> rfl) (fun ls hl => ?_)
            refine lv_iload hx hb dX11_list_89 (lv_at hl 2 rfl) ?_
            refine lv_iconst (v := 2) hx hb dX11_list_91 (by decide) ?_
            obtain ⟨K43, hK44, hw⟩ := jc_open hw
            refine cw_join (K := K43) 107 (fun (x41 : Int32) => [(12, va_rf x36), (11, va_rf z35), (10, .int z33), (9, .int x10.1), (8, .int x10.2.1), (7, .int x10.2.2.1), (6, .int x10.2.2.2), (5, .int x5), (4, .int a4), (3, .int a3), (2, .int a2), (1, va_rf a1), (0, .ref h)]) (fun (x41 : Int32) => [.int x41]) hl hH (fun x41 κ42 ls H locs cells slots hl hw hH => ?_) (fun jn45 => ?_)
            · have hw := hK44 x41 κ42 hw
              have hl : lv_has ls 15 [(12, va_rf x36), (11, va_rf z35), (10, .int z33), (9, .int x10.1), (8, .int x10.2.1), (7, .int x10.2.2.1), (6, .int x10.2.2.2), (5, .int x5), (4, .int a4), (3, .int a3), (2, .int a2), (1, va_rf a1), (0, .ref h)] := hl
              refine lv_istore (lv' := [(13, .int x41), (12, va_rf x36), (11, va_rf z35), (10, .int z33), (9, .int x10.1), (8, .int x10.2.1), (7, .int x10.2.2.1), (6, .int x10.2.2.2), (5, .int x5), (4, .int a4), (3, .int a3), (2, .int a2), (1, va_rf a1), (0, .ref h)]) hx hb dX11_list_107 hl (by decide) (by generalize x36 = y; cases y <;> rfl) (fun ls hl => ?_)
              refine lv_iload hx hb dX11_list_109 (lv_at hl 7 rfl) ?_
              refine lv_bipush (v := 7) hx hb dX11_list_111 (by decide) ?_
              refine lv_iadd hx hb dX11_list_113 ?_
              refine w_nmi hw (fun z46 hw => ?_)
              refine lv_iload hx hb dX11_list_114 (lv_at hl 7 rfl) ?_
              refine lv_bipush (v := 7) hx hb dX11_list_116 (by decide) ?_
              refine lv_iadd hx hb dX11_list_118 ?_
              refine w_nmi hw (fun z47 hw => ?_)
              refine lv_bipush (v := 8) hx hb dX11_list_119 (by decide) ?_
              refine lv_irem hx hb dX11_list_121 (by decide) ?_
              refine w_nmi hw (fun z48 hw => ?_)
              refine lv_isub hx hb dX11_list_122 ?_
              refine w_nmi hw (fun z49 hw => ?_)
              refine lv_istore (lv' := [(14, .int z49), (13, .int x41), (12, va_rf x36), (11, va_rf z35), (10, .int z33), (9, .int x10.1), (8, .int x10.2.1), (7, .int x10.2.2.1), (6, .int x10.2.2.2), (5, .int x5), (4, .int a4), (3, .int a3), (2, .int a2), (1, va_rf a1), (0, .ref h)]) hx hb dX11_list_123 hl (by decide) rfl (fun ls hl => ?_)
              refine lv_iload hx hb dX11_list_125 (lv_at hl 0 rfl) ?_
              refine lv_iload hx hb dX11_list_127 (lv_at hl 9 rfl) ?_
              refine lv_iadd hx hb dX11_list_129 ?_
              refine w_nmi hw (fun z50 hw => ?_)
              refine lv_iconst (v := 2) hx hb dX11_list_130 (by decide) ?_
              refine lv_iload hx hb dX11_list_131 (lv_at hl 1 rfl) ?_
              refine lv_imul hx hb dX11_list_133 ?_
              refine w_nmi hw (fun z51 hw => ?_)
              refine lv_iadd hx hb dX11_list_134 ?_
              refine w_nmi hw (fun z52 hw => ?_)
              refine lv_iload_n hx hb dX11_list_135 rfl (lv_at hl 11 rfl) ?_
              refine w_icmp_le (tgt := 157) hF dX11_list_136 rfl hw (fun hw => ?_) (fun hw => ?_)
              · refine lv_aload_n hx hb dX11_list_157 rfl (lv_at hl 14 rfl) ?_
                refine cw_getPr (a := h) hF hH fk_X11_68 dX11_list_158 hw (fun z53 hw => ?_)
                refine lv_bipush (v := 72) hx hb dX11_list_161 (by decide) ?_
                refine lv_iload hx hb dX11_list_163 (lv_at hl 7 rfl) ?_
                refine lv_iadd hx hb dX11_list_165 ?_
                refine w_nmi hw (fun z54 hw => ?_)
                refine lv_iconst (v := 4) hx hb dX11_list_166 (by decide) ?_
                refine lv_iload hx hb dX11_list_167 (lv_at hl 0 rfl) ?_
                refine lv_iload hx hb dX11_list_169 (lv_at hl 7 rfl) ?_
                refine lv_isub hx hb dX11_list_171 ?_
                refine w_nmi hw (fun z55 hw => ?_)
                refine lv_i2l hx hb dX11_list_172 rfl ?_
                refine w_nml hw (fun z56 hw => ?_)
                refine cw_cVvq (q := z53) (As := [.int z54, .int 4, .long z56]) (rest := []) hF hH hA hE mv_X11_349 ci_X6 (by decide) hw (fun b hw sz => c_X6_put l D t G _ b z54 4 z56 _ hw sz) dX11_list_173 ⟨Nat.le_of_ble_eq_true rfl, Nat.le_of_ble_eq_true rfl⟩ rfl hl.1 (Nat.le_of_ble_eq_true rfl) rfl (fun κ57 H locs cells slots hw hH => ?_)
                refine lv_aload_n hx hb dX11_list_176 rfl (lv_at hl 14 rfl) ?_
                refine lv_bipush (v := 72) hx hb dX11_list_177 (by decide) ?_
                refine lv_iload hx hb dX11_list_179 (lv_at hl 0 rfl) ?_
                refine lv_iadd hx hb dX11_list_181 ?_
                refine w_nmi hw (fun z59 hw => ?_)
                refine lv_iload_n hx hb dX11_list_182 rfl (lv_at hl 12 rfl) ?_
                refine w_aloadq hF dX11_list_183 (lv_at hl 3 rfl) ?_
                refine w_aloadq hF dX11_list_185 (lv_at hl 2 rfl) ?_
                refine lv_iload hx hb dX11_list_187 (lv_at hl 1 rfl) ?_
                refine cw_cVv (b := h) (As := [.int z59, .int a2, va_rf z35, va_rf x36, .int x41]) (rest := []) hF hH hA hE mv_X11_890 ci_X11 (by decide) (fun sz => c_X11_putEntry l D t G _ h z59 a2 z35 x36 x41 _ hw.2 sz) dX11_list_189 hw.1 ⟨Nat.le_of_ble_eq_true rfl, Nat.le_of_ble_eq_true rfl⟩ rfl hl.1 (Nat.le_of_ble_eq_true rfl) rfl (fun κ60 H locs cells slots hw hH => ?_)
                refine w_aloadq_n hF dX11_list_192 rfl (lv_at hl 13 rfl) ?_
                refine lv_iload hx hb dX11_list_193 (lv_at hl 4 rfl) ?_
                refine w_aloadq hF dX11_list_195 (lv_at hl 3 rfl) ?_
                refine cw_cVvq (q := a1) (As := [.int z33, va_rf z35]) (rest := []) hF hH hA hE mv_X11_894 ci_X5 (by decide) hw (fun b hw sz => c_X5_goBehind l D t G _ b z33 z35 _ hw sz) dX11_list_197 ⟨Nat.le_of_ble_eq_true rfl, Nat.le_of_ble_eq_true rfl⟩ rfl hl.1 (Nat.le_of_ble_eq_true rfl) rfl (fun κ62 H locs cells slots hw hH => ?_)
                refine lv_iload hx hb dX11_list_200 (lv_at hl 0 rfl) ?_
                refine lv_istore (lv' := [(7, .int z49), (14, .int z49), (13, .int x41), (12, va_rf x36), (11, va_rf z35), (10, .int z33), (9, .int x10.1), (8, .int x10.2.1), (6, .int x10.2.2.2), (5, .int x5), (4, .int a4), (3, .int a3), (2, .int a2), (1, va_rf a1), (0, .ref h)]) hx hb dX11_list_202 hl (by decide) rfl (fun ls hl => ?_)
                refine lv_iload hx hb dX11_list_204 (lv_at hl 1 rfl) ?_
                refine lv_iload hx hb dX11_list_206 (lv_at hl 9 rfl) ?_
                refine lv_iadd hx hb dX11_list_208 ?_
                refine w_nmi hw (fun z64 hw => ?_)
                refine lv_iconst (v := 2) hx hb dX11_list_209 (by decide) ?_
                refine lv_iload hx hb dX11_list_210 (lv_at hl 2 rfl) ?_
                refine lv_imul hx hb dX11_list_212 ?_
                refine w_nmi hw (fun z65 hw => ?_)
                refine lv_iadd hx hb dX11_list_213 ?_
                refine w_nmi hw (fun z66 hw => ?_)
                refine lv_istore (lv' := [(6, .int z66), (7, .int z49), (14, .int z49), (13, .int x41), (12, va_rf x36), (11, va_rf z35), (10, .int z33), (9, .int x10.1), (8, .int x10.2.1), (5, .int x5), (4, .int a4), (3, .int a3), (2, .int a2), (1, va_rf a1), (0, .ref h)]) hx hb dX11_list_214 hl (by decide) rfl (fun ls hl => ?_)
                refine lv_iconst (v := 0) hx hb dX11_list_216 (by decide) ?_
                refine lv_istore (lv' := [(8, .int 0), (6, .int z66), (7, .int z49), (14, .int z49), (13, .int x41), (12, va_rf x36), (11, va_rf z35), (10, .int z33), (9, .int x10.1), (5, .int x5), (4, .int a4), (3, .int a3), (2, .int a2), (1, va_rf a1), (0, .ref h)]) hx hb dX11_list_217 hl (by decide) rfl (fun ls hl => ?_)
                obtain ⟨z67, ez67⟩ : ∃ z : Int32, z = x10.1 + 1 := ⟨_, rfl⟩
                have hw := hw z67 ez67
                refine lv_iinc (lv' := [(9, .int z67), (8, .int 0), (6, .int z66), (7, .int z49), (14, .int z49), (13, .int x41), (12, va_rf x36), (11, va_rf z35), (10, .int z33), (5, .int x5), (4, .int a4), (3, .int a3), (2, .int a2), (1, va_rf a1), (0, .ref h)]) (k := 8) (v := z67) hx hb dX11_list_219 hl rfl ez67.symm (by decide) rfl (fun ls hl => ?_)
                refine lv_goto (tgt := 39) hx hb dX11_list_222 rfl ?_
                have hl : lv_has ls 15 [(9, .int z67), (8, .int 0), (7, .int z49), (6, .int z66), (5, .int x5), (4, .int a4), (3, .int a3), (2, .int a2), (1, va_rf a1), (0, .ref h)] := lv_sub hl [0, 1, 3, 2, 9, 10, 11, 12, 13, 14] rfl
                exact ih13 (z67, 0, z49, z66) κ62 ls _ _ _ _ hl hw hH
              · refine lv_iload hx hb dX11_list_139 (lv_at hl 5 rfl) ?_
                obtain ⟨K70, hK71, hw⟩ := jc_open hw
                refine cw_join (K := K70) 152 (fun (x68 : Int32) => [(6, .int x10.2.2.2), (0, .ref h)]) (fun (x68 : Int32) => [.int x68]) hl hH (fun x68 κ69 ls H locs cells slots hl hw hH => ?_) (fun jn72 => ?_)
                · have hw := hK71 x68 κ69 hw
                  have hl : lv_has ls 15 [(6, .int x10.2.2.2), (0, .ref h)] := hl
                  refine lv_istore (lv' := [(8, .int x68), (6, .int x10.2.2.2), (0, .ref h)]) hx hb dX11_list_152 hl (by decide) rfl (fun ls hl => ?_)
                  refine lv_goto (tgt := 225) hx hb dX11_list_154 rfl ?_
                  exact jn18 x68 κ69 ls _ _ _ _ hl hw hH
                · skip
                  refine w_if_ne (tgt := 150) hF dX11_list_141 rfl hw (fun hw => ?_) (fun hw => ?_)
                  · refine lv_iload hx hb dX11_list_150 (lv_at hl 6 rfl) ?_
                    have hl : lv_has ls 15 [(6, .int x10.2.2.2), (0, .ref h)] := lv_sub hl [8, 14] rfl
                    exact jn72 x10.2.1 κ42 ls _ _ _ _ hl hw hH
                  · refine lv_ldcw (v := (-1073741820)) hx hb hF.1.2.2.2.1 (hF.1.2.2.2.2 _ (wc_33 8 rfl)) dX11_list_144 ?_
                    refine lv_goto (tgt := 152) hx hb dX11_list_147 rfl ?_
                    have hl : lv_has ls 15 [(6, .int x10.2.2.2), (0, .ref h)] := lv_sub hl [8, 14] rfl
                    exact jn72 (-1073741820) κ42 ls _ _ _ _ hl hw hH
            · skip
              refine w_icmp_ge (tgt := 102) hF dX11_list_92 rfl hw (fun hw => ?_) (fun hw => ?_)
              · refine w_aloadq hF dX11_list_102 (lv_at hl 1 rfl) ?_
                refine cw_getI (q := z35) hF hH fk_X11_218 dX11_list_104 hw (fun z73 hw => ?_)
                exact jn45 z73 κ37 ls _ _ _ _ hl hw hH
              · refine lv_iload hx hb dX11_list_95 (lv_at hl 2 rfl) ?_
                refine lv_iconst (v := 1) hx hb dX11_list_97 (by decide) ?_
                refine lv_iadd hx hb dX11_list_98 ?_
                refine w_nmi hw (fun z74 hw => ?_)
                refine lv_goto (tgt := 107) hx hb dX11_list_99 rfl ?_
                exact jn45 z74 κ37 ls _ _ _ _ hl hw hH
          · skip
            refine w_icmp_ge (tgt := 82) hF dX11_list_73 rfl hw (fun hw => ?_) (fun hw => ?_)
            · refine w_aloadq hF dX11_list_82 (lv_at hl 0 rfl) ?_
              refine cw_getP (q := z35) hF hH fk_X11_223 dX11_list_84 hw (fun z75 hw => ?_)
              exact jn40 z75 κ34 ls _ _ _ _ hl hw hH
            · refine cw_getsD hF hH hE (wc_33 7 rfl) dX11_list_76 ?_
              refine lv_goto (tgt := 87) hx hb dX11_list_79 rfl ?_
              exact jn40 (some G.2.2.2.1) κ34 ls _ _ _ _ hl hw hH
        · refine lv_goto (tgt := 225) hx hb dX11_list_67 rfl ?_
          have hl : lv_has ls 15 [(8, .int x10.2.1), (6, .int x10.2.2.2), (0, .ref h)] := lv_sub hl [3, 5, 11] rfl
          exact jn18 x10.2.1 κ34 ls _ _ _ _ hl hw hH
  · skip
    refine w_icmp_ne (tgt := 21) hF dX11_list_13 rfl hw (fun hw => ?_) (fun hw => ?_)
    · refine lv_bipush (v := 12) hx hb dX11_list_21 (by decide) ?_
      have hl : lv_has ls 15 [(4, .int a4), (3, .int a3), (2, .int a2), (1, va_rf a1), (0, .ref h)] := lv_sub hl [4, 3, 2, 1, 0] rfl
      exact jn9 12 κ3 ls _ _ _ _ hl hw hH
    · refine lv_bipush (v := 64) hx hb dX11_list_16 (by decide) ?_
      refine lv_goto (tgt := 23) hx hb dX11_list_18 rfl ?_
      have hl : lv_has ls 15 [(4, .int a4), (3, .int a3), (2, .int a2), (1, va_rf a1), (0, .ref h)] := lv_sub hl [4, 3, 2, 1, 0] rfl
      exact jn9 64 κ3 ls _ _ _ _ hl hw hH
set_option maxRecDepth 100000 in
def F_X11_queryDirectory (G : GE) (h : Nat) (a1 : Option Nat) (a2 : Option Nat) (post : Int32 → CS → Prop) (κ : CS) : Prop := ∃ b : Nat, a1 = some b ∧ (b ∈ sL κ.1 ∧ sK κ.1 b = 8) ∧ F_X0_number G b 92 4 (fun (z2 : Int64) (κ1 : CS) => ∃ b : Nat, a1 = some b ∧ (b ∈ sL κ1.1 ∧ sK κ1.1 b = 8) ∧ F_X0_number G b 66 1 (fun (z4 : Int64) (κ3 : CS) => ∀ z5 : Int32, z5 = (z4 : Int64).toInt32 → ∃ b : Nat, a1 = some b ∧ (b ∈ sL κ3.1 ∧ sK κ3.1 b = 8) ∧ F_X0_number G b 67 1 (fun (z7 : Int64) (κ6 : CS) => ∀ z8 : Int32, z8 = (z7 : Int64).toInt32 → jc (fun (K11 : Unit → CS → Prop) => (((1024 : Int64).toInt < z2.toInt) → K11 () κ6) ∧ ((z2.toInt ≤ (1024 : Int64).toInt) → ∃ b : Nat, a2 = some b ∧ (b ∈ sL κ6.1 ∧ sK κ6.1 b = 10) ∧ ∀ z14 : Option Nat, z14 = sP κ6.1 b 2 → ∃ b : Nat, z14 = some b ∧ (b ∈ sL κ6.1 ∧ sK κ6.1 b = 5) ∧ ∀ z15 : Int32, z15 = sI κ6.1 b 2 → ((¬ z15.toInt = 0) → jc (fun (K18 : Unit → CS → Prop) => ((z5.toInt = (1 : Int32).toInt) → K18 () κ6) ∧ ((¬ z5.toInt = (1 : Int32).toInt) → ((z5.toInt = (12 : Int32).toInt) → K18 () κ6) ∧ ((¬ z5.toInt = (12 : Int32).toInt) → post (-1073741821) κ6))) (fun (x16 : Unit) (κ17 : CS) => ∃ b : Nat, a2 = some b ∧ (b ∈ sL κ17.1 ∧ sK κ17.1 b = 10) ∧ ∀ z21 : Int32, z21 = sI κ17.1 b 3 → ∀ z22 : Int32, z22 = z21 &&& 1 → ((¬ z22.toInt = 0) → ∃ b : Nat, a2 = some b ∧ (b ∈ sL κ17.1 ∧ sK κ17.1 b = 10) ∧ ∀ z23 : Option Nat, z23 = sP κ17.1 b 11 → jc (fun (K26 : Int32 → CS → Prop) => jc (fun (K70 : Unit → CS → Prop) => ((z23 = none) → K70 () κ17) ∧ ((¬ z23 = none) → ∀ z73 : Int32, z73 = z8 &&& 1 → ((z73.toInt = 0) → K26 0 κ17) ∧ ((¬ z73.toInt = 0) → K70 () κ17))) (fun (x68 : Unit) (κ69 : CS) => K26 1 κ69)) (fun (x24 : Int32) (κ25 : CS) => jc (fun (K31 : Unit → CS → Prop) => ((x24.toInt = 0) → K31 () κ25) ∧ ((¬ x24.toInt = 0) → ∃ b : Nat, a1 = some b ∧ (b ∈ sL κ25.1 ∧ sK κ25.1 b = 8) ∧ F_X0_number G b 90 2 (fun (z54 : Int64) (κ53 : CS) => ∀ z55 : Int32, z55 = (z54 : Int64).toInt32 → ∀ z56 : Int32, z56 = z55 - z55 / 2 * 2 → jc (fun (K59 : Unit → CS → Prop) => ((¬ z56.toInt = 0) → K59 () κ53) ∧ ((z56.toInt = 0) → ((z55.toInt ≤ (40 : Int32).toInt) → ∃ b : Nat, a1 = some b ∧ (b ∈ sL κ53.1 ∧ sK κ53.1 b = 8) ∧ F_X0_number G b 88 2 (fun (z63 : Int64) (κ62 : CS) => ∀ z64 : Int32, z64 = (z63 : Int64).toInt32 → ∀ z65 : Int32, z65 = z55 / 2 → ∃ b : Nat, a2 = some b ∧ (b ∈ sL κ62.1 ∧ sK κ62.1 b = 10) ∧ F_X5_takePattern G b a1 z64 z65 (fun (κ66 : CS) => K31 () κ66) κ62) κ53) ∧ (((40 : Int32).toInt < z55.toInt) → K59 () κ53))) (fun (x57 : Unit) (κ58 : CS) => post (-1073741773) κ58)) κ25)) (fun (x29 : Unit) (κ30 : CS) => ∀ z34 : Int32, z34 = z8 &&& 2 → jc (fun (K37 : Int32 → CS → Prop) => ((z34.toInt = 0) → K37 82 κ30) ∧ ((¬ z34.toInt = 0) → K37 1 κ30)) (fun (x35 : Int32) (κ36 : CS) => ∀ z40 : Int32, z40 = (z2 : Int64).toInt32 → (h ∈ sL κ36.1 ∧ sK κ36.1 h = 1) ∧ F_X11_list G h a2 z5 z40 x35 (fun (z42 : Int32) (κ41 : CS) => jc (fun (K45 : Int32 → CS → Prop) => jc (fun (K50 : Unit → CS → Prop) => ((¬ z42.toInt = ((-2147483642) : Int32).toInt) → K50 () κ41) ∧ ((z42.toInt = ((-2147483642) : Int32).toInt) → ((x24.toInt = 0) → K50 () κ41) ∧ ((¬ x24.toInt = 0) → K45 (-1073741809) κ41))) (fun (x48 : Unit) (κ49 : CS) => K45 z42 κ49)) (fun (x43 : Int32) (κ44 : CS) => post x43 κ44)) κ36)))) ∧ ((z22.toInt = 0) → post (-1073741790) κ17))) ∧ ((z15.toInt = 0) → K11 () κ6))) (fun (x9 : Unit) (κ10 : CS) => post (-1073741811) κ10)) κ3) κ1) κ
theorem dX11_queryDirectory_0 : decode cX11_queryDirectory 0 = .ok (.aload_n 1, 1) := by decide +kernel
theorem dX11_queryDirectory_1 : decode cX11_queryDirectory 1 = .ok (.bipush 92, 2) := by decide +kernel
theorem dX11_queryDirectory_3 : decode cX11_queryDirectory 3 = .ok (.iconst 4, 1) := by decide +kernel
theorem dX11_queryDirectory_4 : decode cX11_queryDirectory 4 = .ok (.invokevirtual 394, 3) := by decide +kernel
theorem dX11_queryDirectory_7 : decode cX11_queryDirectory 7 = .ok (.lstore_n 3, 1) := by decide +kernel
theorem dX11_queryDirectory_8 : decode cX11_queryDirectory 8 = .ok (.aload_n 1, 1) := by decide +kernel
theorem dX11_queryDirectory_9 : decode cX11_queryDirectory 9 = .ok (.bipush 66, 2) := by decide +kernel
theorem dX11_queryDirectory_11 : decode cX11_queryDirectory 11 = .ok (.iconst 1, 1) := by decide +kernel
theorem dX11_queryDirectory_12 : decode cX11_queryDirectory 12 = .ok (.invokevirtual 394, 3) := by decide +kernel
theorem dX11_queryDirectory_15 : decode cX11_queryDirectory 15 = .ok (.l2i, 1) := by decide +kernel
theorem dX11_queryDirectory_16 : decode cX11_queryDirectory 16 = .ok (.istore 5, 2) := by decide +kernel
theorem dX11_queryDirectory_18 : decode cX11_queryDirectory 18 = .ok (.aload_n 1, 1) := by decide +kernel
theorem dX11_queryDirectory_19 : decode cX11_queryDirectory 19 = .ok (.bipush 67, 2) := by decide +kernel
theorem dX11_queryDirectory_21 : decode cX11_queryDirectory 21 = .ok (.iconst 1, 1) := by decide +kernel
theorem dX11_queryDirectory_22 : decode cX11_queryDirectory 22 = .ok (.invokevirtual 394, 3) := by decide +kernel
theorem dX11_queryDirectory_25 : decode cX11_queryDirectory 25 = .ok (.l2i, 1) := by decide +kernel
theorem dX11_queryDirectory_26 : decode cX11_queryDirectory 26 = .ok (.istore 6, 2) := by decide +kernel
theorem dX11_queryDirectory_28 : decode cX11_queryDirectory 28 = .ok (.lload_n 3, 1) := by decide +kernel
theorem dX11_queryDirectory_29 : decode cX11_queryDirectory 29 = .ok (.ldc2_w 603, 3) := by decide +kernel
theorem dX11_queryDirectory_32 : decode cX11_queryDirectory 32 = .ok (.lcmp, 1) := by decide +kernel
theorem dX11_queryDirectory_33 : decode cX11_queryDirectory 33 = .ok (.ifCond .gt 13, 3) := by decide +kernel
theorem dX11_queryDirectory_36 : decode cX11_queryDirectory 36 = .ok (.aload_n 2, 1) := by decide +kernel
theorem dX11_queryDirectory_37 : decode cX11_queryDirectory 37 = .ok (.getfield 564, 3) := by decide +kernel
theorem dX11_queryDirectory_40 : decode cX11_queryDirectory 40 = .ok (.getfield 577, 3) := by decide +kernel
theorem dX11_queryDirectory_43 : decode cX11_queryDirectory 43 = .ok (.ifCond .ne 7, 3) := by decide +kernel
theorem dX11_queryDirectory_46 : decode cX11_queryDirectory 46 = .ok (.ldc_w 398, 3) := by decide +kernel
theorem dX11_queryDirectory_49 : decode cX11_queryDirectory 49 = .ok (.ireturn, 1) := by decide +kernel
theorem dX11_queryDirectory_50 : decode cX11_queryDirectory 50 = .ok (.iload 5, 2) := by decide +kernel
theorem dX11_queryDirectory_52 : decode cX11_queryDirectory 52 = .ok (.iconst 1, 1) := by decide +kernel
theorem dX11_queryDirectory_53 : decode cX11_queryDirectory 53 = .ok (.if_icmp .eq 14, 3) := by decide +kernel
theorem dX11_queryDirectory_56 : decode cX11_queryDirectory 56 = .ok (.iload 5, 2) := by decide +kernel
theorem dX11_queryDirectory_58 : decode cX11_queryDirectory 58 = .ok (.bipush 12, 2) := by decide +kernel
theorem dX11_queryDirectory_60 : decode cX11_queryDirectory 60 = .ok (.if_icmp .eq 7, 3) := by decide +kernel
theorem dX11_queryDirectory_63 : decode cX11_queryDirectory 63 = .ok (.ldc_w 865, 3) := by decide +kernel
theorem dX11_queryDirectory_66 : decode cX11_queryDirectory 66 = .ok (.ireturn, 1) := by decide +kernel
theorem dX11_queryDirectory_67 : decode cX11_queryDirectory 67 = .ok (.aload_n 2, 1) := by decide +kernel
theorem dX11_queryDirectory_68 : decode cX11_queryDirectory 68 = .ok (.getfield 765, 3) := by decide +kernel
theorem dX11_queryDirectory_71 : decode cX11_queryDirectory 71 = .ok (.iconst 1, 1) := by decide +kernel
theorem dX11_queryDirectory_72 : decode cX11_queryDirectory 72 = .ok (.iand, 1) := by decide +kernel
theorem dX11_queryDirectory_73 : decode cX11_queryDirectory 73 = .ok (.ifCond .ne 7, 3) := by decide +kernel
theorem dX11_queryDirectory_76 : decode cX11_queryDirectory 76 = .ok (.ldc_w 658, 3) := by decide +kernel
theorem dX11_queryDirectory_79 : decode cX11_queryDirectory 79 = .ok (.ireturn, 1) := by decide +kernel
theorem dX11_queryDirectory_80 : decode cX11_queryDirectory 80 = .ok (.aload_n 2, 1) := by decide +kernel
theorem dX11_queryDirectory_81 : decode cX11_queryDirectory 81 = .ok (.getfield 866, 3) := by decide +kernel
theorem dX11_queryDirectory_84 : decode cX11_queryDirectory 84 = .ok (.ifnull 10, 3) := by decide +kernel
theorem dX11_queryDirectory_87 : decode cX11_queryDirectory 87 = .ok (.iload 6, 2) := by decide +kernel
theorem dX11_queryDirectory_89 : decode cX11_queryDirectory 89 = .ok (.iconst 1, 1) := by decide +kernel
theorem dX11_queryDirectory_90 : decode cX11_queryDirectory 90 = .ok (.iand, 1) := by decide +kernel
theorem dX11_queryDirectory_91 : decode cX11_queryDirectory 91 = .ok (.ifCond .eq 7, 3) := by decide +kernel
theorem dX11_queryDirectory_94 : decode cX11_queryDirectory 94 = .ok (.iconst 1, 1) := by decide +kernel
theorem dX11_queryDirectory_95 : decode cX11_queryDirectory 95 = .ok (.goto 4, 3) := by decide +kernel
theorem dX11_queryDirectory_98 : decode cX11_queryDirectory 98 = .ok (.iconst 0, 1) := by decide +kernel
theorem dX11_queryDirectory_99 : decode cX11_queryDirectory 99 = .ok (.istore 7, 2) := by decide +kernel
theorem dX11_queryDirectory_101 : decode cX11_queryDirectory 101 = .ok (.iload 7, 2) := by decide +kernel
theorem dX11_queryDirectory_103 : decode cX11_queryDirectory 103 = .ok (.ifCond .eq 48, 3) := by decide +kernel
theorem dX11_queryDirectory_106 : decode cX11_queryDirectory 106 = .ok (.aload_n 1, 1) := by decide +kernel
theorem dX11_queryDirectory_107 : decode cX11_queryDirectory 107 = .ok (.bipush 90, 2) := by decide +kernel
theorem dX11_queryDirectory_109 : decode cX11_queryDirectory 109 = .ok (.iconst 2, 1) := by decide +kernel
theorem dX11_queryDirectory_110 : decode cX11_queryDirectory 110 = .ok (.invokevirtual 394, 3) := by decide +kernel
theorem dX11_queryDirectory_113 : decode cX11_queryDirectory 113 = .ok (.l2i, 1) := by decide +kernel
theorem dX11_queryDirectory_114 : decode cX11_queryDirectory 114 = .ok (.istore 8, 2) := by decide +kernel
theorem dX11_queryDirectory_116 : decode cX11_queryDirectory 116 = .ok (.iload 8, 2) := by decide +kernel
theorem dX11_queryDirectory_118 : decode cX11_queryDirectory 118 = .ok (.iconst 2, 1) := by decide +kernel
theorem dX11_queryDirectory_119 : decode cX11_queryDirectory 119 = .ok (.irem, 1) := by decide +kernel
theorem dX11_queryDirectory_120 : decode cX11_queryDirectory 120 = .ok (.ifCond .ne 10, 3) := by decide +kernel
theorem dX11_queryDirectory_123 : decode cX11_queryDirectory 123 = .ok (.iload 8, 2) := by decide +kernel
theorem dX11_queryDirectory_125 : decode cX11_queryDirectory 125 = .ok (.bipush 40, 2) := by decide +kernel
theorem dX11_queryDirectory_127 : decode cX11_queryDirectory 127 = .ok (.if_icmp .le 7, 3) := by decide +kernel
theorem dX11_queryDirectory_130 : decode cX11_queryDirectory 130 = .ok (.ldc_w 669, 3) := by decide +kernel
theorem dX11_queryDirectory_133 : decode cX11_queryDirectory 133 = .ok (.ireturn, 1) := by decide +kernel
theorem dX11_queryDirectory_134 : decode cX11_queryDirectory 134 = .ok (.aload_n 2, 1) := by decide +kernel
theorem dX11_queryDirectory_135 : decode cX11_queryDirectory 135 = .ok (.aload_n 1, 1) := by decide +kernel
theorem dX11_queryDirectory_136 : decode cX11_queryDirectory 136 = .ok (.aload_n 1, 1) := by decide +kernel
theorem dX11_queryDirectory_137 : decode cX11_queryDirectory 137 = .ok (.bipush 88, 2) := by decide +kernel
theorem dX11_queryDirectory_139 : decode cX11_queryDirectory 139 = .ok (.iconst 2, 1) := by decide +kernel
theorem dX11_queryDirectory_140 : decode cX11_queryDirectory 140 = .ok (.invokevirtual 394, 3) := by decide +kernel
theorem dX11_queryDirectory_143 : decode cX11_queryDirectory 143 = .ok (.l2i, 1) := by decide +kernel
theorem dX11_queryDirectory_144 : decode cX11_queryDirectory 144 = .ok (.iload 8, 2) := by decide +kernel
theorem dX11_queryDirectory_146 : decode cX11_queryDirectory 146 = .ok (.iconst 2, 1) := by decide +kernel
theorem dX11_queryDirectory_147 : decode cX11_queryDirectory 147 = .ok (.idiv, 1) := by decide +kernel
theorem dX11_queryDirectory_148 : decode cX11_queryDirectory 148 = .ok (.invokevirtual 869, 3) := by decide +kernel
theorem dX11_queryDirectory_151 : decode cX11_queryDirectory 151 = .ok (.iload 6, 2) := by decide +kernel
theorem dX11_queryDirectory_153 : decode cX11_queryDirectory 153 = .ok (.iconst 2, 1) := by decide +kernel
theorem dX11_queryDirectory_154 : decode cX11_queryDirectory 154 = .ok (.iand, 1) := by decide +kernel
theorem dX11_queryDirectory_155 : decode cX11_queryDirectory 155 = .ok (.ifCond .eq 7, 3) := by decide +kernel
theorem dX11_queryDirectory_158 : decode cX11_queryDirectory 158 = .ok (.iconst 1, 1) := by decide +kernel
theorem dX11_queryDirectory_159 : decode cX11_queryDirectory 159 = .ok (.goto 5, 3) := by decide +kernel
theorem dX11_queryDirectory_162 : decode cX11_queryDirectory 162 = .ok (.bipush 82, 2) := by decide +kernel
theorem dX11_queryDirectory_164 : decode cX11_queryDirectory 164 = .ok (.istore 8, 2) := by decide +kernel
theorem dX11_queryDirectory_166 : decode cX11_queryDirectory 166 = .ok (.aload_n 0, 1) := by decide +kernel
theorem dX11_queryDirectory_167 : decode cX11_queryDirectory 167 = .ok (.aload_n 2, 1) := by decide +kernel
theorem dX11_queryDirectory_168 : decode cX11_queryDirectory 168 = .ok (.iload 5, 2) := by decide +kernel
theorem dX11_queryDirectory_170 : decode cX11_queryDirectory 170 = .ok (.lload_n 3, 1) := by decide +kernel
theorem dX11_queryDirectory_171 : decode cX11_queryDirectory 171 = .ok (.l2i, 1) := by decide +kernel
theorem dX11_queryDirectory_172 : decode cX11_queryDirectory 172 = .ok (.iload 8, 2) := by decide +kernel
theorem dX11_queryDirectory_174 : decode cX11_queryDirectory 174 = .ok (.invokevirtual 873, 3) := by decide +kernel
theorem dX11_queryDirectory_177 : decode cX11_queryDirectory 177 = .ok (.istore 9, 2) := by decide +kernel
theorem dX11_queryDirectory_179 : decode cX11_queryDirectory 179 = .ok (.iload 9, 2) := by decide +kernel
theorem dX11_queryDirectory_181 : decode cX11_queryDirectory 181 = .ok (.ldc_w 877, 3) := by decide +kernel
theorem dX11_queryDirectory_184 : decode cX11_queryDirectory 184 = .ok (.if_icmp .ne 14, 3) := by decide +kernel
theorem dX11_queryDirectory_187 : decode cX11_queryDirectory 187 = .ok (.iload 7, 2) := by decide +kernel
theorem dX11_queryDirectory_189 : decode cX11_queryDirectory 189 = .ok (.ifCond .eq 9, 3) := by decide +kernel
theorem dX11_queryDirectory_192 : decode cX11_queryDirectory 192 = .ok (.ldc_w 878, 3) := by decide +kernel
theorem dX11_queryDirectory_195 : decode cX11_queryDirectory 195 = .ok (.goto 5, 3) := by decide +kernel
theorem dX11_queryDirectory_198 : decode cX11_queryDirectory 198 = .ok (.iload 9, 2) := by decide +kernel
theorem dX11_queryDirectory_200 : decode cX11_queryDirectory 200 = .ok (.ireturn, 1) := by decide +kernel
set_option maxRecDepth 100000 in
set_option maxHeartbeats 4000000 in
theorem c_X11_queryDirectory (l : Launch) (D : va_G) (t : Nat → ClassId) (G : GE) (κ : CS) (h : Nat) (a1 : Option Nat) (a2 : Option Nat) (post : Int32 → CS → Prop) (hw : F_X11_queryDirectory G h a1 a2 post κ) (sz : Nat) : CMi l D t yX11_queryDirectory cX11_queryDirectory 10 (some .int) 4 124 G κ sz [.ref h, va_rf a1, va_rf a2] post := by
  refine c_go (by decide) (by cases a1 <;> cases a2 <;> exact Nat.le_of_ble_eq_true rfl) ?_
  intro p e s m below meth c ls A hF hr hlk hin hAe hH hA hE hl
  unfold cB
  rw [hAe]
  clear hAe
  have hF : FX p m c cX11_queryDirectory 10 s _ RX11 D t := hF
  have hx := hF.1.1
  have hb := hF.1.2.1
  have hl : lv_has ls 10 [(0, .ref h), (1, va_rf a1), (2, va_rf a2)] := (by have h2 := hl; clear hw; revert h2; cases a1 <;> cases a2 <;> exact id)
  unfold F_X11_queryDirectory at hw
  refine w_aloadq_n hF dX11_queryDirectory_0 rfl (lv_at hl 1 rfl) ?_
  refine lv_bipush (v := 92) hx hb dX11_queryDirectory_1 (by decide) ?_
  refine lv_iconst (v := 4) hx hb dX11_queryDirectory_3 (by decide) ?_
  refine cw_cVlq (q := a1) (As := [.int 92, .int 4]) (rest := []) hF hH hA hE mv_X11_394 ci_X0 (by decide) hw (fun b hw sz => c_X0_number l D t G _ b 92 4 _ hw sz) dX11_queryDirectory_4 ⟨Nat.le_of_ble_eq_true rfl, Nat.le_of_ble_eq_true rfl⟩ rfl hl.1 (Nat.le_of_ble_eq_true rfl) rfl (fun z2 κ1 H locs cells slots hw hH => ?_)
  refine lv_lstore_n (lv' := [(3, .long z2), (0, .ref h), (1, va_rf a1), (2, va_rf a2)]) hx hb dX11_queryDirectory_7 rfl hl (by decide) (by generalize a2 = y; cases y <;> rfl) (fun ls hl => ?_)
  refine w_aloadq_n hF dX11_queryDirectory_8 rfl (lv_at hl 2 rfl) ?_
  refine lv_bipush (v := 66) hx hb dX11_queryDirectory_9 (by decide) ?_
  refine lv_iconst (v := 1) hx hb dX11_queryDirectory_11 (by decide) ?_
  refine cw_cVlq (q := a1) (As := [.int 66, .int 1]) (rest := []) hF hH hA hE mv_X11_394 ci_X0 (by decide) hw (fun b hw sz => c_X0_number l D t G _ b 66 1 _ hw sz) dX11_queryDirectory_12 ⟨Nat.le_of_ble_eq_true rfl, Nat.le_of_ble_eq_true rfl⟩ rfl hl.1 (Nat.le_of_ble_eq_true rfl) rfl (fun z4 κ3 H locs cells slots hw hH => ?_)
  refine lv_l2i hx hb dX11_queryDirectory_15 rfl ?_
  refine w_nmi hw (fun z5 hw => ?_)
  refine lv_istore (lv' := [(5, .int z5), (3, .long z2), (0, .ref h), (1, va_rf a1), (2, va_rf a2)]) hx hb dX11_queryDirectory_16 hl (by decide) rfl (fun ls hl => ?_)
  refine w_aloadq_n hF dX11_queryDirectory_18 rfl (lv_at hl 3 rfl) ?_
  refine lv_bipush (v := 67) hx hb dX11_queryDirectory_19 (by decide) ?_
  refine lv_iconst (v := 1) hx hb dX11_queryDirectory_21 (by decide) ?_
  refine cw_cVlq (q := a1) (As := [.int 67, .int 1]) (rest := []) hF hH hA hE mv_X11_394 ci_X0 (by decide) hw (fun b hw sz => c_X0_number l D t G _ b 67 1 _ hw sz) dX11_queryDirectory_22 ⟨Nat.le_of_ble_eq_true rfl, Nat.le_of_ble_eq_true rfl⟩ rfl hl.1 (Nat.le_of_ble_eq_true rfl) rfl (fun z7 κ6 H locs cells slots hw hH => ?_)
  refine lv_l2i hx hb dX11_queryDirectory_25 rfl ?_
  refine w_nmi hw (fun z8 hw => ?_)
  refine lv_istore (lv' := [(6, .int z8), (5, .int z5), (3, .long z2), (0, .ref h), (1, va_rf a1), (2, va_rf a2)]) hx hb dX11_queryDirectory_26 hl (by decide) rfl (fun ls hl => ?_)
  refine lv_lload_n hx hb dX11_queryDirectory_28 rfl (lv_at hl 2 rfl) ?_
  refine lv_ldc2 (v := 1024) hx hb hF.1.2.2.2.1 (hF.1.2.2.2.2 _ (wc_31 12 rfl)) dX11_queryDirectory_29 ?_
  obtain ⟨K11, hK12, hw⟩ := jc_open hw
  refine cw_join (K := K11) 46 (fun (x9 : Unit) => []) (fun (x9 : Unit) => []) hl hH (fun x9 κ10 ls H locs cells slots hl hw hH => ?_) (fun jn13 => ?_)
  · have hw := hK12 x9 κ10 hw
    have hl : lv_has ls 10 [] := hl
    refine lv_ldcw (v := (-1073741811)) hx hb hF.1.2.2.2.1 (hF.1.2.2.2.2 _ (wc_16 24 rfl)) dX11_queryDirectory_46 ?_
    exact cw_reti hF hH ⟨rfl, rfl⟩ hr rfl hlk dX11_queryDirectory_49 hw
  · skip
    refine w_lif_gt (tgt := 46) hF dX11_queryDirectory_32 dX11_queryDirectory_33 rfl hw (fun hw => ?_) (fun hw => ?_)
    · have hl : lv_has ls 10 [] := lv_sub hl [] rfl
      exact jn13 () κ6 ls _ _ _ _ hl hw hH
    · refine w_aloadq_n hF dX11_queryDirectory_36 rfl (lv_at hl 5 rfl) ?_
      refine cw_getP (q := a2) hF hH fk_X11_564 dX11_queryDirectory_37 hw (fun z14 hw => ?_)
      refine cw_getI (q := z14) hF hH fk_X11_577 dX11_queryDirectory_40 hw (fun z15 hw => ?_)
      refine w_if_ne (tgt := 50) hF dX11_queryDirectory_43 rfl hw (fun hw => ?_) (fun hw => ?_)
      · refine lv_iload hx hb dX11_queryDirectory_50 (lv_at hl 1 rfl) ?_
        refine lv_iconst (v := 1) hx hb dX11_queryDirectory_52 (by decide) ?_
        obtain ⟨K18, hK19, hw⟩ := jc_open hw
        refine cw_join (K := K18) 67 (fun (x16 : Unit) => [(6, .int z8), (5, .int z5), (3, .long z2), (2, va_rf a2), (1, va_rf a1), (0, .ref h)]) (fun (x16 : Unit) => []) hl hH (fun x16 κ17 ls H locs cells slots hl hw hH => ?_) (fun jn20 => ?_)
        · have hw := hK19 x16 κ17 hw
          have hl : lv_has ls 10 [(6, .int z8), (5, .int z5), (3, .long z2), (2, va_rf a2), (1, va_rf a1), (0, .ref h)] := hl
          refine w_aloadq_n hF dX11_queryDirectory_67 rfl (lv_at hl 3 rfl) ?_
          refine cw_getI (q := a2) hF hH fk_X11_765 dX11_queryDirectory_68 hw (fun z21 hw => ?_)
          refine lv_iconst (v := 1) hx hb dX11_queryDirectory_71 (by decide) ?_
          refine lv_iand hx hb dX11_queryDirectory_72 ?_
          refine w_nmi hw (fun z22 hw => ?_)
          refine w_if_ne (tgt := 80) hF dX11_queryDirectory_73 rfl hw (fun hw => ?_) (fun hw => ?_)
          · refine w_aloadq_n hF dX11_queryDirectory_80 rfl (lv_at hl 3 rfl) ?_
            refine cw_getP (q := a2) hF hH fk_X11_866 dX11_queryDirectory_81 hw (fun z23 hw => ?_)
            obtain ⟨K26, hK27, hw⟩ := jc_open hw
            refine cw_join (K := K26) 99 (fun (x24 : Int32) => [(6, .int z8), (5, .int z5), (3, .long z2), (2, va_rf a2), (1, va_rf a1), (0, .ref h)]) (fun (x24 : Int32) => [.int x24]) hl hH (fun x24 κ25 ls H locs cells slots hl hw hH => ?_) (fun jn28 => ?_)
            · have hw := hK27 x24 κ25 hw
              have hl : lv_has ls 10 [(6, .int z8), (5, .int z5), (3, .long z2), (2, va_rf a2), (1, va_rf a1), (0, .ref h)] := hl
              refine lv_istore (lv' := [(7, .int x24), (6, .int z8), (5, .int z5), (3, .long z2), (2, va_rf a2), (1, va_rf a1), (0, .ref h)]) hx hb dX11_queryDirectory_99 hl (by decide) rfl (fun ls hl => ?_)
              refine lv_iload hx hb dX11_queryDirectory_101 (lv_at hl 0 rfl) ?_
              obtain ⟨K31, hK32, hw⟩ := jc_open hw
              refine cw_join (K := K31) 151 (fun (x29 : Unit) => [(7, .int x24), (6, .int z8), (5, .int z5), (3, .long z2), (2, va_rf a2), (0, .ref h)]) (fun (x29 : Unit) => []) hl hH (fun x29 κ30 ls H locs cells slots hl hw hH => ?_) (fun jn33 => ?_)
              · have hw := hK32 x29 κ30 hw
                have hl : lv_has ls 10 [(7, .int x24), (6, .int z8), (5, .int z5), (3, .long z2), (2, va_rf a2), (0, .ref h)] := hl
                refine lv_iload hx hb dX11_queryDirectory_151 (lv_at hl 1 rfl) ?_
                refine lv_iconst (v := 2) hx hb dX11_queryDirectory_153 (by decide) ?_
                refine lv_iand hx hb dX11_queryDirectory_154 ?_
                refine w_nmi hw (fun z34 hw => ?_)
                obtain ⟨K37, hK38, hw⟩ := jc_open hw
                refine cw_join (K := K37) 164 (fun (x35 : Int32) => [(7, .int x24), (5, .int z5), (3, .long z2), (2, va_rf a2), (0, .ref h)]) (fun (x35 : Int32) => [.int x35]) hl hH (fun x35 κ36 ls H locs cells slots hl hw hH => ?_) (fun jn39 => ?_)
                · have hw := hK38 x35 κ36 hw
                  have hl : lv_has ls 10 [(7, .int x24), (5, .int z5), (3, .long z2), (2, va_rf a2), (0, .ref h)] := hl
                  refine lv_istore (lv' := [(8, .int x35), (7, .int x24), (5, .int z5), (3, .long z2), (2, va_rf a2), (0, .ref h)]) hx hb dX11_queryDirectory_164 hl (by decide) rfl (fun ls hl => ?_)
                  refine lv_aload_n hx hb dX11_queryDirectory_166 rfl (lv_at hl 5 rfl) ?_
                  refine w_aloadq_n hF dX11_queryDirectory_167 rfl (lv_at hl 4 rfl) ?_
                  refine lv_iload hx hb dX11_queryDirectory_168 (lv_at hl 2 rfl) ?_
                  refine lv_lload_n hx hb dX11_queryDirectory_170 rfl (lv_at hl 3 rfl) ?_
                  refine lv_l2i hx hb dX11_queryDirectory_171 rfl ?_
                  refine w_nmi hw (fun z40 hw => ?_)
                  refine lv_iload hx hb dX11_queryDirectory_172 (lv_at hl 0 rfl) ?_
                  refine cw_cVi (b := h) (As := [va_rf a2, .int z5, .int z40, .int x35]) (rest := []) hF hH hA hE mv_X11_873 ci_X11 (by decide) (fun sz => c_X11_list l D t G _ h a2 z5 z40 x35 _ hw.2 sz) dX11_queryDirectory_174 hw.1 ⟨Nat.le_of_ble_eq_true rfl, Nat.le_of_ble_eq_true rfl⟩ rfl hl.1 (Nat.le_of_ble_eq_true rfl) rfl (fun z42 κ41 H locs cells slots hw hH => ?_)
                  refine lv_istore (lv' := [(9, .int z42), (8, .int x35), (7, .int x24), (5, .int z5), (3, .long z2), (2, va_rf a2), (0, .ref h)]) hx hb dX11_queryDirectory_177 hl (by decide) rfl (fun ls hl => ?_)
                  refine lv_iload hx hb dX11_queryDirectory_179 (lv_at hl 0 rfl) ?_
                  refine lv_ldcw (v := (-2147483642)) hx hb hF.1.2.2.2.1 (hF.1.2.2.2.2 _ (wc_32 39 rfl)) dX11_queryDirectory_181 ?_
                  obtain ⟨K45, hK46, hw⟩ := jc_open hw
                  refine cw_join (K := K45) 200 (fun (x43 : Int32) => []) (fun (x43 : Int32) => [.int x43]) hl hH (fun x43 κ44 ls H locs cells slots hl hw hH => ?_) (fun jn47 => ?_)
                  · have hw := hK46 x43 κ44 hw
                    have hl : lv_has ls 10 [] := hl
                    exact cw_reti hF hH ⟨rfl, rfl⟩ hr rfl hlk dX11_queryDirectory_200 hw
                  · skip
                    obtain ⟨K50, hK51, hw⟩ := jc_open hw
                    refine cw_join (K := K50) 198 (fun (x48 : Unit) => [(9, .int z42)]) (fun (x48 : Unit) => []) hl hH (fun x48 κ49 ls H locs cells slots hl hw hH => ?_) (fun jn52 => ?_)
                    · have hw := hK51 x48 κ49 hw
                      have hl : lv_has ls 10 [(9, .int z42)] := hl
                      refine lv_iload hx hb dX11_queryDirectory_198 (lv_at hl 0 rfl) ?_
                      have hl : lv_has ls 10 [] := lv_sub hl [] rfl
                      exact jn47 z42 κ49 ls _ _ _ _ hl hw hH
                    · skip
                      refine w_icmp_ne (tgt := 198) hF dX11_queryDirectory_184 rfl hw (fun hw => ?_) (fun hw => ?_)
                      · have hl : lv_has ls 10 [(9, .int z42)] := lv_sub hl [0] rfl
                        exact jn52 () κ41 ls _ _ _ _ hl hw hH
                      · refine lv_iload hx hb dX11_queryDirectory_187 (lv_at hl 2 rfl) ?_
                        refine w_if_eq (tgt := 198) hF dX11_queryDirectory_189 rfl hw (fun hw => ?_) (fun hw => ?_)
                        · have hl : lv_has ls 10 [(9, .int z42)] := lv_sub hl [0] rfl
                          exact jn52 () κ41 ls _ _ _ _ hl hw hH
                        · refine lv_ldcw (v := (-1073741809)) hx hb hF.1.2.2.2.1 (hF.1.2.2.2.2 _ (wc_33 0 rfl)) dX11_queryDirectory_192 ?_
                          refine lv_goto (tgt := 200) hx hb dX11_queryDirectory_195 rfl ?_
                          have hl : lv_has ls 10 [] := lv_sub hl [] rfl
                          exact jn47 (-1073741809) κ41 ls _ _ _ _ hl hw hH
                · skip
                  refine w_if_eq (tgt := 162) hF dX11_queryDirectory_155 rfl hw (fun hw => ?_) (fun hw => ?_)
                  · refine lv_bipush (v := 82) hx hb dX11_queryDirectory_162 (by decide) ?_
                    have hl : lv_has ls 10 [(7, .int x24), (5, .int z5), (3, .long z2), (2, va_rf a2), (0, .ref h)] := lv_sub hl [0, 2, 3, 4, 5] rfl
                    exact jn39 82 κ30 ls _ _ _ _ hl hw hH
                  · refine lv_iconst (v := 1) hx hb dX11_queryDirectory_158 (by decide) ?_
                    refine lv_goto (tgt := 164) hx hb dX11_queryDirectory_159 rfl ?_
                    have hl : lv_has ls 10 [(7, .int x24), (5, .int z5), (3, .long z2), (2, va_rf a2), (0, .ref h)] := lv_sub hl [0, 2, 3, 4, 5] rfl
                    exact jn39 1 κ30 ls _ _ _ _ hl hw hH
              · skip
                refine w_if_eq (tgt := 151) hF dX11_queryDirectory_103 rfl hw (fun hw => ?_) (fun hw => ?_)
                · have hl : lv_has ls 10 [(7, .int x24), (6, .int z8), (5, .int z5), (3, .long z2), (2, va_rf a2), (0, .ref h)] := lv_sub hl [0, 1, 2, 3, 4, 6] rfl
                  exact jn33 () κ25 ls _ _ _ _ hl hw hH
                · refine w_aloadq_n hF dX11_queryDirectory_106 rfl (lv_at hl 5 rfl) ?_
                  refine lv_bipush (v := 90) hx hb dX11_queryDirectory_107 (by decide) ?_
                  refine lv_iconst (v := 2) hx hb dX11_queryDirectory_109 (by decide) ?_
                  refine cw_cVlq (q := a1) (As := [.int 90, .int 2]) (rest := []) hF hH hA hE mv_X11_394 ci_X0 (by decide) hw (fun b hw sz => c_X0_number l D t G _ b 90 2 _ hw sz) dX11_queryDirectory_110 ⟨Nat.le_of_ble_eq_true rfl, Nat.le_of_ble_eq_true rfl⟩ rfl hl.1 (Nat.le_of_ble_eq_true rfl) rfl (fun z54 κ53 H locs cells slots hw hH => ?_)
                  refine lv_l2i hx hb dX11_queryDirectory_113 rfl ?_
                  refine w_nmi hw (fun z55 hw => ?_)
                  refine lv_istore (lv' := [(8, .int z55), (7, .int x24), (6, .int z8), (5, .int z5), (3, .long z2), (2, va_rf a2), (1, va_rf a1), (0, .ref h)]) hx hb dX11_queryDirectory_114 hl (by decide) rfl (fun ls hl => ?_)
                  refine lv_iload hx hb dX11_queryDirectory_116 (lv_at hl 0 rfl) ?_
                  refine lv_iconst (v := 2) hx hb dX11_queryDirectory_118 (by decide) ?_
                  refine lv_irem hx hb dX11_queryDirectory_119 (by decide) ?_
                  refine w_nmi hw (fun z56 hw => ?_)
                  obtain ⟨K59, hK60, hw⟩ := jc_open hw
                  refine cw_join (K := K59) 130 (fun (x57 : Unit) => []) (fun (x57 : Unit) => []) hl hH (fun x57 κ58 ls H locs cells slots hl hw hH => ?_) (fun jn61 => ?_)
                  · have hw := hK60 x57 κ58 hw
                    have hl : lv_has ls 10 [] := hl
                    refine lv_ldcw (v := (-1073741773)) hx hb hF.1.2.2.2.1 (hF.1.2.2.2.2 _ (wc_31 15 rfl)) dX11_queryDirectory_130 ?_
                    exact cw_reti hF hH ⟨rfl, rfl⟩ hr rfl hlk dX11_queryDirectory_133 hw
                  · skip
                    refine w_if_ne (tgt := 130) hF dX11_queryDirectory_120 rfl hw (fun hw => ?_) (fun hw => ?_)
                    · have hl : lv_has ls 10 [] := lv_sub hl [] rfl
                      exact jn61 () κ53 ls _ _ _ _ hl hw hH
                    · refine lv_iload hx hb dX11_queryDirectory_123 (lv_at hl 0 rfl) ?_
                      refine lv_bipush (v := 40) hx hb dX11_queryDirectory_125 (by decide) ?_
                      refine w_icmp_le (tgt := 134) hF dX11_queryDirectory_127 rfl hw (fun hw => ?_) (fun hw => ?_)
                      · refine w_aloadq_n hF dX11_queryDirectory_134 rfl (lv_at hl 5 rfl) ?_
                        refine w_aloadq_n hF dX11_queryDirectory_135 rfl (lv_at hl 6 rfl) ?_
                        refine w_aloadq_n hF dX11_queryDirectory_136 rfl (lv_at hl 6 rfl) ?_
                        refine lv_bipush (v := 88) hx hb dX11_queryDirectory_137 (by decide) ?_
                        refine lv_iconst (v := 2) hx hb dX11_queryDirectory_139 (by decide) ?_
                        refine cw_cVlq (q := a1) (As := [.int 88, .int 2]) (rest := [va_rf a1, va_rf a2]) hF hH hA hE mv_X11_394 ci_X0 (by decide) hw (fun b hw sz => c_X0_number l D t G _ b 88 2 _ hw sz) dX11_queryDirectory_140 ⟨Nat.le_of_ble_eq_true rfl, Nat.le_of_ble_eq_true rfl⟩ rfl hl.1 (by simp only [List.map_cons, List.map_nil, cat_rf]; exact Nat.le_of_ble_eq_true rfl) rfl (fun z63 κ62 H locs cells slots hw hH => ?_)
                        refine lv_l2i hx hb dX11_queryDirectory_143 rfl ?_
                        refine w_nmi hw (fun z64 hw => ?_)
                        refine lv_iload hx hb dX11_queryDirectory_144 (lv_at hl 0 rfl) ?_
                        refine lv_iconst (v := 2) hx hb dX11_queryDirectory_146 (by decide) ?_
                        refine lv_idiv hx hb dX11_queryDirectory_147 (by decide) ?_
                        refine w_nmi hw (fun z65 hw => ?_)
                        refine cw_cVvq (q := a2) (As := [va_rf a1, .int z64, .int z65]) (rest := []) hF hH hA hE mv_X11_869 ci_X5 (by decide) hw (fun b hw sz => c_X5_takePattern l D t G _ b a1 z64 z65 _ hw sz) dX11_queryDirectory_148 ⟨Nat.le_of_ble_eq_true rfl, Nat.le_of_ble_eq_true rfl⟩ rfl hl.1 (Nat.le_of_ble_eq_true rfl) rfl (fun κ66 H locs cells slots hw hH => ?_)
                        have hl : lv_has ls 10 [(7, .int x24), (6, .int z8), (5, .int z5), (3, .long z2), (2, va_rf a2), (0, .ref h)] := lv_sub hl [1, 2, 3, 4, 5, 7] rfl
                        exact jn33 () κ66 ls _ _ _ _ hl hw hH
                      · have hl : lv_has ls 10 [] := lv_sub hl [] rfl
                        exact jn61 () κ53 ls _ _ _ _ hl hw hH
            · skip
              obtain ⟨K70, hK71, hw⟩ := jc_open hw
              refine cw_join (K := K70) 94 (fun (x68 : Unit) => [(6, .int z8), (5, .int z5), (3, .long z2), (2, va_rf a2), (1, va_rf a1), (0, .ref h)]) (fun (x68 : Unit) => []) hl hH (fun x68 κ69 ls H locs cells slots hl hw hH => ?_) (fun jn72 => ?_)
              · have hw := hK71 x68 κ69 hw
                have hl : lv_has ls 10 [(6, .int z8), (5, .int z5), (3, .long z2), (2, va_rf a2), (1, va_rf a1), (0, .ref h)] := hl
                refine lv_iconst (v := 1) hx hb dX11_queryDirectory_94 (by decide) ?_
                refine lv_goto (tgt := 99) hx hb dX11_queryDirectory_95 rfl ?_
                exact jn28 1 κ69 ls _ _ _ _ hl hw hH
              · skip
                refine cw_ifnull (q := z23) (tgt := 94) hF dX11_queryDirectory_84 rfl hw (fun hw => ?_) (fun hw => ?_)
                · exact jn72 () κ17 ls _ _ _ _ hl hw hH
                · refine lv_iload hx hb dX11_queryDirectory_87 (lv_at hl 0 rfl) ?_
                  refine lv_iconst (v := 1) hx hb dX11_queryDirectory_89 (by decide) ?_
                  refine lv_iand hx hb dX11_queryDirectory_90 ?_
                  refine w_nmi hw (fun z73 hw => ?_)
                  refine w_if_eq (tgt := 98) hF dX11_queryDirectory_91 rfl hw (fun hw => ?_) (fun hw => ?_)
                  · refine lv_iconst (v := 0) hx hb dX11_queryDirectory_98 (by decide) ?_
                    exact jn28 0 κ17 ls _ _ _ _ hl hw hH
                  · exact jn72 () κ17 ls _ _ _ _ hl hw hH
          · refine lv_ldcw (v := (-1073741790)) hx hb hF.1.2.2.2.1 (hF.1.2.2.2.2 _ (wc_22 30 rfl)) dX11_queryDirectory_76 ?_
            exact cw_reti hF hH ⟨rfl, rfl⟩ hr rfl hlk dX11_queryDirectory_79 hw
        · skip
          refine w_icmp_eq (tgt := 67) hF dX11_queryDirectory_53 rfl hw (fun hw => ?_) (fun hw => ?_)
          · have hl : lv_has ls 10 [(6, .int z8), (5, .int z5), (3, .long z2), (2, va_rf a2), (1, va_rf a1), (0, .ref h)] := lv_sub hl [0, 1, 2, 5, 4, 3] rfl
            exact jn20 () κ6 ls _ _ _ _ hl hw hH
          · refine lv_iload hx hb dX11_queryDirectory_56 (lv_at hl 1 rfl) ?_
            refine lv_bipush (v := 12) hx hb dX11_queryDirectory_58 (by decide) ?_
            refine w_icmp_eq (tgt := 67) hF dX11_queryDirectory_60 rfl hw (fun hw => ?_) (fun hw => ?_)
            · have hl : lv_has ls 10 [(6, .int z8), (5, .int z5), (3, .long z2), (2, va_rf a2), (1, va_rf a1), (0, .ref h)] := lv_sub hl [0, 1, 2, 5, 4, 3] rfl
              exact jn20 () κ6 ls _ _ _ _ hl hw hH
            · refine lv_ldcw (v := (-1073741821)) hx hb hF.1.2.2.2.1 (hF.1.2.2.2.2 _ (wc_32 31 rfl)) dX11_queryDirectory_63 ?_
              exact cw_reti hF hH ⟨rfl, rfl⟩ hr rfl hlk dX11_queryDirectory_66 hw
      · have hl : lv_has ls 10 [] := lv_sub hl [] rfl
        exact jn13 () κ6 ls _ _ _ _ hl hw hH

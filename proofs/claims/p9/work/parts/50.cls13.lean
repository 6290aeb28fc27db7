/-! the class, lifted: 13 -/
set_option maxRecDepth 100000 in
def F_X11_setInfo (G : GE) (h : Nat) (a1 : Option Nat) (a2 : Option Nat) (post : Int32 → CS → Prop) (κ : CS) : Prop := ∃ b : Nat, a1 = some b ∧ (b ∈ sL κ.1 ∧ sK κ.1 b = 8) ∧ F_X0_number G b 66 1 (fun (z2 : Int64) (κ1 : CS) => ∀ z3 : Int32, z3 = (z2 : Int64).toInt32 → ∃ b : Nat, a1 = some b ∧ (b ∈ sL κ1.1 ∧ sK κ1.1 b = 8) ∧ F_X0_number G b 67 1 (fun (z5 : Int64) (κ4 : CS) => ∀ z6 : Int32, z6 = (z5 : Int64).toInt32 → ∃ b : Nat, a1 = some b ∧ (b ∈ sL κ4.1 ∧ sK κ4.1 b = 8) ∧ F_X0_number G b 68 4 (fun (z8 : Int64) (κ7 : CS) => ∃ b : Nat, a1 = some b ∧ (b ∈ sL κ7.1 ∧ sK κ7.1 b = 8) ∧ F_X0_number G b 72 2 (fun (z10 : Int64) (κ9 : CS) => ∀ z11 : Int32, z11 = (z10 : Int64).toInt32 → F_X11_setSizeOf G z6 (fun (z13 : Int32) (κ12 : CS) => jc (fun (K16 : Unit → CS → Prop) => ((¬ z3.toInt = (1 : Int32).toInt) → K16 () κ12) ∧ ((z3.toInt = (1 : Int32).toInt) → ((¬ z13.toInt = 0) → ∀ z19 : Int64, z19 = (z13 : Int32).toInt64 → ((z19.toInt ≤ z8.toInt) → ∃ b : Nat, a2 = some b ∧ (b ∈ sL κ12.1 ∧ sK κ12.1 b = 10) ∧ ∀ z20 : Int32, z20 = sI κ12.1 b 3 → F_X11_setAccessOf G z6 (fun (z22 : Int32) (κ21 : CS) => ∀ z23 : Int32, z23 = z20 &&& z22 → ((¬ z23.toInt = 0) → jc (fun (K26 : Int32 → CS → Prop) => ((z6.toInt = 4) → (h ∈ sL κ21.1 ∧ sK κ21.1 h = 1) ∧ F_X11_setValues G h a1 a2 z11 (fun (z36 : Int32) (κ35 : CS) => K26 z36 κ35) κ21) ∧ ((z6.toInt = 13) → ∃ b : Nat, a2 = some b ∧ (b ∈ sL κ21.1 ∧ sK κ21.1 b = 10) ∧ ∀ z37 : Option Nat, z37 = sP κ21.1 b 2 → ∃ b : Nat, a1 = some b ∧ (b ∈ sL κ21.1 ∧ sK κ21.1 b = 8) ∧ F_X0_number G b z11 1 (fun (z39 : Int64) (κ38 : CS) => jc (fun (K42 : Int32 → CS → Prop) => ((z39.toInt = (0 : Int64).toInt) → K42 0 κ38) ∧ ((¬ z39.toInt = (0 : Int64).toInt) → K42 1 κ38)) (fun (x40 : Int32) (κ41 : CS) => (h ∈ sL κ41.1 ∧ sK κ41.1 h = 1) ∧ F_X11_setToGo G h z37 x40 (fun (z46 : Int32) (κ45 : CS) => K26 z46 κ45) κ41)) κ21) ∧ ((z6.toInt = 20) → ∃ b : Nat, a1 = some b ∧ (b ∈ sL κ21.1 ∧ sK κ21.1 b = 8) ∧ F_X0_number G b z11 8 (fun (z48 : Int64) (κ47 : CS) => (h ∈ sL κ47.1 ∧ sK κ47.1 h = 1) ∧ F_X11_setSize G h a2 z48 (fun (z50 : Int32) (κ49 : CS) => K26 z50 κ49) κ47) κ21) ∧ ((¬ z6.toInt = 4 ∧ ¬ z6.toInt = 13 ∧ ¬ z6.toInt = 20) → (h ∈ sL κ21.1 ∧ sK κ21.1 h = 1) ∧ F_X11_rename G h a1 a2 z11 z8 (fun (z52 : Int32) (κ51 : CS) => K26 z52 κ51) κ21)) (fun (x24 : Int32) (κ25 : CS) => (h ∈ sL κ25.1 ∧ sK κ25.1 h = 1) ∧ ∀ z29 : Option Nat, z29 = sP κ25.1 h 15 → ∃ b : Nat, z29 = some b ∧ (b ∈ sL κ25.1 ∧ sK κ25.1 b = 2) ∧ F_X6_begin G b 66 (fun (κ30 : CS) => (h ∈ sL κ30.1 ∧ sK κ30.1 h = 1) ∧ ∀ z32 : Option Nat, z32 = sP κ30.1 h 15 → ∃ b : Nat, z32 = some b ∧ (b ∈ sL κ30.1 ∧ sK κ30.1 b = 2) ∧ F_X6_put G b 64 2 2 (fun (κ33 : CS) => post x24 κ33) κ30) κ25)) ∧ ((z23.toInt = 0) → post (-1073741790) κ21)) κ12) ∧ ((z8.toInt < z19.toInt) → post (-1073741820) κ12)) ∧ ((z13.toInt = 0) → K16 () κ12))) (fun (x14 : Unit) (κ15 : CS) => post (-1073741821) κ15)) κ9) κ7) κ4) κ1) κ
theorem dX11_setInfo_0 : decode cX11_setInfo 0 = .ok (.aload_n 1, 1) := by decide +kernel
theorem dX11_setInfo_1 : decode cX11_setInfo 1 = .ok (.bipush 66, 2) := by decide +kernel
theorem dX11_setInfo_3 : decode cX11_setInfo 3 = .ok (.iconst 1, 1) := by decide +kernel
theorem dX11_setInfo_4 : decode cX11_setInfo 4 = .ok (.invokevirtual 394, 3) := by decide +kernel
theorem dX11_setInfo_7 : decode cX11_setInfo 7 = .ok (.l2i, 1) := by decide +kernel
theorem dX11_setInfo_8 : decode cX11_setInfo 8 = .ok (.istore_n 3, 1) := by decide +kernel
theorem dX11_setInfo_9 : decode cX11_setInfo 9 = .ok (.aload_n 1, 1) := by decide +kernel
theorem dX11_setInfo_10 : decode cX11_setInfo 10 = .ok (.bipush 67, 2) := by decide +kernel
theorem dX11_setInfo_12 : decode cX11_setInfo 12 = .ok (.iconst 1, 1) := by decide +kernel
theorem dX11_setInfo_13 : decode cX11_setInfo 13 = .ok (.invokevirtual 394, 3) := by decide +kernel
theorem dX11_setInfo_16 : decode cX11_setInfo 16 = .ok (.l2i, 1) := by decide +kernel
theorem dX11_setInfo_17 : decode cX11_setInfo 17 = .ok (.istore 4, 2) := by decide +kernel
theorem dX11_setInfo_19 : decode cX11_setInfo 19 = .ok (.aload_n 1, 1) := by decide +kernel
theorem dX11_setInfo_20 : decode cX11_setInfo 20 = .ok (.bipush 68, 2) := by decide +kernel
theorem dX11_setInfo_22 : decode cX11_setInfo 22 = .ok (.iconst 4, 1) := by decide +kernel
theorem dX11_setInfo_23 : decode cX11_setInfo 23 = .ok (.invokevirtual 394, 3) := by decide +kernel
theorem dX11_setInfo_26 : decode cX11_setInfo 26 = .ok (.lstore 5, 2) := by decide +kernel
theorem dX11_setInfo_28 : decode cX11_setInfo 28 = .ok (.aload_n 1, 1) := by decide +kernel
theorem dX11_setInfo_29 : decode cX11_setInfo 29 = .ok (.bipush 72, 2) := by decide +kernel
theorem dX11_setInfo_31 : decode cX11_setInfo 31 = .ok (.iconst 2, 1) := by decide +kernel
theorem dX11_setInfo_32 : decode cX11_setInfo 32 = .ok (.invokevirtual 394, 3) := by decide +kernel
theorem dX11_setInfo_35 : decode cX11_setInfo 35 = .ok (.l2i, 1) := by decide +kernel
theorem dX11_setInfo_36 : decode cX11_setInfo 36 = .ok (.istore 7, 2) := by decide +kernel
theorem dX11_setInfo_38 : decode cX11_setInfo 38 = .ok (.iload 4, 2) := by decide +kernel
theorem dX11_setInfo_40 : decode cX11_setInfo 40 = .ok (.invokestatic 931, 3) := by decide +kernel
theorem dX11_setInfo_43 : decode cX11_setInfo 43 = .ok (.istore 8, 2) := by decide +kernel
theorem dX11_setInfo_45 : decode cX11_setInfo 45 = .ok (.iload_n 3, 1) := by decide +kernel
theorem dX11_setInfo_46 : decode cX11_setInfo 46 = .ok (.iconst 1, 1) := by decide +kernel
theorem dX11_setInfo_47 : decode cX11_setInfo 47 = .ok (.if_icmp .ne 8, 3) := by decide +kernel
theorem dX11_setInfo_50 : decode cX11_setInfo 50 = .ok (.iload 8, 2) := by decide +kernel
theorem dX11_setInfo_52 : decode cX11_setInfo 52 = .ok (.ifCond .ne 7, 3) := by decide +kernel
theorem dX11_setInfo_55 : decode cX11_setInfo 55 = .ok (.ldc_w 865, 3) := by decide +kernel
theorem dX11_setInfo_58 : decode cX11_setInfo 58 = .ok (.ireturn, 1) := by decide +kernel
theorem dX11_setInfo_59 : decode cX11_setInfo 59 = .ok (.lload 5, 2) := by decide +kernel
theorem dX11_setInfo_61 : decode cX11_setInfo 61 = .ok (.iload 8, 2) := by decide +kernel
theorem dX11_setInfo_63 : decode cX11_setInfo 63 = .ok (.i2l, 1) := by decide +kernel
theorem dX11_setInfo_64 : decode cX11_setInfo 64 = .ok (.lcmp, 1) := by decide +kernel
theorem dX11_setInfo_65 : decode cX11_setInfo 65 = .ok (.ifCond .ge 7, 3) := by decide +kernel
theorem dX11_setInfo_68 : decode cX11_setInfo 68 = .ok (.ldc_w 889, 3) := by decide +kernel
theorem dX11_setInfo_71 : decode cX11_setInfo 71 = .ok (.ireturn, 1) := by decide +kernel
theorem dX11_setInfo_72 : decode cX11_setInfo 72 = .ok (.aload_n 2, 1) := by decide +kernel
theorem dX11_setInfo_73 : decode cX11_setInfo 73 = .ok (.getfield 765, 3) := by decide +kernel
theorem dX11_setInfo_76 : decode cX11_setInfo 76 = .ok (.iload 4, 2) := by decide +kernel
theorem dX11_setInfo_78 : decode cX11_setInfo 78 = .ok (.invokestatic 934, 3) := by decide +kernel
theorem dX11_setInfo_81 : decode cX11_setInfo 81 = .ok (.iand, 1) := by decide +kernel
theorem dX11_setInfo_82 : decode cX11_setInfo 82 = .ok (.ifCond .ne 7, 3) := by decide +kernel
theorem dX11_setInfo_85 : decode cX11_setInfo 85 = .ok (.ldc_w 658, 3) := by decide +kernel
theorem dX11_setInfo_88 : decode cX11_setInfo 88 = .ok (.ireturn, 1) := by decide +kernel
theorem dX11_setInfo_89 : decode cX11_setInfo 89 = .ok (.iload 4, 2) := by decide +kernel
theorem dX11_setInfo_91 : decode cX11_setInfo 91 = .ok (.lookupswitch 94 #[(4, 33), (13, 64), (20, 46)], 33) := by decide +kernel
theorem dX11_setInfo_124 : decode cX11_setInfo 124 = .ok (.aload_n 0, 1) := by decide +kernel
theorem dX11_setInfo_125 : decode cX11_setInfo 125 = .ok (.aload_n 1, 1) := by decide +kernel
theorem dX11_setInfo_126 : decode cX11_setInfo 126 = .ok (.aload_n 2, 1) := by decide +kernel
theorem dX11_setInfo_127 : decode cX11_setInfo 127 = .ok (.iload 7, 2) := by decide +kernel
theorem dX11_setInfo_129 : decode cX11_setInfo 129 = .ok (.invokevirtual 937, 3) := by decide +kernel
theorem dX11_setInfo_132 : decode cX11_setInfo 132 = .ok (.istore 9, 2) := by decide +kernel
theorem dX11_setInfo_134 : decode cX11_setInfo 134 = .ok (.goto 63, 3) := by decide +kernel
theorem dX11_setInfo_137 : decode cX11_setInfo 137 = .ok (.aload_n 0, 1) := by decide +kernel
theorem dX11_setInfo_138 : decode cX11_setInfo 138 = .ok (.aload_n 2, 1) := by decide +kernel
theorem dX11_setInfo_139 : decode cX11_setInfo 139 = .ok (.aload_n 1, 1) := by decide +kernel
theorem dX11_setInfo_140 : decode cX11_setInfo 140 = .ok (.iload 7, 2) := by decide +kernel
theorem dX11_setInfo_142 : decode cX11_setInfo 142 = .ok (.bipush 8, 2) := by decide +kernel
theorem dX11_setInfo_144 : decode cX11_setInfo 144 = .ok (.invokevirtual 394, 3) := by decide +kernel
theorem dX11_setInfo_147 : decode cX11_setInfo 147 = .ok (.invokevirtual 940, 3) := by decide +kernel
theorem dX11_setInfo_150 : decode cX11_setInfo 150 = .ok (.istore 9, 2) := by decide +kernel
theorem dX11_setInfo_152 : decode cX11_setInfo 152 = .ok (.goto 45, 3) := by decide +kernel
theorem dX11_setInfo_155 : decode cX11_setInfo 155 = .ok (.aload_n 0, 1) := by decide +kernel
theorem dX11_setInfo_156 : decode cX11_setInfo 156 = .ok (.aload_n 2, 1) := by decide +kernel
theorem dX11_setInfo_157 : decode cX11_setInfo 157 = .ok (.getfield 564, 3) := by decide +kernel
theorem dX11_setInfo_160 : decode cX11_setInfo 160 = .ok (.aload_n 1, 1) := by decide +kernel
theorem dX11_setInfo_161 : decode cX11_setInfo 161 = .ok (.iload 7, 2) := by decide +kernel
theorem dX11_setInfo_163 : decode cX11_setInfo 163 = .ok (.iconst 1, 1) := by decide +kernel
theorem dX11_setInfo_164 : decode cX11_setInfo 164 = .ok (.invokevirtual 394, 3) := by decide +kernel
theorem dX11_setInfo_167 : decode cX11_setInfo 167 = .ok (.lconst 0, 1) := by decide +kernel
theorem dX11_setInfo_168 : decode cX11_setInfo 168 = .ok (.lcmp, 1) := by decide +kernel
theorem dX11_setInfo_169 : decode cX11_setInfo 169 = .ok (.ifCond .eq 7, 3) := by decide +kernel
theorem dX11_setInfo_172 : decode cX11_setInfo 172 = .ok (.iconst 1, 1) := by decide +kernel
theorem dX11_setInfo_173 : decode cX11_setInfo 173 = .ok (.goto 4, 3) := by decide +kernel
theorem dX11_setInfo_176 : decode cX11_setInfo 176 = .ok (.iconst 0, 1) := by decide +kernel
theorem dX11_setInfo_177 : decode cX11_setInfo 177 = .ok (.invokevirtual 944, 3) := by decide +kernel
theorem dX11_setInfo_180 : decode cX11_setInfo 180 = .ok (.istore 9, 2) := by decide +kernel
theorem dX11_setInfo_182 : decode cX11_setInfo 182 = .ok (.goto 15, 3) := by decide +kernel
theorem dX11_setInfo_185 : decode cX11_setInfo 185 = .ok (.aload_n 0, 1) := by decide +kernel
theorem dX11_setInfo_186 : decode cX11_setInfo 186 = .ok (.aload_n 1, 1) := by decide +kernel
theorem dX11_setInfo_187 : decode cX11_setInfo 187 = .ok (.aload_n 2, 1) := by decide +kernel
theorem dX11_setInfo_188 : decode cX11_setInfo 188 = .ok (.iload 7, 2) := by decide +kernel
theorem dX11_setInfo_190 : decode cX11_setInfo 190 = .ok (.lload 5, 2) := by decide +kernel
theorem dX11_setInfo_192 : decode cX11_setInfo 192 = .ok (.invokevirtual 948, 3) := by decide +kernel
theorem dX11_setInfo_195 : decode cX11_setInfo 195 = .ok (.istore 9, 2) := by decide +kernel
theorem dX11_setInfo_197 : decode cX11_setInfo 197 = .ok (.aload_n 0, 1) := by decide +kernel
theorem dX11_setInfo_198 : decode cX11_setInfo 198 = .ok (.getfield 68, 3) := by decide +kernel
theorem dX11_setInfo_201 : decode cX11_setInfo 201 = .ok (.bipush 66, 2) := by decide +kernel
theorem dX11_setInfo_203 : decode cX11_setInfo 203 = .ok (.invokevirtual 262, 3) := by decide +kernel
theorem dX11_setInfo_206 : decode cX11_setInfo 206 = .ok (.aload_n 0, 1) := by decide +kernel
theorem dX11_setInfo_207 : decode cX11_setInfo 207 = .ok (.getfield 68, 3) := by decide +kernel
theorem dX11_setInfo_210 : decode cX11_setInfo 210 = .ok (.bipush 64, 2) := by decide +kernel
theorem dX11_setInfo_212 : decode cX11_setInfo 212 = .ok (.iconst 2, 1) := by decide +kernel
theorem dX11_setInfo_213 : decode cX11_setInfo 213 = .ok (.ldc2_w 494, 3) := by decide +kernel
theorem dX11_setInfo_216 : decode cX11_setInfo 216 = .ok (.invokevirtual 349, 3) := by decide +kernel
theorem dX11_setInfo_219 : decode cX11_setInfo 219 = .ok (.iload 9, 2) := by decide +kernel
theorem dX11_setInfo_221 : decode cX11_setInfo 221 = .ok (.ireturn, 1) := by decide +kernel
set_option maxRecDepth 100000 in
set_option maxHeartbeats 4000000 in
theorem c_X11_setInfo (l : Launch) (D : va_G) (t : Nat → ClassId) (G : GE) (κ : CS) (h : Nat) (a1 : Option Nat) (a2 : Option Nat) (post : Int32 → CS → Prop) (hw : F_X11_setInfo G h a1 a2 post κ) (sz : Nat) : CMi l D t yX11_setInfo cX11_setInfo 10 (some .int) 12 306 G κ sz [.ref h, va_rf a1, va_rf a2] post := by
  refine c_go (by decide) (by cases a1 <;> cases a2 <;> exact Nat.le_of_ble_eq_true rfl) ?_
  intro p e s m below meth c ls A hF hr hlk hin hAe hH hA hE hl
  unfold cB
  rw [hAe]
  clear hAe
  have hF : FX p m c cX11_setInfo 10 s _ RX11 D t := hF
  have hx := hF.1.1
  have hb := hF.1.2.1
  have hl : lv_has ls 10 [(0, .ref h), (1, va_rf a1), (2, va_rf a2)] := (by have h2 := hl; clear hw; revert h2; cases a1 <;> cases a2 <;> exact id)
  unfold F_X11_setInfo at hw
  refine w_aloadq_n hF dX11_setInfo_0 rfl (lv_at hl 1 rfl) ?_
  refine lv_bipush (v := 66) hx hb dX11_setInfo_1 (by decide) ?_
  refine lv_iconst (v := 1) hx hb dX11_setInfo_3 (by decide) ?_
  refine cw_cVlq (q := a1) (As := [.int 66, .int 1]) (rest := []) hF hH hA hE mv_X11_394 ci_X0 (by decide) hw (fun b hw sz => c_X0_number l D t G _ b 66 1 _ hw sz) dX11_setInfo_4 ⟨Nat.le_of_ble_eq_true rfl, Nat.le_of_ble_eq_true rfl⟩ rfl hl.1 (Nat.le_of_ble_eq_true rfl) rfl (fun z2 κ1 H locs cells slots hw hH => ?_)
  refine lv_l2i hx hb dX11_setInfo_7 rfl ?_
  refine w_nmi hw (fun z3 hw => ?_)
  refine lv_istore_n (lv' := [(3, .int z3), (0, .ref h), (1, va_rf a1), (2, va_rf a2)]) hx hb dX11_setInfo_8 rfl hl (by decide) (by generalize a2 = y; cases y <;> rfl) (fun ls hl => ?_)
  refine w_aloadq_n hF dX11_setInfo_9 rfl (lv_at hl 2 rfl) ?_
  refine lv_bipush (v := 67) hx hb dX11_setInfo_10 (by decide) ?_
  refine lv_iconst (v := 1) hx hb dX11_setInfo_12 (by decide) ?_
  refine cw_cVlq (q := a1) (As := [.int 67, .int 1]) (rest := []) hF hH hA hE mv_X11_394 ci_X0 (by decide) hw (fun b hw sz => c_X0_number l D t G _ b 67 1 _ hw sz) dX11_setInfo_13 ⟨Nat.le_of_ble_eq_true rfl, Nat.le_of_ble_eq_true rfl⟩ rfl hl.1 (Nat.le_of_ble_eq_true rfl) rfl (fun z5 κ4 H locs cells slots hw hH => ?_)
  refine lv_l2i hx hb dX11_setInfo_16 rfl ?_
  refine w_nmi hw (fun z6 hw => ?_)
  refine lv_istore (lv' := [(4, .int z6), (3, .int z3), (0, .ref h), (1, va_rf a1), (2, va_rf a2)]) hx hb dX11_setInfo_17 hl (by decide) rfl (fun ls hl => ?_)
  refine w_aloadq_n hF dX11_setInfo_19 rfl (lv_at hl 3 rfl) ?_
  refine lv_bipush (v := 68) hx hb dX11_setInfo_20 (by decide) ?_
  refine lv_iconst (v := 4) hx hb dX11_setInfo_22 (by decide) ?_
  refine cw_cVlq (q := a1) (As := [.int 68, .int 4]) (rest := []) hF hH hA hE mv_X11_394 ci_X0 (by decide) hw (fun b hw sz => c_X0_number l D t G _ b 68 4 _ hw sz) dX11_setInfo_23 ⟨Nat.le_of_ble_eq_true rfl, Nat.le_of_ble_eq_true rfl⟩ rfl hl.1 (Nat.le_of_ble_eq_true rfl) rfl (fun z8 κ7 H locs cells slots hw hH => ?_)
  refine lv_lstore (lv' := [(5, .long z8), (4, .int z6), (3, .int z3), (0, .ref h), (1, va_rf a1), (2, va_rf a2)]) hx hb dX11_setInfo_26 hl (by decide) rfl (fun ls hl => ?_)
  refine w_aloadq_n hF dX11_setInfo_28 rfl (lv_at hl 4 rfl) ?_
  refine lv_bipush (v := 72) hx hb dX11_setInfo_29 (by decide) ?_
  refine lv_iconst (v := 2) hx hb dX11_setInfo_31 (by decide) ?_
  refine cw_cVlq (q := a1) (As := [.int 72, .int 2]) (rest := []) hF hH hA hE mv_X11_394 ci_X0 (by decide) hw (fun b hw sz => c_X0_number l D t G _ b 72 2 _ hw sz) dX11_setInfo_32 ⟨Nat.le_of_ble_eq_true rfl, Nat.le_of_ble_eq_true rfl⟩ rfl hl.1 (Nat.le_of_ble_eq_true rfl) rfl (fun z10 κ9 H locs cells slots hw hH => ?_)
  refine lv_l2i hx hb dX11_setInfo_35 rfl ?_
  refine w_nmi hw (fun z11 hw => ?_)
  refine lv_istore (lv' := [(7, .int z11), (5, .long z8), (4, .int z6), (3, .int z3), (0, .ref h), (1, va_rf a1), (2, va_rf a2)]) hx hb dX11_setInfo_36 hl (by decide) rfl (fun ls hl => ?_)
  refine lv_iload hx hb dX11_setInfo_38 (lv_at hl 2 rfl) ?_
  refine cw_cSi (As := [.int z6]) (rest := []) hF hH hA hE ms_X11_931 (fun sz => c_X11_setSizeOf l D t G _ z6 _ hw sz) dX11_setInfo_40 ⟨Nat.le_of_ble_eq_true rfl, Nat.le_of_ble_eq_true rfl⟩ rfl hl.1 (Nat.le_of_ble_eq_true rfl) rfl (fun z13 κ12 H locs cells slots hw hH => ?_)
  refine lv_istore (lv' := [(8, .int z13), (7, .int z11), (5, .long z8), (4, .int z6), (3, .int z3), (0, .ref h), (1, va_rf a1), (2, va_rf a2)]) hx hb dX11_setInfo_43 hl (by decide) rfl (fun ls hl => ?_)
  refine lv_iload_n hx hb dX11_setInfo_45 rfl (lv_at hl 4 rfl) ?_
  refine lv_iconst (v := 1) hx hb dX11_setInfo_46 (by decide) ?_
  obtain ⟨K16, hK17, hw⟩ := jc_open hw
  refine cw_join (K := K16) 55 (fun (x14 : Unit) => []) (fun (x14 : Unit) => []) hl hH (fun x14 κ15 ls H locs cells slots hl hw hH => ?_) (fun jn18 => ?_)
  · have hw := hK17 x14 κ15 hw
    have hl : lv_has ls 10 [] := hl
    refine lv_ldcw (v := (-1073741821)) hx hb hF.1.2.2.2.1 (hF.1.2.2.2.2 _ (wc_32 31 rfl)) dX11_setInfo_55 ?_
    exact cw_reti hF hH ⟨rfl, rfl⟩ hr rfl hlk dX11_setInfo_58 hw
  · skip
    refine w_icmp_ne (tgt := 55) hF dX11_setInfo_47 rfl hw (fun hw => ?_) (fun hw => ?_)
    · have hl : lv_has ls 10 [] := lv_sub hl [] rfl
      exact jn18 () κ12 ls _ _ _ _ hl hw hH
    · refine lv_iload hx hb dX11_setInfo_50 (lv_at hl 0 rfl) ?_
      refine w_if_ne (tgt := 59) hF dX11_setInfo_52 rfl hw (fun hw => ?_) (fun hw => ?_)
      · refine lv_lload hx hb dX11_setInfo_59 (lv_at hl 2 rfl) ?_
        refine lv_iload hx hb dX11_setInfo_61 (lv_at hl 0 rfl) ?_
        refine lv_i2l hx hb dX11_setInfo_63 rfl ?_
        refine w_nml hw (fun z19 hw => ?_)
        refine w_lif_ge (tgt := 72) hF dX11_setInfo_64 dX11_setInfo_65 rfl hw (fun hw => ?_) (fun hw => ?_)
        · refine w_aloadq_n hF dX11_setInfo_72 rfl (lv_at hl 7 rfl) ?_
          refine cw_getI (q := a2) hF hH fk_X11_765 dX11_setInfo_73 hw (fun z20 hw => ?_)
          refine lv_iload hx hb dX11_setInfo_76 (lv_at hl 3 rfl) ?_
          refine cw_cSi (As := [.int z6]) (rest := [.int z20]) hF hH hA hE ms_X11_934 (fun sz => c_X11_setAccessOf l D t G _ z6 _ hw sz) dX11_setInfo_78 ⟨Nat.le_of_ble_eq_true rfl, Nat.le_of_ble_eq_true rfl⟩ rfl hl.1 (Nat.le_of_ble_eq_true rfl) rfl (fun z22 κ21 H locs cells slots hw hH => ?_)
          refine lv_iand hx hb dX11_setInfo_81 ?_
          refine w_nmi hw (fun z23 hw => ?_)
          refine w_if_ne (tgt := 89) hF dX11_setInfo_82 rfl hw (fun hw => ?_) (fun hw => ?_)
          · refine lv_iload hx hb dX11_setInfo_89 (lv_at hl 3 rfl) ?_
            obtain ⟨K26, hK27, hw⟩ := jc_open hw
            refine cw_join (K := K26) 197 (fun (x24 : Int32) => [(9, .int x24), (0, .ref h)]) (fun (x24 : Int32) => []) hl hH (fun x24 κ25 ls H locs cells slots hl hw hH => ?_) (fun jn28 => ?_)
            · have hw := hK27 x24 κ25 hw
              have hl : lv_has ls 10 [(9, .int x24), (0, .ref h)] := hl
              refine lv_aload_n hx hb dX11_setInfo_197 rfl (lv_at hl 1 rfl) ?_
              refine cw_getPr (a := h) hF hH fk_X11_68 dX11_setInfo_198 hw (fun z29 hw => ?_)
              refine lv_bipush (v := 66) hx hb dX11_setInfo_201 (by decide) ?_
              refine cw_cVvq (q := z29) (As := [.int 66]) (rest := []) hF hH hA hE mv_X11_262 ci_X6 (by decide) hw (fun b hw sz => c_X6_begin l D t G _ b 66 _ hw sz) dX11_setInfo_203 ⟨Nat.le_of_ble_eq_true rfl, Nat.le_of_ble_eq_true rfl⟩ rfl hl.1 (Nat.le_of_ble_eq_true rfl) rfl (fun κ30 H locs cells slots hw hH => ?_)
              refine lv_aload_n hx hb dX11_setInfo_206 rfl (lv_at hl 1 rfl) ?_
              refine cw_getPr (a := h) hF hH fk_X11_68 dX11_setInfo_207 hw (fun z32 hw => ?_)
              refine lv_bipush (v := 64) hx hb dX11_setInfo_210 (by decide) ?_
              refine lv_iconst (v := 2) hx hb dX11_setInfo_212 (by decide) ?_
              refine lv_ldc2 (v := 2) hx hb hF.1.2.2.2.1 (hF.1.2.2.2.2 _ (wc_31 10 rfl)) dX11_setInfo_213 ?_
              refine cw_cVvq (q := z32) (As := [.int 64, .int 2, .long 2]) (rest := []) hF hH hA hE mv_X11_349 ci_X6 (by decide) hw (fun b hw sz => c_X6_put l D t G _ b 64 2 2 _ hw sz) dX11_setInfo_216 ⟨Nat.le_of_ble_eq_true rfl, Nat.le_of_ble_eq_true rfl⟩ rfl hl.1 (Nat.le_of_ble_eq_true rfl) rfl (fun κ33 H locs cells slots hw hH => ?_)
              refine lv_iload hx hb dX11_setInfo_219 (lv_at hl 0 rfl) ?_
              exact cw_reti hF hH ⟨rfl, rfl⟩ hr rfl hlk dX11_setInfo_221 hw
            · skip
              by_cases z91_4 : z6.toInt = 4
              · have hw := hw.1 z91_4
                refine lv_lookup (off := 33) (tgt := 124) hx hb dX11_setInfo_91 (by decide) (by rw [z91_4]; rfl) rfl ?_
                refine lv_aload_n hx hb dX11_setInfo_124 rfl (lv_at hl 5 rfl) ?_
                refine w_aloadq_n hF dX11_setInfo_125 rfl (lv_at hl 6 rfl) ?_
                refine w_aloadq_n hF dX11_setInfo_126 rfl (lv_at hl 7 rfl) ?_
                refine lv_iload hx hb dX11_setInfo_127 (lv_at hl 1 rfl) ?_
                refine cw_cVi (b := h) (As := [va_rf a1, va_rf a2, .int z11]) (rest := []) hF hH hA hE mv_X11_937 ci_X11 (by decide) (fun sz => c_X11_setValues l D t G _ h a1 a2 z11 _ hw.2 sz) dX11_setInfo_129 hw.1 ⟨Nat.le_of_ble_eq_true rfl, Nat.le_of_ble_eq_true rfl⟩ rfl hl.1 (Nat.le_of_ble_eq_true rfl) rfl (fun z36 κ35 H locs cells slots hw hH => ?_)
                refine lv_istore (lv' := [(9, .int z36), (8, .int z13), (7, .int z11), (5, .long z8), (4, .int z6), (3, .int z3), (0, .ref h), (1, va_rf a1), (2, va_rf a2)]) hx hb dX11_setInfo_132 hl (by decide) rfl (fun ls hl => ?_)
                refine lv_goto (tgt := 197) hx hb dX11_setInfo_134 rfl ?_
                have hl : lv_has ls 10 [(9, .int z36), (0, .ref h)] := lv_sub hl [0, 6] rfl
                exact jn28 z36 κ35 ls _ _ _ _ hl hw hH
              by_cases z91_13 : z6.toInt = 13
              · have hw := hw.2.1 z91_13
                refine lv_lookup (off := 64) (tgt := 155) hx hb dX11_setInfo_91 (by decide) (by rw [z91_13]; rfl) rfl ?_
                refine lv_aload_n hx hb dX11_setInfo_155 rfl (lv_at hl 5 rfl) ?_
                refine w_aloadq_n hF dX11_setInfo_156 rfl (lv_at hl 7 rfl) ?_
                refine cw_getP (q := a2) hF hH fk_X11_564 dX11_setInfo_157 hw (fun z37 hw => ?_)
                refine w_aloadq_n hF dX11_setInfo_160 rfl (lv_at hl 6 rfl) ?_
                refine lv_iload hx hb dX11_setInfo_161 (lv_at hl 1 rfl) ?_
                refine lv_iconst (v := 1) hx hb dX11_setInfo_163 (by decide) ?_
                refine cw_cVlq (q := a1) (As := [.int z11, .int 1]) (rest := [va_rf z37, .ref h]) hF hH hA hE mv_X11_394 ci_X0 (by decide) hw (fun b hw sz => c_X0_number l D t G _ b z11 1 _ hw sz) dX11_setInfo_164 ⟨Nat.le_of_ble_eq_true rfl, Nat.le_of_ble_eq_true rfl⟩ rfl hl.1 (by simp only [List.map_cons, List.map_nil, cat_rf]; exact Nat.le_of_ble_eq_true rfl) rfl (fun z39 κ38 H locs cells slots hw hH => ?_)
                refine lv_lconst (v := 0) hx hb dX11_setInfo_167 (by decide) ?_
                obtain ⟨K42, hK43, hw⟩ := jc_open hw
                refine cw_join (K := K42) 177 (fun (x40 : Int32) => [(0, .ref h)]) (fun (x40 : Int32) => [.int x40, va_rf z37, .ref h]) hl hH (fun x40 κ41 ls H locs cells slots hl hw hH => ?_) (fun jn44 => ?_)
                · have hw := hK43 x40 κ41 hw
                  have hl : lv_has ls 10 [(0, .ref h)] := hl
                  refine cw_cVi (b := h) (As := [va_rf z37, .int x40]) (rest := []) hF hH hA hE mv_X11_944 ci_X11 (by decide) (fun sz => c_X11_setToGo l D t G _ h z37 x40 _ hw.2 sz) dX11_setInfo_177 hw.1 ⟨Nat.le_of_ble_eq_true rfl, Nat.le_of_ble_eq_true rfl⟩ rfl hl.1 (Nat.le_of_ble_eq_true rfl) rfl (fun z46 κ45 H locs cells slots hw hH => ?_)
                  refine lv_istore (lv' := [(9, .int z46), (0, .ref h)]) hx hb dX11_setInfo_180 hl (by decide) rfl (fun ls hl => ?_)
                  refine lv_goto (tgt := 197) hx hb dX11_setInfo_182 rfl ?_
                  exact jn28 z46 κ45 ls _ _ _ _ hl hw hH
                · skip
                  refine w_lif_eq (tgt := 176) hF dX11_setInfo_168 dX11_setInfo_169 rfl hw (fun hw => ?_) (fun hw => ?_)
                  · refine lv_iconst (v := 0) hx hb dX11_setInfo_176 (by decide) ?_
                    have hl : lv_has ls 10 [(0, .ref h)] := lv_sub hl [5] rfl
                    exact jn44 0 κ38 ls _ _ _ _ hl hw hH
                  · refine lv_iconst (v := 1) hx hb dX11_setInfo_172 (by decide) ?_
                    refine lv_goto (tgt := 177) hx hb dX11_setInfo_173 rfl ?_
                    have hl : lv_has ls 10 [(0, .ref h)] := lv_sub hl [5] rfl
                    exact jn44 1 κ38 ls _ _ _ _ hl hw hH
              by_cases z91_20 : z6.toInt = 20
              · have hw := hw.2.2.1 z91_20
                refine lv_lookup (off := 46) (tgt := 137) hx hb dX11_setInfo_91 (by decide) (by rw [z91_20]; rfl) rfl ?_
                refine lv_aload_n hx hb dX11_setInfo_137 rfl (lv_at hl 5 rfl) ?_
                refine w_aloadq_n hF dX11_setInfo_138 rfl (lv_at hl 7 rfl) ?_
                refine w_aloadq_n hF dX11_setInfo_139 rfl (lv_at hl 6 rfl) ?_
                refine lv_iload hx hb dX11_setInfo_140 (lv_at hl 1 rfl) ?_
                refine lv_bipush (v := 8) hx hb dX11_setInfo_142 (by decide) ?_
                refine cw_cVlq (q := a1) (As := [.int z11, .int 8]) (rest := [va_rf a2, .ref h]) hF hH hA hE mv_X11_394 ci_X0 (by decide) hw (fun b hw sz => c_X0_number l D t G _ b z11 8 _ hw sz) dX11_setInfo_144 ⟨Nat.le_of_ble_eq_true rfl, Nat.le_of_ble_eq_true rfl⟩ rfl hl.1 (by simp only [List.map_cons, List.map_nil, cat_rf]; exact Nat.le_of_ble_eq_true rfl) rfl (fun z48 κ47 H locs cells slots hw hH => ?_)
                refine cw_cVi (b := h) (As := [va_rf a2, .long z48]) (rest := []) hF hH hA hE mv_X11_940 ci_X11 (by decide) (fun sz => c_X11_setSize l D t G _ h a2 z48 _ hw.2 sz) dX11_setInfo_147 hw.1 ⟨Nat.le_of_ble_eq_true rfl, Nat.le_of_ble_eq_true rfl⟩ rfl hl.1 (Nat.le_of_ble_eq_true rfl) rfl (fun z50 κ49 H locs cells slots hw hH => ?_)
                refine lv_istore (lv' := [(9, .int z50), (8, .int z13), (7, .int z11), (5, .long z8), (4, .int z6), (3, .int z3), (0, .ref h), (1, va_rf a1), (2, va_rf a2)]) hx hb dX11_setInfo_150 hl (by decide) rfl (fun ls hl => ?_)
                refine lv_goto (tgt := 197) hx hb dX11_setInfo_152 rfl ?_
                have hl : lv_has ls 10 [(9, .int z50), (0, .ref h)] := lv_sub hl [0, 6] rfl
                exact jn28 z50 κ49 ls _ _ _ _ hl hw hH
              have hw := hw.2.2.2 ⟨z91_4, z91_13, z91_20⟩
              refine lv_lookup (off := 94) (tgt := 185) hx hb dX11_setInfo_91 (by decide) (by simp only [Op.lookupswitch.offset]; rw [if_neg (fun q => z91_4 q.symm), if_neg (fun q => z91_13 q.symm), if_neg (fun q => z91_20 q.symm)]) rfl ?_
              refine lv_aload_n hx hb dX11_setInfo_185 rfl (lv_at hl 5 rfl) ?_
              refine w_aloadq_n hF dX11_setInfo_186 rfl (lv_at hl 6 rfl) ?_
              refine w_aloadq_n hF dX11_setInfo_187 rfl (lv_at hl 7 rfl) ?_
              refine lv_iload hx hb dX11_setInfo_188 (lv_at hl 1 rfl) ?_
              refine lv_lload hx hb dX11_setInfo_190 (lv_at hl 2 rfl) ?_
              refine cw_cVi (b := h) (As := [va_rf a1, va_rf a2, .int z11, .long z8]) (rest := []) hF hH hA hE mv_X11_948 ci_X11 (by decide) (fun sz => c_X11_rename l D t G _ h a1 a2 z11 z8 _ hw.2 sz) dX11_setInfo_192 hw.1 ⟨Nat.le_of_ble_eq_true rfl, Nat.le_of_ble_eq_true rfl⟩ rfl hl.1 (Nat.le_of_ble_eq_true rfl) rfl (fun z52 κ51 H locs cells slots hw hH => ?_)
              refine lv_istore (lv' := [(9, .int z52), (8, .int z13), (7, .int z11), (5, .long z8), (4, .int z6), (3, .int z3), (0, .ref h), (1, va_rf a1), (2, va_rf a2)]) hx hb dX11_setInfo_195 hl (by decide) rfl (fun ls hl => ?_)
              have hl : lv_has ls 10 [(9, .int z52), (0, .ref h)] := lv_sub hl [0, 6] rfl
              exact jn28 z52 κ51 ls _ _ _ _ hl hw hH
          · refine lv_ldcw (v := (-1073741790)) hx hb hF.1.2.2.2.1 (hF.1.2.2.2.2 _ (wc_22 30 rfl)) dX11_setInfo_85 ?_
            exact cw_reti hF hH ⟨rfl, rfl⟩ hr rfl hlk dX11_setInfo_88 hw
        · refine lv_ldcw (v := (-1073741820)) hx hb hF.1.2.2.2.1 (hF.1.2.2.2.2 _ (wc_33 8 rfl)) dX11_setInfo_68 ?_
          exact cw_reti hF hH ⟨rfl, rfl⟩ hr rfl hlk dX11_setInfo_71 hw
      · have hl : lv_has ls 10 [] := lv_sub hl [] rfl
        exact jn18 () κ12 ls _ _ _ _ hl hw hH
set_option maxRecDepth 100000 in
def F_X11_endBreak (G : GE) (h : Nat) (a1 : Option Nat) (a2 : Int32) (post : CS → Prop) (κ : CS) : Prop := ∃ b : Nat, a1 = some b ∧ (b ∈ sL κ.1 ∧ sK κ.1 b = 10) ∧ ∀ κ1 : CS, κ1 = (h_uI κ.1 b 7 a2, κ.2) → (0 ≤ (0 : Int32).toInt ∧ (0 : Int32).toInt ≤ 1) ∧ ∃ b : Nat, a1 = some b ∧ (b ∈ sL κ1.1 ∧ sK κ1.1 b = 10) ∧ ∀ κ2 : CS, κ2 = (h_uI κ1.1 b 8 0, κ1.2) → ∃ b : Nat, a1 = some b ∧ (b ∈ sL κ2.1 ∧ sK κ2.1 b = 10) ∧ ∀ z3 : Option Nat, z3 = sP κ2.1 b 2 → (h ∈ sL κ2.1 ∧ sK κ2.1 h = 1) ∧ F_X11_doAgain G h z3 (fun (κ4 : CS) => post κ4) κ2
theorem dX11_endBreak_0 : decode cX11_endBreak 0 = .ok (.aload_n 1, 1) := by decide +kernel
theorem dX11_endBreak_1 : decode cX11_endBreak 1 = .ok (.iload_n 2, 1) := by decide +kernel
theorem dX11_endBreak_2 : decode cX11_endBreak 2 = .ok (.putfield 726, 3) := by decide +kernel
theorem dX11_endBreak_5 : decode cX11_endBreak 5 = .ok (.aload_n 1, 1) := by decide +kernel
theorem dX11_endBreak_6 : decode cX11_endBreak 6 = .ok (.iconst 0, 1) := by decide +kernel
theorem dX11_endBreak_7 : decode cX11_endBreak 7 = .ok (.putfield 170, 3) := by decide +kernel
theorem dX11_endBreak_10 : decode cX11_endBreak 10 = .ok (.aload_n 0, 1) := by decide +kernel
theorem dX11_endBreak_11 : decode cX11_endBreak 11 = .ok (.aload_n 1, 1) := by decide +kernel
theorem dX11_endBreak_12 : decode cX11_endBreak 12 = .ok (.getfield 564, 3) := by decide +kernel
theorem dX11_endBreak_15 : decode cX11_endBreak 15 = .ok (.invokevirtual 587, 3) := by decide +kernel
theorem dX11_endBreak_18 : decode cX11_endBreak 18 = .ok (.return_, 1) := by decide +kernel
set_option maxRecDepth 100000 in
set_option maxHeartbeats 4000000 in
theorem c_X11_endBreak (l : Launch) (D : va_G) (t : Nat → ClassId) (G : GE) (κ : CS) (h : Nat) (a1 : Option Nat) (a2 : Int32) (post : CS → Prop) (hw : F_X11_endBreak G h a1 a2 post κ) (sz : Nat) : CMv l D t yX11_endBreak cX11_endBreak 3 4 101 G κ sz [.ref h, va_rf a1, .int a2] post := by
  refine c_go (by decide) (by cases a1 <;> exact Nat.le_of_ble_eq_true rfl) ?_
  intro p e s m below meth c ls A hF hr hlk hin hAe hH hA hE hl
  unfold cB
  rw [hAe]
  clear hAe
  have hF : FX p m c cX11_endBreak 3 s _ RX11 D t := hF
  have hx := hF.1.1
  have hb := hF.1.2.1
  have hl : lv_has ls 3 [(0, .ref h), (1, va_rf a1), (2, .int a2)] := (by have h2 := hl; clear hw; revert h2; cases a1 <;> exact id)
  unfold F_X11_endBreak at hw
  refine w_aloadq_n hF dX11_endBreak_0 rfl (lv_at hl 1 rfl) ?_
  refine lv_iload_n hx hb dX11_endBreak_1 rfl (lv_at hl 2 rfl) ?_
  refine cw_putI (q := a1) (v := a2) hF hH fk_X11_726 dX11_endBreak_2 rfl rfl rfl hw (fun κ1 H locs cells slots hw hH => ?_)
  refine w_aloadq_n hF dX11_endBreak_5 rfl (lv_at hl 1 rfl) ?_
  refine lv_iconst (v := 0) hx hb dX11_endBreak_6 (by decide) ?_
  refine cw_putZ (q := a1) (v := 0) hF hH fk_X11_170 dX11_endBreak_7 rfl rfl hw (fun κ2 H locs cells slots hw hH => ?_)
  refine lv_aload_n hx hb dX11_endBreak_10 rfl (lv_at hl 0 rfl) ?_
  refine w_aloadq_n hF dX11_endBreak_11 rfl (lv_at hl 1 rfl) ?_
  refine cw_getP (q := a1) hF hH fk_X11_564 dX11_endBreak_12 hw (fun z3 hw => ?_)
  refine cw_cVv (b := h) (As := [va_rf z3]) (rest := []) hF hH hA hE mv_X11_587 ci_X11 (by decide) (fun sz => c_X11_doAgain l D t G _ h z3 _ hw.2 sz) dX11_endBreak_15 hw.1 ⟨Nat.le_of_ble_eq_true rfl, Nat.le_of_ble_eq_true rfl⟩ rfl hl.1 (Nat.le_of_ble_eq_true rfl) rfl (fun κ4 H locs cells slots hw hH => ?_)
  exact cw_retv hF hH ⟨rfl, rfl⟩ hr hlk dX11_endBreak_18 hw
set_option maxRecDepth 100000 in
def F_X11_answerBreak (G : GE) (h : Nat) (a1 : Option Nat) (a2 : Option Nat) (post : Int32 → CS → Prop) (κ : CS) : Prop := ∃ b : Nat, a1 = some b ∧ (b ∈ sL κ.1 ∧ sK κ.1 b = 8) ∧ F_X0_number G b 66 1 (fun (z2 : Int64) (κ1 : CS) => ∀ z3 : Int32, z3 = (z2 : Int64).toInt32 → ∃ b : Nat, a2 = some b ∧ (b ∈ sL κ1.1 ∧ sK κ1.1 b = 10) ∧ ∀ z4 : Int32, z4 = sI κ1.1 b 8 → ((¬ z4.toInt = 0) → ∃ b : Nat, a2 = some b ∧ (b ∈ sL κ1.1 ∧ sK κ1.1 b = 10) ∧ ∀ z5 : Int32, z5 = sI κ1.1 b 9 → jc (fun (K8 : Int32 → CS → Prop) => ((z5.toInt < z3.toInt) → K8 0 κ1) ∧ ((z3.toInt ≤ z5.toInt) → K8 1 κ1)) (fun (x6 : Int32) (κ7 : CS) => jc (fun (K13 : Int32 → CS → Prop) => ((x6.toInt = 0) → K13 0 κ7) ∧ ((¬ x6.toInt = 0) → K13 z3 κ7)) (fun (x11 : Int32) (κ12 : CS) => (h ∈ sL κ12.1 ∧ sK κ12.1 h = 1) ∧ F_X11_endBreak G h a2 x11 (fun (κ16 : CS) => ((¬ x6.toInt = 0) → (h ∈ sL κ16.1 ∧ sK κ16.1 h = 1) ∧ ∀ z18 : Option Nat, z18 = sP κ16.1 h 15 → ∃ b : Nat, z18 = some b ∧ (b ∈ sL κ16.1 ∧ sK κ16.1 b = 2) ∧ F_X6_begin G b 88 (fun (κ19 : CS) => (h ∈ sL κ19.1 ∧ sK κ19.1 h = 1) ∧ ∀ z21 : Option Nat, z21 = sP κ19.1 h 15 → ∃ b : Nat, z21 = some b ∧ (b ∈ sL κ19.1 ∧ sK κ19.1 b = 2) ∧ F_X6_put G b 64 2 24 (fun (κ22 : CS) => (h ∈ sL κ22.1 ∧ sK κ22.1 h = 1) ∧ ∀ z24 : Option Nat, z24 = sP κ22.1 h 15 → ∀ z25 : Int64, z25 = (z3 : Int32).toInt64 → ∃ b : Nat, z24 = some b ∧ (b ∈ sL κ22.1 ∧ sK κ22.1 b = 2) ∧ F_X6_put G b 66 1 z25 (fun (κ26 : CS) => (h ∈ sL κ26.1 ∧ sK κ26.1 h = 1) ∧ ∀ z28 : Option Nat, z28 = sP κ26.1 h 15 → ∃ b : Nat, a2 = some b ∧ (b ∈ sL κ26.1 ∧ sK κ26.1 b = 10) ∧ ∀ z29 : Int64, z29 = sJ κ26.1 b 0 → ∃ b : Nat, z28 = some b ∧ (b ∈ sL κ26.1 ∧ sK κ26.1 b = 2) ∧ F_X6_put G b 72 8 z29 (fun (κ30 : CS) => (h ∈ sL κ30.1 ∧ sK κ30.1 h = 1) ∧ ∀ z32 : Option Nat, z32 = sP κ30.1 h 15 → ∃ b : Nat, a2 = some b ∧ (b ∈ sL κ30.1 ∧ sK κ30.1 b = 10) ∧ ∀ z33 : Int64, z33 = sJ κ30.1 b 0 → ∃ b : Nat, z32 = some b ∧ (b ∈ sL κ30.1 ∧ sK κ30.1 b = 2) ∧ F_X6_put G b 80 8 z33 (fun (κ34 : CS) => post 0 κ34) κ30) κ26) κ22) κ19) κ16) ∧ ((x6.toInt = 0) → post (-1073741597) κ16)) κ12))) ∧ ((z4.toInt = 0) → post (-1073741597) κ1)) κ
theorem dX11_answerBreak_0 : decode cX11_answerBreak 0 = .ok (.aload_n 1, 1) := by decide +kernel
theorem dX11_answerBreak_1 : decode cX11_answerBreak 1 = .ok (.bipush 66, 2) := by decide +kernel
theorem dX11_answerBreak_3 : decode cX11_answerBreak 3 = .ok (.iconst 1, 1) := by decide +kernel
theorem dX11_answerBreak_4 : decode cX11_answerBreak 4 = .ok (.invokevirtual 394, 3) := by decide +kernel
theorem dX11_answerBreak_7 : decode cX11_answerBreak 7 = .ok (.l2i, 1) := by decide +kernel
theorem dX11_answerBreak_8 : decode cX11_answerBreak 8 = .ok (.istore_n 3, 1) := by decide +kernel
theorem dX11_answerBreak_9 : decode cX11_answerBreak 9 = .ok (.aload_n 2, 1) := by decide +kernel
theorem dX11_answerBreak_10 : decode cX11_answerBreak 10 = .ok (.getfield 170, 3) := by decide +kernel
theorem dX11_answerBreak_13 : decode cX11_answerBreak 13 = .ok (.ifCond .ne 7, 3) := by decide +kernel
theorem dX11_answerBreak_16 : decode cX11_answerBreak 16 = .ok (.ldc_w 824, 3) := by decide +kernel
theorem dX11_answerBreak_19 : decode cX11_answerBreak 19 = .ok (.ireturn, 1) := by decide +kernel
theorem dX11_answerBreak_20 : decode cX11_answerBreak 20 = .ok (.iload_n 3, 1) := by decide +kernel
theorem dX11_answerBreak_21 : decode cX11_answerBreak 21 = .ok (.aload_n 2, 1) := by decide +kernel
theorem dX11_answerBreak_22 : decode cX11_answerBreak 22 = .ok (.getfield 756, 3) := by decide +kernel
theorem dX11_answerBreak_25 : decode cX11_answerBreak 25 = .ok (.if_icmp .gt 7, 3) := by decide +kernel
theorem dX11_answerBreak_28 : decode cX11_answerBreak 28 = .ok (.iconst 1, 1) := by decide +kernel
theorem dX11_answerBreak_29 : decode cX11_answerBreak 29 = .ok (.goto 4, 3) := by decide +kernel
theorem dX11_answerBreak_32 : decode cX11_answerBreak 32 = .ok (.iconst 0, 1) := by decide +kernel
theorem dX11_answerBreak_33 : decode cX11_answerBreak 33 = .ok (.istore 4, 2) := by decide +kernel
theorem dX11_answerBreak_35 : decode cX11_answerBreak 35 = .ok (.aload_n 0, 1) := by decide +kernel
theorem dX11_answerBreak_36 : decode cX11_answerBreak 36 = .ok (.aload_n 2, 1) := by decide +kernel
theorem dX11_answerBreak_37 : decode cX11_answerBreak 37 = .ok (.iload 4, 2) := by decide +kernel
theorem dX11_answerBreak_39 : decode cX11_answerBreak 39 = .ok (.ifCond .eq 7, 3) := by decide +kernel
theorem dX11_answerBreak_42 : decode cX11_answerBreak 42 = .ok (.iload_n 3, 1) := by decide +kernel
theorem dX11_answerBreak_43 : decode cX11_answerBreak 43 = .ok (.goto 4, 3) := by decide +kernel
theorem dX11_answerBreak_46 : decode cX11_answerBreak 46 = .ok (.iconst 0, 1) := by decide +kernel
theorem dX11_answerBreak_47 : decode cX11_answerBreak 47 = .ok (.invokevirtual 178, 3) := by decide +kernel
theorem dX11_answerBreak_50 : decode cX11_answerBreak 50 = .ok (.iload 4, 2) := by decide +kernel
theorem dX11_answerBreak_52 : decode cX11_answerBreak 52 = .ok (.ifCond .ne 7, 3) := by decide +kernel
theorem dX11_answerBreak_55 : decode cX11_answerBreak 55 = .ok (.ldc_w 824, 3) := by decide +kernel
theorem dX11_answerBreak_58 : decode cX11_answerBreak 58 = .ok (.ireturn, 1) := by decide +kernel
theorem dX11_answerBreak_59 : decode cX11_answerBreak 59 = .ok (.aload_n 0, 1) := by decide +kernel
theorem dX11_answerBreak_60 : decode cX11_answerBreak 60 = .ok (.getfield 68, 3) := by decide +kernel
theorem dX11_answerBreak_63 : decode cX11_answerBreak 63 = .ok (.bipush 88, 2) := by decide +kernel
theorem dX11_answerBreak_65 : decode cX11_answerBreak 65 = .ok (.invokevirtual 262, 3) := by decide +kernel
theorem dX11_answerBreak_68 : decode cX11_answerBreak 68 = .ok (.aload_n 0, 1) := by decide +kernel
theorem dX11_answerBreak_69 : decode cX11_answerBreak 69 = .ok (.getfield 68, 3) := by decide +kernel
theorem dX11_answerBreak_72 : decode cX11_answerBreak 72 = .ok (.bipush 64, 2) := by decide +kernel
theorem dX11_answerBreak_74 : decode cX11_answerBreak 74 = .ok (.iconst 2, 1) := by decide +kernel
theorem dX11_answerBreak_75 : decode cX11_answerBreak 75 = .ok (.ldc2_w 822, 3) := by decide +kernel
theorem dX11_answerBreak_78 : decode cX11_answerBreak 78 = .ok (.invokevirtual 349, 3) := by decide +kernel
theorem dX11_answerBreak_81 : decode cX11_answerBreak 81 = .ok (.aload_n 0, 1) := by decide +kernel
theorem dX11_answerBreak_82 : decode cX11_answerBreak 82 = .ok (.getfield 68, 3) := by decide +kernel
theorem dX11_answerBreak_85 : decode cX11_answerBreak 85 = .ok (.bipush 66, 2) := by decide +kernel
theorem dX11_answerBreak_87 : decode cX11_answerBreak 87 = .ok (.iconst 1, 1) := by decide +kernel
theorem dX11_answerBreak_88 : decode cX11_answerBreak 88 = .ok (.iload_n 3, 1) := by decide +kernel
theorem dX11_answerBreak_89 : decode cX11_answerBreak 89 = .ok (.i2l, 1) := by decide +kernel
theorem dX11_answerBreak_90 : decode cX11_answerBreak 90 = .ok (.invokevirtual 349, 3) := by decide +kernel
theorem dX11_answerBreak_93 : decode cX11_answerBreak 93 = .ok (.aload_n 0, 1) := by decide +kernel
theorem dX11_answerBreak_94 : decode cX11_answerBreak 94 = .ok (.getfield 68, 3) := by decide +kernel
theorem dX11_answerBreak_97 : decode cX11_answerBreak 97 = .ok (.bipush 72, 2) := by decide +kernel
theorem dX11_answerBreak_99 : decode cX11_answerBreak 99 = .ok (.bipush 8, 2) := by decide +kernel
theorem dX11_answerBreak_101 : decode cX11_answerBreak 101 = .ok (.aload_n 2, 1) := by decide +kernel
theorem dX11_answerBreak_102 : decode cX11_answerBreak 102 = .ok (.getfield 328, 3) := by decide +kernel
theorem dX11_answerBreak_105 : decode cX11_answerBreak 105 = .ok (.invokevirtual 349, 3) := by decide +kernel
theorem dX11_answerBreak_108 : decode cX11_answerBreak 108 = .ok (.aload_n 0, 1) := by decide +kernel
theorem dX11_answerBreak_109 : decode cX11_answerBreak 109 = .ok (.getfield 68, 3) := by decide +kernel
theorem dX11_answerBreak_112 : decode cX11_answerBreak 112 = .ok (.bipush 80, 2) := by decide +kernel
theorem dX11_answerBreak_114 : decode cX11_answerBreak 114 = .ok (.bipush 8, 2) := by decide +kernel
theorem dX11_answerBreak_116 : decode cX11_answerBreak 116 = .ok (.aload_n 2, 1) := by decide +kernel
theorem dX11_answerBreak_117 : decode cX11_answerBreak 117 = .ok (.getfield 328, 3) := by decide +kernel
theorem dX11_answerBreak_120 : decode cX11_answerBreak 120 = .ok (.invokevirtual 349, 3) := by decide +kernel
theorem dX11_answerBreak_123 : decode cX11_answerBreak 123 = .ok (.iconst 0, 1) := by decide +kernel
theorem dX11_answerBreak_124 : decode cX11_answerBreak 124 = .ok (.ireturn, 1) := by decide +kernel
set_option maxRecDepth 100000 in
set_option maxHeartbeats 4000000 in
theorem c_X11_answerBreak (l : Launch) (D : va_G) (t : Nat → ClassId) (G : GE) (κ : CS) (h : Nat) (a1 : Option Nat) (a2 : Option Nat) (post : Int32 → CS → Prop) (hw : F_X11_answerBreak G h a1 a2 post κ) (sz : Nat) : CMi l D t yX11_answerBreak cX11_answerBreak 5 (some .int) 5 123 G κ sz [.ref h, va_rf a1, va_rf a2] post := by
  refine c_go (by decide) (by cases a1 <;> cases a2 <;> exact Nat.le_of_ble_eq_true rfl) ?_
  intro p e s m below meth c ls A hF hr hlk hin hAe hH hA hE hl
  unfold cB
  rw [hAe]
  clear hAe
  have hF : FX p m c cX11_answerBreak 5 s _ RX11 D t := hF
  have hx := hF.1.1
  have hb := hF.1.2.1
  have hl : lv_has ls 5 [(0, .ref h), (1, va_rf a1), (2, va_rf a2)] := (by have h2 := hl; clear hw; revert h2; cases a1 <;> cases a2 <;> exact id)
  unfold F_X11_answerBreak at hw
  refine w_aloadq_n hF dX11_answerBreak_0 rfl (lv_at hl 1 rfl) ?_
  refine lv_bipush (v := 66) hx hb dX11_answerBreak_1 (by decide) ?_
  refine lv_iconst (v := 1) hx hb dX11_answerBreak_3 (by decide) ?_
  refine cw_cVlq (q := a1) (As := [.int 66, .int 1]) (rest := []) hF hH hA hE mv_X11_394 ci_X0 (by decide) hw (fun b hw sz => c_X0_number l D t G _ b 66 1 _ hw sz) dX11_answerBreak_4 ⟨Nat.le_of_ble_eq_true rfl, Nat.le_of_ble_eq_true rfl⟩ rfl hl.1 (Nat.le_of_ble_eq_true rfl) rfl (fun z2 κ1 H locs cells slots hw hH => ?_)
  refine lv_l2i hx hb dX11_answerBreak_7 rfl ?_
  refine w_nmi hw (fun z3 hw => ?_)
  refine lv_istore_n (lv' := [(3, .int z3), (0, .ref h), (1, va_rf a1), (2, va_rf a2)]) hx hb dX11_answerBreak_8 rfl hl (by decide) (by generalize a2 = y; cases y <;> rfl) (fun ls hl => ?_)
  refine w_aloadq_n hF dX11_answerBreak_9 rfl (lv_at hl 3 rfl) ?_
  refine cw_getI (q := a2) hF hH fk_X11_170 dX11_answerBreak_10 hw (fun z4 hw => ?_)
  refine w_if_ne (tgt := 20) hF dX11_answerBreak_13 rfl hw (fun hw => ?_) (fun hw => ?_)
  · refine lv_iload_n hx hb dX11_answerBreak_20 rfl (lv_at hl 0 rfl) ?_
    refine w_aloadq_n hF dX11_answerBreak_21 rfl (lv_at hl 3 rfl) ?_
    refine cw_getI (q := a2) hF hH fk_X11_756 dX11_answerBreak_22 hw (fun z5 hw => ?_)
    obtain ⟨K8, hK9, hw⟩ := jc_open hw
    refine cw_join (K := K8) 33 (fun (x6 : Int32) => [(3, .int z3), (2, va_rf a2), (0, .ref h)]) (fun (x6 : Int32) => [.int x6]) hl hH (fun x6 κ7 ls H locs cells slots hl hw hH => ?_) (fun jn10 => ?_)
    · have hw := hK9 x6 κ7 hw
      have hl : lv_has ls 5 [(3, .int z3), (2, va_rf a2), (0, .ref h)] := hl
      refine lv_istore (lv' := [(4, .int x6), (3, .int z3), (2, va_rf a2), (0, .ref h)]) hx hb dX11_answerBreak_33 hl (by decide) rfl (fun ls hl => ?_)
      refine lv_aload_n hx hb dX11_answerBreak_35 rfl (lv_at hl 3 rfl) ?_
      refine w_aloadq_n hF dX11_answerBreak_36 rfl (lv_at hl 2 rfl) ?_
      refine lv_iload hx hb dX11_answerBreak_37 (lv_at hl 0 rfl) ?_
      obtain ⟨K13, hK14, hw⟩ := jc_open hw
      refine cw_join (K := K13) 47 (fun (x11 : Int32) => [(4, .int x6), (3, .int z3), (2, va_rf a2), (0, .ref h)]) (fun (x11 : Int32) => [.int x11, va_rf a2, .ref h]) hl hH (fun x11 κ12 ls H locs cells slots hl hw hH => ?_) (fun jn15 => ?_)
      · have hw := hK14 x11 κ12 hw
        have hl : lv_has ls 5 [(4, .int x6), (3, .int z3), (2, va_rf a2), (0, .ref h)] := hl
        refine cw_cVv (b := h) (As := [va_rf a2, .int x11]) (rest := []) hF hH hA hE mv_X11_178 ci_X11 (by decide) (fun sz => c_X11_endBreak l D t G _ h a2 x11 _ hw.2 sz) dX11_answerBreak_47 hw.1 ⟨Nat.le_of_ble_eq_true rfl, Nat.le_of_ble_eq_true rfl⟩ rfl hl.1 (Nat.le_of_ble_eq_true rfl) rfl (fun κ16 H locs cells slots hw hH => ?_)
        refine lv_iload hx hb dX11_answerBreak_50 (lv_at hl 0 rfl) ?_
        refine w_if_ne (tgt := 59) hF dX11_answerBreak_52 rfl hw (fun hw => ?_) (fun hw => ?_)
        · refine lv_aload_n hx hb dX11_answerBreak_59 rfl (lv_at hl 3 rfl) ?_
          refine cw_getPr (a := h) hF hH fk_X11_68 dX11_answerBreak_60 hw (fun z18 hw => ?_)
          refine lv_bipush (v := 88) hx hb dX11_answerBreak_63 (by decide) ?_
          refine cw_cVvq (q := z18) (As := [.int 88]) (rest := []) hF hH hA hE mv_X11_262 ci_X6 (by decide) hw (fun b hw sz => c_X6_begin l D t G _ b 88 _ hw sz) dX11_answerBreak_65 ⟨Nat.le_of_ble_eq_true rfl, Nat.le_of_ble_eq_true rfl⟩ rfl hl.1 (Nat.le_of_ble_eq_true rfl) rfl (fun κ19 H locs cells slots hw hH => ?_)
          refine lv_aload_n hx hb dX11_answerBreak_68 rfl (lv_at hl 3 rfl) ?_
          refine cw_getPr (a := h) hF hH fk_X11_68 dX11_answerBreak_69 hw (fun z21 hw => ?_)
          refine lv_bipush (v := 64) hx hb dX11_answerBreak_72 (by decide) ?_
          refine lv_iconst (v := 2) hx hb dX11_answerBreak_74 (by decide) ?_
          refine lv_ldc2 (v := 24) hx hb hF.1.2.2.2.1 (hF.1.2.2.2.2 _ (wc_23 38 rfl)) dX11_answerBreak_75 ?_
          refine cw_cVvq (q := z21) (As := [.int 64, .int 2, .long 24]) (rest := []) hF hH hA hE mv_X11_349 ci_X6 (by decide) hw (fun b hw sz => c_X6_put l D t G _ b 64 2 24 _ hw sz) dX11_answerBreak_78 ⟨Nat.le_of_ble_eq_true rfl, Nat.le_of_ble_eq_true rfl⟩ rfl hl.1 (Nat.le_of_ble_eq_true rfl) rfl (fun κ22 H locs cells slots hw hH => ?_)
          refine lv_aload_n hx hb dX11_answerBreak_81 rfl (lv_at hl 3 rfl) ?_
          refine cw_getPr (a := h) hF hH fk_X11_68 dX11_answerBreak_82 hw (fun z24 hw => ?_)
          refine lv_bipush (v := 66) hx hb dX11_answerBreak_85 (by decide) ?_
          refine lv_iconst (v := 1) hx hb dX11_answerBreak_87 (by decide) ?_
          refine lv_iload_n hx hb dX11_answerBreak_88 rfl (lv_at hl 1 rfl) ?_
          refine lv_i2l hx hb dX11_answerBreak_89 rfl ?_
          refine w_nml hw (fun z25 hw => ?_)
          refine cw_cVvq (q := z24) (As := [.int 66, .int 1, .long z25]) (rest := []) hF hH hA hE mv_X11_349 ci_X6 (by decide) hw (fun b hw sz => c_X6_put l D t G _ b 66 1 z25 _ hw sz) dX11_answerBreak_90 ⟨Nat.le_of_ble_eq_true rfl, Nat.le_of_ble_eq_true rfl⟩ rfl hl.1 (Nat.le_of_ble_eq_true rfl) rfl (fun κ26 H locs cells slots hw hH => ?_)
          refine lv_aload_n hx hb dX11_answerBreak_93 rfl (lv_at hl 3 rfl) ?_
          refine cw_getPr (a := h) hF hH fk_X11_68 dX11_answerBreak_94 hw (fun z28 hw => ?_)
          refine lv_bipush (v := 72) hx hb dX11_answerBreak_97 (by decide) ?_
          refine lv_bipush (v := 8) hx hb dX11_answerBreak_99 (by decide) ?_
          refine w_aloadq_n hF dX11_answerBreak_101 rfl (lv_at hl 2 rfl) ?_
          refine cw_getJ (q := a2) hF hH fk_X11_328 dX11_answerBreak_102 hw (fun z29 hw => ?_)
          refine cw_cVvq (q := z28) (As := [.int 72, .int 8, .long z29]) (rest := []) hF hH hA hE mv_X11_349 ci_X6 (by decide) hw (fun b hw sz => c_X6_put l D t G _ b 72 8 z29 _ hw sz) dX11_answerBreak_105 ⟨Nat.le_of_ble_eq_true rfl, Nat.le_of_ble_eq_true rfl⟩ rfl hl.1 (Nat.le_of_ble_eq_true rfl) rfl (fun κ30 H locs cells slots hw hH => ?_)
          refine lv_aload_n hx hb dX11_answerBreak_108 rfl (lv_at hl 3 rfl) ?_
          refine cw_getPr (a := h) hF hH fk_X11_68 dX11_answerBreak_109 hw (fun z32 hw => ?_)
          refine lv_bipush (v := 80) hx hb dX11_answerBreak_112 (by decide) ?_
          refine lv_bipush (v := 8) hx hb dX11_answerBreak_114 (by decide) ?_
          refine w_aloadq_n hF dX11_answerBreak_116 rfl (lv_at hl 2 rfl) ?_
          refine cw_getJ (q := a2) hF hH fk_X11_328 dX11_answerBreak_117 hw (fun z33 hw => ?_)
          refine cw_cVvq (q := z32) (As := [.int 80, .int 8, .long z33]) (rest := []) hF hH hA hE mv_X11_349 ci_X6 (by decide) hw (fun b hw sz => c_X6_put l D t G _ b 80 8 z33 _ hw sz) dX11_answerBreak_120 ⟨Nat.le_of_ble_eq_true rfl, Nat.le_of_ble_eq_true rfl⟩ rfl hl.1 (Nat.le_of_ble_eq_true rfl) rfl (fun κ34 H locs cells slots hw hH => ?_)
          refine lv_iconst (v := 0) hx hb dX11_answerBreak_123 (by decide) ?_
          exact cw_reti hF hH ⟨rfl, rfl⟩ hr rfl hlk dX11_answerBreak_124 hw
        · refine lv_ldcw (v := (-1073741597)) hx hb hF.1.2.2.2.1 (hF.1.2.2.2.2 _ (wc_38 15 rfl)) dX11_answerBreak_55 ?_
          exact cw_reti hF hH ⟨rfl, rfl⟩ hr rfl hlk dX11_answerBreak_58 hw
      · skip
        refine w_if_eq (tgt := 46) hF dX11_answerBreak_39 rfl hw (fun hw => ?_) (fun hw => ?_)
        · refine lv_iconst (v := 0) hx hb dX11_answerBreak_46 (by decide) ?_
          exact jn15 0 κ7 ls _ _ _ _ hl hw hH
        · refine lv_iload_n hx hb dX11_answerBreak_42 rfl (lv_at hl 1 rfl) ?_
          refine lv_goto (tgt := 47) hx hb dX11_answerBreak_43 rfl ?_
          exact jn15 z3 κ7 ls _ _ _ _ hl hw hH
    · skip
      refine w_icmp_gt (tgt := 32) hF dX11_answerBreak_25 rfl hw (fun hw => ?_) (fun hw => ?_)
      · refine lv_iconst (v := 0) hx hb dX11_answerBreak_32 (by decide) ?_
        have hl : lv_has ls 5 [(3, .int z3), (2, va_rf a2), (0, .ref h)] := lv_sub hl [0, 3, 1] rfl
        exact jn10 0 κ1 ls _ _ _ _ hl hw hH
      · refine lv_iconst (v := 1) hx hb dX11_answerBreak_28 (by decide) ?_
        refine lv_goto (tgt := 33) hx hb dX11_answerBreak_29 rfl ?_
        have hl : lv_has ls 5 [(3, .int z3), (2, va_rf a2), (0, .ref h)] := lv_sub hl [0, 3, 1] rfl
        exact jn10 1 κ1 ls _ _ _ _ hl hw hH
  · refine lv_ldcw (v := (-1073741597)) hx hb hF.1.2.2.2.1 (hF.1.2.2.2.2 _ (wc_38 15 rfl)) dX11_answerBreak_16 ?_
    exact cw_reti hF hH ⟨rfl, rfl⟩ hr rfl hlk dX11_answerBreak_19 hw
set_option maxRecDepth 100000 in
def F_X11_performOnFile (G : GE) (h : Nat) (a1 : Option Nat) (a2 : Option Nat) (post : Int32 → CS → Prop) (κ : CS) : Prop := ∃ b : Nat, a1 = some b ∧ (b ∈ sL κ.1 ∧ sK κ.1 b = 8) ∧ ∀ z1 : Int32, z1 = sI κ.1 b 5 → jc (fun (K4 : Unit → CS → Prop) => ((z1.toInt < 6 ∨ 18 < z1.toInt) → K4 () κ) ∧ ((z1.toInt = 6) → (h ∈ sL κ.1 ∧ sK κ.1 h = 1) ∧ F_X11_close G h a1 a2 (fun (z8 : Int32) (κ7 : CS) => post z8 κ7) κ) ∧ ((z1.toInt = 7) → (h ∈ sL κ.1 ∧ sK κ.1 h = 1) ∧ F_X11_flush G h a2 (fun (z10 : Int32) (κ9 : CS) => post z10 κ9) κ) ∧ ((z1.toInt = 8) → (h ∈ sL κ.1 ∧ sK κ.1 h = 1) ∧ F_X11_read G h a1 a2 (fun (z12 : Int32) (κ11 : CS) => post z12 κ11) κ) ∧ ((z1.toInt = 9) → (h ∈ sL κ.1 ∧ sK κ.1 h = 1) ∧ F_X11_write G h a1 a2 (fun (z14 : Int32) (κ13 : CS) => post z14 κ13) κ) ∧ ((z1.toInt = 10) → (h ∈ sL κ.1 ∧ sK κ.1 h = 1) ∧ F_X11_lock G h a1 a2 (fun (z16 : Int32) (κ15 : CS) => post z16 κ15) κ) ∧ ((z1.toInt = 11) → K4 () κ) ∧ ((z1.toInt = 12) → K4 () κ) ∧ ((z1.toInt = 13) → K4 () κ) ∧ ((z1.toInt = 14) → (h ∈ sL κ.1 ∧ sK κ.1 h = 1) ∧ F_X11_queryDirectory G h a1 a2 (fun (z18 : Int32) (κ17 : CS) => post z18 κ17) κ) ∧ ((z1.toInt = 15) → K4 () κ) ∧ ((z1.toInt = 16) → (h ∈ sL κ.1 ∧ sK κ.1 h = 1) ∧ F_X11_queryInfo G h a1 a2 (fun (z20 : Int32) (κ19 : CS) => post z20 κ19) κ) ∧ ((z1.toInt = 17) → (h ∈ sL κ.1 ∧ sK κ.1 h = 1) ∧ F_X11_setInfo G h a1 a2 (fun (z22 : Int32) (κ21 : CS) => post z22 κ21) κ) ∧ ((z1.toInt = 18) → (h ∈ sL κ.1 ∧ sK κ.1 h = 1) ∧ F_X11_answerBreak G h a1 a2 (fun (z24 : Int32) (κ23 : CS) => post z24 κ23) κ)) (fun (x2 : Unit) (κ3 : CS) => post (-1073741637) κ3)
theorem dX11_performOnFile_0 : decode cX11_performOnFile 0 = .ok (.aload_n 1, 1) := by decide +kernel
theorem dX11_performOnFile_1 : decode cX11_performOnFile 1 = .ok (.getfield 271, 3) := by decide +kernel
theorem dX11_performOnFile_4 : decode cX11_performOnFile 4 = .ok (.tableswitch 130 6 18 #[68, 75, 81, 88, 95, 130, 130, 130, 102, 130, 109, 116, 123], 68) := by decide +kernel
theorem dX11_performOnFile_72 : decode cX11_performOnFile 72 = .ok (.aload_n 0, 1) := by decide +kernel
theorem dX11_performOnFile_73 : decode cX11_performOnFile 73 = .ok (.aload_n 1, 1) := by decide +kernel
theorem dX11_performOnFile_74 : decode cX11_performOnFile 74 = .ok (.aload_n 2, 1) := by decide +kernel
theorem dX11_performOnFile_75 : decode cX11_performOnFile 75 = .ok (.invokevirtual 453, 3) := by decide +kernel
theorem dX11_performOnFile_78 : decode cX11_performOnFile 78 = .ok (.ireturn, 1) := by decide +kernel
theorem dX11_performOnFile_79 : decode cX11_performOnFile 79 = .ok (.aload_n 0, 1) := by decide +kernel
theorem dX11_performOnFile_80 : decode cX11_performOnFile 80 = .ok (.aload_n 2, 1) := by decide +kernel
theorem dX11_performOnFile_81 : decode cX11_performOnFile 81 = .ok (.invokevirtual 456, 3) := by decide +kernel
theorem dX11_performOnFile_84 : decode cX11_performOnFile 84 = .ok (.ireturn, 1) := by decide +kernel
theorem dX11_performOnFile_85 : decode cX11_performOnFile 85 = .ok (.aload_n 0, 1) := by decide +kernel
theorem dX11_performOnFile_86 : decode cX11_performOnFile 86 = .ok (.aload_n 1, 1) := by decide +kernel
theorem dX11_performOnFile_87 : decode cX11_performOnFile 87 = .ok (.aload_n 2, 1) := by decide +kernel
theorem dX11_performOnFile_88 : decode cX11_performOnFile 88 = .ok (.invokevirtual 460, 3) := by decide +kernel
theorem dX11_performOnFile_91 : decode cX11_performOnFile 91 = .ok (.ireturn, 1) := by decide +kernel
theorem dX11_performOnFile_92 : decode cX11_performOnFile 92 = .ok (.aload_n 0, 1) := by decide +kernel
theorem dX11_performOnFile_93 : decode cX11_performOnFile 93 = .ok (.aload_n 1, 1) := by decide +kernel
theorem dX11_performOnFile_94 : decode cX11_performOnFile 94 = .ok (.aload_n 2, 1) := by decide +kernel
theorem dX11_performOnFile_95 : decode cX11_performOnFile 95 = .ok (.invokevirtual 463, 3) := by decide +kernel
theorem dX11_performOnFile_98 : decode cX11_performOnFile 98 = .ok (.ireturn, 1) := by decide +kernel
theorem dX11_performOnFile_99 : decode cX11_performOnFile 99 = .ok (.aload_n 0, 1) := by decide +kernel
theorem dX11_performOnFile_100 : decode cX11_performOnFile 100 = .ok (.aload_n 1, 1) := by decide +kernel
theorem dX11_performOnFile_101 : decode cX11_performOnFile 101 = .ok (.aload_n 2, 1) := by decide +kernel
theorem dX11_performOnFile_102 : decode cX11_performOnFile 102 = .ok (.invokevirtual 466, 3) := by decide +kernel
theorem dX11_performOnFile_105 : decode cX11_performOnFile 105 = .ok (.ireturn, 1) := by decide +kernel
theorem dX11_performOnFile_106 : decode cX11_performOnFile 106 = .ok (.aload_n 0, 1) := by decide +kernel
theorem dX11_performOnFile_107 : decode cX11_performOnFile 107 = .ok (.aload_n 1, 1) := by decide +kernel
theorem dX11_performOnFile_108 : decode cX11_performOnFile 108 = .ok (.aload_n 2, 1) := by decide +kernel
theorem dX11_performOnFile_109 : decode cX11_performOnFile 109 = .ok (.invokevirtual 469, 3) := by decide +kernel
theorem dX11_performOnFile_112 : decode cX11_performOnFile 112 = .ok (.ireturn, 1) := by decide +kernel
theorem dX11_performOnFile_113 : decode cX11_performOnFile 113 = .ok (.aload_n 0, 1) := by decide +kernel
theorem dX11_performOnFile_114 : decode cX11_performOnFile 114 = .ok (.aload_n 1, 1) := by decide +kernel
theorem dX11_performOnFile_115 : decode cX11_performOnFile 115 = .ok (.aload_n 2, 1) := by decide +kernel
theorem dX11_performOnFile_116 : decode cX11_performOnFile 116 = .ok (.invokevirtual 472, 3) := by decide +kernel
theorem dX11_performOnFile_119 : decode cX11_performOnFile 119 = .ok (.ireturn, 1) := by decide +kernel
theorem dX11_performOnFile_120 : decode cX11_performOnFile 120 = .ok (.aload_n 0, 1) := by decide +kernel
theorem dX11_performOnFile_121 : decode cX11_performOnFile 121 = .ok (.aload_n 1, 1) := by decide +kernel
theorem dX11_performOnFile_122 : decode cX11_performOnFile 122 = .ok (.aload_n 2, 1) := by decide +kernel
theorem dX11_performOnFile_123 : decode cX11_performOnFile 123 = .ok (.invokevirtual 475, 3) := by decide +kernel
theorem dX11_performOnFile_126 : decode cX11_performOnFile 126 = .ok (.ireturn, 1) := by decide +kernel
theorem dX11_performOnFile_127 : decode cX11_performOnFile 127 = .ok (.aload_n 0, 1) := by decide +kernel
theorem dX11_performOnFile_128 : decode cX11_performOnFile 128 = .ok (.aload_n 1, 1) := by decide +kernel
theorem dX11_performOnFile_129 : decode cX11_performOnFile 129 = .ok (.aload_n 2, 1) := by decide +kernel
theorem dX11_performOnFile_130 : decode cX11_performOnFile 130 = .ok (.invokevirtual 478, 3) := by decide +kernel
theorem dX11_performOnFile_133 : decode cX11_performOnFile 133 = .ok (.ireturn, 1) := by decide +kernel
theorem dX11_performOnFile_134 : decode cX11_performOnFile 134 = .ok (.ldc_w 393, 3) := by decide +kernel
theorem dX11_performOnFile_137 : decode cX11_performOnFile 137 = .ok (.ireturn, 1) := by decide +kernel
set_option maxRecDepth 100000 in
set_option maxHeartbeats 4000000 in
theorem c_X11_performOnFile (l : Launch) (D : va_G) (t : Nat → ClassId) (G : GE) (κ : CS) (h : Nat) (a1 : Option Nat) (a2 : Option Nat) (post : Int32 → CS → Prop) (hw : F_X11_performOnFile G h a1 a2 post κ) (sz : Nat) : CMi l D t yX11_performOnFile cX11_performOnFile 3 (some .int) 13 335 G κ sz [.ref h, va_rf a1, va_rf a2] post := by
  refine c_go (by decide) (by cases a1 <;> cases a2 <;> exact Nat.le_of_ble_eq_true rfl) ?_
  intro p e s m below meth c ls A hF hr hlk hin hAe hH hA hE hl
  unfold cB
  rw [hAe]
  clear hAe
  have hF : FX p m c cX11_performOnFile 3 s _ RX11 D t := hF
  have hx := hF.1.1
  have hb := hF.1.2.1
  have hl : lv_has ls 3 [(0, .ref h), (1, va_rf a1), (2, va_rf a2)] := (by have h2 := hl; clear hw; revert h2; cases a1 <;> cases a2 <;> exact id)
  unfold F_X11_performOnFile at hw
  refine w_aloadq_n hF dX11_performOnFile_0 rfl (lv_at hl 1 rfl) ?_
  refine cw_getI (q := a1) hF hH fk_X11_271 dX11_performOnFile_1 hw (fun z1 hw => ?_)
  obtain ⟨K4, hK5, hw⟩ := jc_open hw
  refine cw_join (K := K4) 134 (fun (x2 : Unit) => []) (fun (x2 : Unit) => []) hl hH (fun x2 κ3 ls H locs cells slots hl hw hH => ?_) (fun jn6 => ?_)
  · have hw := hK5 x2 κ3 hw
    have hl : lv_has ls 3 [] := hl
    refine lv_ldcw (v := (-1073741637)) hx hb hF.1.2.2.2.1 (hF.1.2.2.2.2 _ (wc_26 29 rfl)) dX11_performOnFile_134 ?_
    exact cw_reti hF hH ⟨rfl, rfl⟩ hr rfl hlk dX11_performOnFile_137 hw
  · skip
    by_cases ho : z1.toInt < 6 ∨ 18 < z1.toInt
    · have hw := hw.1 ho
      refine lv_tableOut (tgt := 134) hx hb dX11_performOnFile_4 ho rfl ?_
      have hl : lv_has ls 3 [] := lv_sub hl [] rfl
      exact jn6 () κ ls _ _ _ _ hl hw hH
    · rcases (show z1.toInt = 6 ∨ z1.toInt = 7 ∨ z1.toInt = 8 ∨ z1.toInt = 9 ∨ z1.toInt = 10 ∨ z1.toInt = 11 ∨ z1.toInt = 12 ∨ z1.toInt = 13 ∨ z1.toInt = 14 ∨ z1.toInt = 15 ∨ z1.toInt = 16 ∨ z1.toInt = 17 ∨ z1.toInt = 18 by omega) with zt | zt | zt | zt | zt | zt | zt | zt | zt | zt | zt | zt | zt
      · have hw := hw.2.1 zt
        have hoff : (#[68, 75, 81, 88, 95, 130, 130, 130, 102, 130, 109, 116, 123] : Array Int)[(z1.toInt - 6).toNat]? = some 68 := by rw [zt]; rfl
        refine lv_tableIn (off := 68) (tgt := 72) hx hb dX11_performOnFile_4 (fun q => ho (Or.inl q)) (fun q => ho (Or.inr q)) hoff rfl ?_
        refine lv_aload_n hx hb dX11_performOnFile_72 rfl (lv_at hl 0 rfl) ?_
        refine w_aloadq_n hF dX11_performOnFile_73 rfl (lv_at hl 1 rfl) ?_
        refine w_aloadq_n hF dX11_performOnFile_74 rfl (lv_at hl 2 rfl) ?_
        refine cw_cVi (b := h) (As := [va_rf a1, va_rf a2]) (rest := []) hF hH hA hE mv_X11_453 ci_X11 (by decide) (fun sz => c_X11_close l D t G _ h a1 a2 _ hw.2 sz) dX11_performOnFile_75 hw.1 ⟨Nat.le_of_ble_eq_true rfl, Nat.le_of_ble_eq_true rfl⟩ rfl hl.1 (Nat.le_of_ble_eq_true rfl) rfl (fun z8 κ7 H locs cells slots hw hH => ?_)
        exact cw_reti hF hH ⟨rfl, rfl⟩ hr rfl hlk dX11_performOnFile_78 hw
      · have hw := hw.2.2.1 zt
        have hoff : (#[68, 75, 81, 88, 95, 130, 130, 130, 102, 130, 109, 116, 123] : Array Int)[(z1.toInt - 6).toNat]? = some 75 := by rw [zt]; rfl
        refine lv_tableIn (off := 75) (tgt := 79) hx hb dX11_performOnFile_4 (fun q => ho (Or.inl q)) (fun q => ho (Or.inr q)) hoff rfl ?_
        refine lv_aload_n hx hb dX11_performOnFile_79 rfl (lv_at hl 0 rfl) ?_
        refine w_aloadq_n hF dX11_performOnFile_80 rfl (lv_at hl 2 rfl) ?_
        refine cw_cVi (b := h) (As := [va_rf a2]) (rest := []) hF hH hA hE mv_X11_456 ci_X11 (by decide) (fun sz => c_X11_flush l D t G _ h a2 _ hw.2 sz) dX11_performOnFile_81 hw.1 ⟨Nat.le_of_ble_eq_true rfl, Nat.le_of_ble_eq_true rfl⟩ rfl hl.1 (Nat.le_of_ble_eq_true rfl) rfl (fun z10 κ9 H locs cells slots hw hH => ?_)
        exact cw_reti hF hH ⟨rfl, rfl⟩ hr rfl hlk dX11_performOnFile_84 hw
      · have hw := hw.2.2.2.1 zt
        have hoff : (#[68, 75, 81, 88, 95, 130, 130, 130, 102, 130, 109, 116, 123] : Array Int)[(z1.toInt - 6).toNat]? = some 81 := by rw [zt]; rfl
        refine lv_tableIn (off := 81) (tgt := 85) hx hb dX11_performOnFile_4 (fun q => ho (Or.inl q)) (fun q => ho (Or.inr q)) hoff rfl ?_
        refine lv_aload_n hx hb dX11_performOnFile_85 rfl (lv_at hl 0 rfl) ?_
        refine w_aloadq_n hF dX11_performOnFile_86 rfl (lv_at hl 1 rfl) ?_
        refine w_aloadq_n hF dX11_performOnFile_87 rfl (lv_at hl 2 rfl) ?_
        refine cw_cVi (b := h) (As := [va_rf a1, va_rf a2]) (rest := []) hF hH hA hE mv_X11_460 ci_X11 (by decide) (fun sz => c_X11_read l D t G _ h a1 a2 _ hw.2 sz) dX11_performOnFile_88 hw.1 ⟨Nat.le_of_ble_eq_true rfl, Nat.le_of_ble_eq_true rfl⟩ rfl hl.1 (Nat.le_of_ble_eq_true rfl) rfl (fun z12 κ11 H locs cells slots hw hH => ?_)
        exact cw_reti hF hH ⟨rfl, rfl⟩ hr rfl hlk dX11_performOnFile_91 hw
      · have hw := hw.2.2.2.2.1 zt
        have hoff : (#[68, 75, 81, 88, 95, 130, 130, 130, 102, 130, 109, 116, 123] : Array Int)[(z1.toInt - 6).toNat]? = some 88 := by rw [zt]; rfl
        refine lv_tableIn (off := 88) (tgt := 92) hx hb dX11_performOnFile_4 (fun q => ho (Or.inl q)) (fun q => ho (Or.inr q)) hoff rfl ?_
        refine lv_aload_n hx hb dX11_performOnFile_92 rfl (lv_at hl 0 rfl) ?_
        refine w_aloadq_n hF dX11_performOnFile_93 rfl (lv_at hl 1 rfl) ?_
        refine w_aloadq_n hF dX11_performOnFile_94 rfl (lv_at hl 2 rfl) ?_
        refine cw_cVi (b := h) (As := [va_rf a1, va_rf a2]) (rest := []) hF hH hA hE mv_X11_463 ci_X11 (by decide) (fun sz => c_X11_write l D t G _ h a1 a2 _ hw.2 sz) dX11_performOnFile_95 hw.1 ⟨Nat.le_of_ble_eq_true rfl, Nat.le_of_ble_eq_true rfl⟩ rfl hl.1 (Nat.le_of_ble_eq_true rfl) rfl (fun z14 κ13 H locs cells slots hw hH => ?_)
        exact cw_reti hF hH ⟨rfl, rfl⟩ hr rfl hlk dX11_performOnFile_98 hw
      · have hw := hw.2.2.2.2.2.1 zt
        have hoff : (#[68, 75, 81, 88, 95, 130, 130, 130, 102, 130, 109, 116, 123] : Array Int)[(z1.toInt - 6).toNat]? = some 95 := by rw [zt]; rfl
        refine lv_tableIn (off := 95) (tgt := 99) hx hb dX11_performOnFile_4 (fun q => ho (Or.inl q)) (fun q => ho (Or.inr q)) hoff rfl ?_
        refine lv_aload_n hx hb dX11_performOnFile_99 rfl (lv_at hl 0 rfl) ?_
        refine w_aloadq_n hF dX11_performOnFile_100 rfl (lv_at hl 1 rfl) ?_
        refine w_aloadq_n hF dX11_performOnFile_101 rfl (lv_at hl 2 rfl) ?_
        refine cw_cVi (b := h) (As := [va_rf a1, va_rf a2]) (rest := []) hF hH hA hE mv_X11_466 ci_X11 (by decide) (fun sz => c_X11_lock l D t G _ h a1 a2 _ hw.2 sz) dX11_performOnFile_102 hw.1 ⟨Nat.le_of_ble_eq_true rfl, Nat.le_of_ble_eq_true rfl⟩ rfl hl.1 (Nat.le_of_ble_eq_true rfl) rfl (fun z16 κ15 H locs cells slots hw hH => ?_)
        exact cw_reti hF hH ⟨rfl, rfl⟩ hr rfl hlk dX11_performOnFile_105 hw
      · have hw := hw.2.2.2.2.2.2.1 zt
        have hoff : (#[68, 75, 81, 88, 95, 130, 130, 130, 102, 130, 109, 116, 123] : Array Int)[(z1.toInt - 6).toNat]? = some 130 := by rw [zt]; rfl
        refine lv_tableIn (off := 130) (tgt := 134) hx hb dX11_performOnFile_4 (fun q => ho (Or.inl q)) (fun q => ho (Or.inr q)) hoff rfl ?_
        have hl : lv_has ls 3 [] := lv_sub hl [] rfl
        exact jn6 () κ ls _ _ _ _ hl hw hH
      · have hw := hw.2.2.2.2.2.2.2.1 zt
        have hoff : (#[68, 75, 81, 88, 95, 130, 130, 130, 102, 130, 109, 116, 123] : Array Int)[(z1.toInt - 6).toNat]? = some 130 := by rw [zt]; rfl
        refine lv_tableIn (off := 130) (tgt := 134) hx hb dX11_performOnFile_4 (fun q => ho (Or.inl q)) (fun q => ho (Or.inr q)) hoff rfl ?_
        have hl : lv_has ls 3 [] := lv_sub hl [] rfl
        exact jn6 () κ ls _ _ _ _ hl hw hH
      · have hw := hw.2.2.2.2.2.2.2.2.1 zt
        have hoff : (#[68, 75, 81, 88, 95, 130, 130, 130, 102, 130, 109, 116, 123] : Array Int)[(z1.toInt - 6).toNat]? = some 130 := by rw [zt]; rfl
        refine lv_tableIn (off := 130) (tgt := 134) hx hb dX11_performOnFile_4 (fun q => ho (Or.inl q)) (fun q => ho (Or.inr q)) hoff rfl ?_
        have hl : lv_has ls 3 [] := lv_sub hl [] rfl
        exact jn6 () κ ls _ _ _ _ hl hw hH
      · have hw := hw.2.2.2.2.2.2.2.2.2.1 zt
        have hoff : (#[68, 75, 81, 88, 95, 130, 130, 130, 102, 130, 109, 116, 123] : Array Int)[(z1.toInt - 6).toNat]? = some 102 := by rw [zt]; rfl
        refine lv_tableIn (off := 102) (tgt := 106) hx hb dX11_performOnFile_4 (fun q => ho (Or.inl q)) (fun q => ho (Or.inr q)) hoff rfl ?_
        refine lv_aload_n hx hb dX11_performOnFile_106 rfl (lv_at hl 0 rfl) ?_
        refine w_aloadq_n hF dX11_performOnFile_107 rfl (lv_at hl 1 rfl) ?_
        refine w_aloadq_n hF dX11_performOnFile_108 rfl (lv_at hl 2 rfl) ?_
        refine cw_cVi (b := h) (As := [va_rf a1, va_rf a2]) (rest := []) hF hH hA hE mv_X11_469 ci_X11 (by decide) (fun sz => c_X11_queryDirectory l D t G _ h a1 a2 _ hw.2 sz) dX11_performOnFile_109 hw.1 ⟨Nat.le_of_ble_eq_true rfl, Nat.le_of_ble_eq_true rfl⟩ rfl hl.1 (Nat.le_of_ble_eq_true rfl) rfl (fun z18 κ17 H locs cells slots hw hH => ?_)
        exact cw_reti hF hH ⟨rfl, rfl⟩ hr rfl hlk dX11_performOnFile_112 hw
      · have hw := hw.2.2.2.2.2.2.2.2.2.2.1 zt
        have hoff : (#[68, 75, 81, 88, 95, 130, 130, 130, 102, 130, 109, 116, 123] : Array Int)[(z1.toInt - 6).toNat]? = some 130 := by rw [zt]; rfl
        refine lv_tableIn (off := 130) (tgt := 134) hx hb dX11_performOnFile_4 (fun q => ho (Or.inl q)) (fun q => ho (Or.inr q)) hoff rfl ?_
        have hl : lv_has ls 3 [] := lv_sub hl [] rfl
        exact jn6 () κ ls _ _ _ _ hl hw hH
      · have hw := hw.2.2.2.2.2.2.2.2.2.2.2.1 zt
        have hoff : (#[68, 75, 81, 88, 95, 130, 130, 130, 102, 130, 109, 116, 123] : Array Int)[(z1.toInt - 6).toNat]? = some 109 := by rw [zt]; rfl
        refine lv_tableIn (off := 109) (tgt := 113) hx hb dX11_performOnFile_4 (fun q => ho (Or.inl q)) (fun q => ho (Or.inr q)) hoff rfl ?_
        refine lv_aload_n hx hb dX11_performOnFile_113 rfl (lv_at hl 0 rfl) ?_
        refine w_aloadq_n hF dX11_performOnFile_114 rfl (lv_at hl 1 rfl) ?_
        refine w_aloadq_n hF dX11_performOnFile_115 rfl (lv_at hl 2 rfl) ?_
        refine cw_cVi (b := h) (As := [va_rf a1, va_rf a2]) (rest := []) hF hH hA hE mv_X11_472 ci_X11 (by decide) (fun sz => c_X11_queryInfo l D t G _ h a1 a2 _ hw.2 sz) dX11_performOnFile_116 hw.1 ⟨Nat.le_of_ble_eq_true rfl, Nat.le_of_ble_eq_true rfl⟩ rfl hl.1 (Nat.le_of_ble_eq_true rfl) rfl (fun z20 κ19 H locs cells slots hw hH => ?_)
        exact cw_reti hF hH ⟨rfl, rfl⟩ hr rfl hlk dX11_performOnFile_119 hw
      · have hw := hw.2.2.2.2.2.2.2.2.2.2.2.2.1 zt
        have hoff : (#[68, 75, 81, 88, 95, 130, 130, 130, 102, 130, 109, 116, 123] : Array Int)[(z1.toInt - 6).toNat]? = some 116 := by rw [zt]; rfl
        refine lv_tableIn (off := 116) (tgt := 120) hx hb dX11_performOnFile_4 (fun q => ho (Or.inl q)) (fun q => ho (Or.inr q)) hoff rfl ?_
        refine lv_aload_n hx hb dX11_performOnFile_120 rfl (lv_at hl 0 rfl) ?_
        refine w_aloadq_n hF dX11_performOnFile_121 rfl (lv_at hl 1 rfl) ?_
        refine w_aloadq_n hF dX11_performOnFile_122 rfl (lv_at hl 2 rfl) ?_
        refine cw_cVi (b := h) (As := [va_rf a1, va_rf a2]) (rest := []) hF hH hA hE mv_X11_475 ci_X11 (by decide) (fun sz => c_X11_setInfo l D t G _ h a1 a2 _ hw.2 sz) dX11_performOnFile_123 hw.1 ⟨Nat.le_of_ble_eq_true rfl, Nat.le_of_ble_eq_true rfl⟩ rfl hl.1 (Nat.le_of_ble_eq_true rfl) rfl (fun z22 κ21 H locs cells slots hw hH => ?_)
        exact cw_reti hF hH ⟨rfl, rfl⟩ hr rfl hlk dX11_performOnFile_126 hw
      · have hw := hw.2.2.2.2.2.2.2.2.2.2.2.2.2 zt
        have hoff : (#[68, 75, 81, 88, 95, 130, 130, 130, 102, 130, 109, 116, 123] : Array Int)[(z1.toInt - 6).toNat]? = some 123 := by rw [zt]; rfl
        refine lv_tableIn (off := 123) (tgt := 127) hx hb dX11_performOnFile_4 (fun q => ho (Or.inl q)) (fun q => ho (Or.inr q)) hoff rfl ?_
        refine lv_aload_n hx hb dX11_performOnFile_127 rfl (lv_at hl 0 rfl) ?_
        refine w_aloadq_n hF dX11_performOnFile_128 rfl (lv_at hl 1 rfl) ?_
        refine w_aloadq_n hF dX11_performOnFile_129 rfl (lv_at hl 2 rfl) ?_
        refine cw_cVi (b := h) (As := [va_rf a1, va_rf a2]) (rest := []) hF hH hA hE mv_X11_478 ci_X11 (by decide) (fun sz => c_X11_answerBreak l D t G _ h a1 a2 _ hw.2 sz) dX11_performOnFile_130 hw.1 ⟨Nat.le_of_ble_eq_true rfl, Nat.le_of_ble_eq_true rfl⟩ rfl hl.1 (Nat.le_of_ble_eq_true rfl) rfl (fun z24 κ23 H locs cells slots hw hH => ?_)
        exact cw_reti hF hH ⟨rfl, rfl⟩ hr rfl hlk dX11_performOnFile_133 hw
set_option maxRecDepth 100000 in
def F_X11_openOrWait (G : GE) (h : Nat) (a1 : Option Nat) (post : Int32 → CS → Prop) (κ : CS) : Prop := (h ∈ sL κ.1 ∧ sK κ.1 h = 1) ∧ ∀ z1 : Option Nat, z1 = sP κ.1 h 15 → (h ∈ sL κ.1 ∧ sK κ.1 h = 1) ∧ F_X11_tryOpen G h a1 z1 (fun (z3 : Int32) (κ2 : CS) => ((z3.toInt = (259 : Int32).toInt) → ∃ b : Nat, a1 = some b ∧ (b ∈ sL κ2.1 ∧ sK κ2.1 b = 8) ∧ F_X0_last G b  (fun (z5 : Int32) (κ4 : CS) => jc (fun (K8 : Int32 → CS → Prop) => ((z5.toInt = 0) → K8 (-1073741757) κ4) ∧ ((¬ z5.toInt = 0) → (h ∈ sL κ4.1 ∧ sK κ4.1 h = 1) ∧ F_X11_beginWaiting G h a1 (fun (z12 : Int32) (κ11 : CS) => K8 z12 κ11) κ4)) (fun (x6 : Int32) (κ7 : CS) => post x6 κ7)) κ2) ∧ ((¬ z3.toInt = (259 : Int32).toInt) → post z3 κ2)) κ
theorem dX11_openOrWait_0 : decode cX11_openOrWait 0 = .ok (.aload_n 0, 1) := by decide +kernel
theorem dX11_openOrWait_1 : decode cX11_openOrWait 1 = .ok (.aload_n 1, 1) := by decide +kernel
theorem dX11_openOrWait_2 : decode cX11_openOrWait 2 = .ok (.aload_n 0, 1) := by decide +kernel
theorem dX11_openOrWait_3 : decode cX11_openOrWait 3 = .ok (.getfield 68, 3) := by decide +kernel
theorem dX11_openOrWait_6 : decode cX11_openOrWait 6 = .ok (.invokevirtual 521, 3) := by decide +kernel
theorem dX11_openOrWait_9 : decode cX11_openOrWait 9 = .ok (.istore_n 2, 1) := by decide +kernel
theorem dX11_openOrWait_10 : decode cX11_openOrWait 10 = .ok (.iload_n 2, 1) := by decide +kernel
theorem dX11_openOrWait_11 : decode cX11_openOrWait 11 = .ok (.sipush 259, 3) := by decide +kernel
theorem dX11_openOrWait_14 : decode cX11_openOrWait 14 = .ok (.if_icmp .eq 5, 3) := by decide +kernel
theorem dX11_openOrWait_17 : decode cX11_openOrWait 17 = .ok (.iload_n 2, 1) := by decide +kernel
theorem dX11_openOrWait_18 : decode cX11_openOrWait 18 = .ok (.ireturn, 1) := by decide +kernel
theorem dX11_openOrWait_19 : decode cX11_openOrWait 19 = .ok (.aload_n 1, 1) := by decide +kernel
theorem dX11_openOrWait_20 : decode cX11_openOrWait 20 = .ok (.invokevirtual 307, 3) := by decide +kernel
theorem dX11_openOrWait_23 : decode cX11_openOrWait 23 = .ok (.ifCond .eq 11, 3) := by decide +kernel
theorem dX11_openOrWait_26 : decode cX11_openOrWait 26 = .ok (.aload_n 0, 1) := by decide +kernel
theorem dX11_openOrWait_27 : decode cX11_openOrWait 27 = .ok (.aload_n 1, 1) := by decide +kernel
theorem dX11_openOrWait_28 : decode cX11_openOrWait 28 = .ok (.invokevirtual 670, 3) := by decide +kernel
theorem dX11_openOrWait_31 : decode cX11_openOrWait 31 = .ok (.goto 6, 3) := by decide +kernel
theorem dX11_openOrWait_34 : decode cX11_openOrWait 34 = .ok (.ldc_w 673, 3) := by decide +kernel
theorem dX11_openOrWait_37 : decode cX11_openOrWait 37 = .ok (.ireturn, 1) := by decide +kernel
set_option maxRecDepth 100000 in
set_option maxHeartbeats 4000000 in
theorem c_X11_openOrWait (l : Launch) (D : va_G) (t : Nat → ClassId) (G : GE) (κ : CS) (h : Nat) (a1 : Option Nat) (post : Int32 → CS → Prop) (hw : F_X11_openOrWait G h a1 post κ) (sz : Nat) : CMi l D t yX11_openOrWait cX11_openOrWait 3 (some .int) 10 250 G κ sz [.ref h, va_rf a1] post := by
  refine c_go (by decide) (by cases a1 <;> exact Nat.le_of_ble_eq_true rfl) ?_
  intro p e s m below meth c ls A hF hr hlk hin hAe hH hA hE hl
  unfold cB
  rw [hAe]
  clear hAe
  have hF : FX p m c cX11_openOrWait 3 s _ RX11 D t := hF
  have hx := hF.1.1
  have hb := hF.1.2.1
  have hl : lv_has ls 3 [(0, .ref h), (1, va_rf a1)] := (by have h2 := hl; clear hw; revert h2; cases a1 <;> exact id)
  unfold F_X11_openOrWait at hw
  refine lv_aload_n hx hb dX11_openOrWait_0 rfl (lv_at hl 0 rfl) ?_
  refine w_aloadq_n hF dX11_openOrWait_1 rfl (lv_at hl 1 rfl) ?_
  refine lv_aload_n hx hb dX11_openOrWait_2 rfl (lv_at hl 0 rfl) ?_
  refine cw_getPr (a := h) hF hH fk_X11_68 dX11_openOrWait_3 hw (fun z1 hw => ?_)
  refine cw_cVi (b := h) (As := [va_rf a1, va_rf z1]) (rest := []) hF hH hA hE mv_X11_521 ci_X11 (by decide) (fun sz => c_X11_tryOpen l D t G _ h a1 z1 _ hw.2 sz) dX11_openOrWait_6 hw.1 ⟨Nat.le_of_ble_eq_true rfl, Nat.le_of_ble_eq_true rfl⟩ rfl hl.1 (Nat.le_of_ble_eq_true rfl) rfl (fun z3 κ2 H locs cells slots hw hH => ?_)
  refine lv_istore_n (lv' := [(2, .int z3), (0, .ref h), (1, va_rf a1)]) hx hb dX11_openOrWait_9 rfl hl (by decide) (by generalize a1 = y; cases y <;> rfl) (fun ls hl => ?_)
  refine lv_iload_n hx hb dX11_openOrWait_10 rfl (lv_at hl 0 rfl) ?_
  refine lv_sipush (v := 259) hx hb dX11_openOrWait_11 (by decide) ?_
  refine w_icmp_eq (tgt := 19) hF dX11_openOrWait_14 rfl hw (fun hw => ?_) (fun hw => ?_)
  · refine w_aloadq_n hF dX11_openOrWait_19 rfl (lv_at hl 2 rfl) ?_
    refine cw_cViq (q := a1) (As := []) (rest := []) hF hH hA hE mv_X11_307 ci_X0 (by decide) hw (fun b hw sz => c_X0_last l D t G _ b  _ hw sz) dX11_openOrWait_20 ⟨Nat.le_of_ble_eq_true rfl, Nat.le_of_ble_eq_true rfl⟩ rfl hl.1 (Nat.le_of_ble_eq_true rfl) rfl (fun z5 κ4 H locs cells slots hw hH => ?_)
    obtain ⟨K8, hK9, hw⟩ := jc_open hw
    refine cw_join (K := K8) 37 (fun (x6 : Int32) => []) (fun (x6 : Int32) => [.int x6]) hl hH (fun x6 κ7 ls H locs cells slots hl hw hH => ?_) (fun jn10 => ?_)
    · have hw := hK9 x6 κ7 hw
      have hl : lv_has ls 3 [] := hl
      exact cw_reti hF hH ⟨rfl, rfl⟩ hr rfl hlk dX11_openOrWait_37 hw
    · skip
      refine w_if_eq (tgt := 34) hF dX11_openOrWait_23 rfl hw (fun hw => ?_) (fun hw => ?_)
      · refine lv_ldcw (v := (-1073741757)) hx hb hF.1.2.2.2.1 (hF.1.2.2.2.2 _ (wc_22 31 rfl)) dX11_openOrWait_34 ?_
        have hl : lv_has ls 3 [] := lv_sub hl [] rfl
        exact jn10 (-1073741757) κ4 ls _ _ _ _ hl hw hH
      · refine lv_aload_n hx hb dX11_openOrWait_26 rfl (lv_at hl 1 rfl) ?_
        refine w_aloadq_n hF dX11_openOrWait_27 rfl (lv_at hl 2 rfl) ?_
        refine cw_cVi (b := h) (As := [va_rf a1]) (rest := []) hF hH hA hE mv_X11_670 ci_X11 (by decide) (fun sz => c_X11_beginWaiting l D t G _ h a1 _ hw.2 sz) dX11_openOrWait_28 hw.1 ⟨Nat.le_of_ble_eq_true rfl, Nat.le_of_ble_eq_true rfl⟩ rfl hl.1 (Nat.le_of_ble_eq_true rfl) rfl (fun z12 κ11 H locs cells slots hw hH => ?_)
        refine lv_goto (tgt := 37) hx hb dX11_openOrWait_31 rfl ?_
        have hl : lv_has ls 3 [] := lv_sub hl [] rfl
        exact jn10 z12 κ11 ls _ _ _ _ hl hw hH
  · refine lv_iload_n hx hb dX11_openOrWait_17 rfl (lv_at hl 0 rfl) ?_
    exact cw_reti hF hH ⟨rfl, rfl⟩ hr rfl hlk dX11_openOrWait_18 hw
set_option maxRecDepth 100000 in
def F_X11_negotiate (G : GE) (h : Nat) (a1 : Option Nat) (post : Int32 → CS → Prop) (κ : CS) : Prop := ∃ b : Nat, a1 = some b ∧ (b ∈ sL κ.1 ∧ sK κ.1 b = 8) ∧ F_X0_number G b 66 2 (fun (z2 : Int64) (κ1 : CS) => ∀ z3 : Int32, z3 = (z2 : Int64).toInt32 → jc (fun (K6 : Unit → CS → Prop) => ((z3.toInt = 0) → K6 () κ1) ∧ ((¬ z3.toInt = 0) → ∀ z9 : Int32, z9 = 2 * z3 → ∀ z10 : Int32, z10 = 100 + z9 → ∃ b : Nat, a1 = some b ∧ (b ∈ sL κ1.1 ∧ sK κ1.1 b = 8) ∧ ∀ z11 : Int32, z11 = sI κ1.1 b 2 → ((z10.toInt ≤ z11.toInt) → lc (fun (K14 : (Int32 × Int32) → CS → Prop) (x12 : Int32 × Int32) (κ13 : CS) => ((z3.toInt ≤ x12.1.toInt) → ((¬ x12.2.toInt = 0) → ∃ b : Nat, a1 = some b ∧ (b ∈ sL κ13.1 ∧ sK κ13.1 b = 8) ∧ ∀ z16 : Option Nat, z16 = sP κ13.1 b 0 → (0 ≤ (1 : Int32).toInt ∧ (1 : Int32).toInt ≤ 1) ∧ ∃ b : Nat, z16 = some b ∧ (b ∈ sL κ13.1 ∧ sK κ13.1 b = 3) ∧ ∀ κ17 : CS, κ17 = (h_uI κ13.1 b 1 1, κ13.2) → (h ∈ sL κ17.1 ∧ sK κ17.1 h = 1) ∧ ∀ z18 : Option Nat, z18 = sP κ17.1 h 15 → ∃ b : Nat, z18 = some b ∧ (b ∈ sL κ17.1 ∧ sK κ17.1 b = 2) ∧ F_X6_begin G b 129 (fun (κ19 : CS) => (h ∈ sL κ19.1 ∧ sK κ19.1 h = 1) ∧ ∀ z21 : Option Nat, z21 = sP κ19.1 h 15 → ∃ b : Nat, z21 = some b ∧ (b ∈ sL κ19.1 ∧ sK κ19.1 b = 2) ∧ F_X6_put G b 64 2 65 (fun (κ22 : CS) => (h ∈ sL κ22.1 ∧ sK κ22.1 h = 1) ∧ ∀ z24 : Option Nat, z24 = sP κ22.1 h 15 → ∃ b : Nat, z24 = some b ∧ (b ∈ sL κ22.1 ∧ sK κ22.1 b = 2) ∧ F_X6_put G b 66 2 1 (fun (κ25 : CS) => (h ∈ sL κ25.1 ∧ sK κ25.1 h = 1) ∧ ∀ z27 : Option Nat, z27 = sP κ25.1 h 15 → ∃ b : Nat, z27 = some b ∧ (b ∈ sL κ25.1 ∧ sK κ25.1 b = 2) ∧ F_X6_put G b 68 2 514 (fun (κ28 : CS) => (h ∈ sL κ28.1 ∧ sK κ28.1 h = 1) ∧ ∀ z30 : Option Nat, z30 = sP κ28.1 h 15 → ∃ b : Nat, z30 = some b ∧ (b ∈ sL κ28.1 ∧ sK κ28.1 b = 2) ∧ F_X6_put G b 92 4 1024 (fun (κ31 : CS) => (h ∈ sL κ31.1 ∧ sK κ31.1 h = 1) ∧ ∀ z33 : Option Nat, z33 = sP κ31.1 h 15 → ∃ b : Nat, z33 = some b ∧ (b ∈ sL κ31.1 ∧ sK κ31.1 b = 2) ∧ F_X6_put G b 96 4 1024 (fun (κ34 : CS) => (h ∈ sL κ34.1 ∧ sK κ34.1 h = 1) ∧ ∀ z36 : Option Nat, z36 = sP κ34.1 h 15 → ∃ b : Nat, z36 = some b ∧ (b ∈ sL κ34.1 ∧ sK κ34.1 b = 2) ∧ F_X6_put G b 100 4 1024 (fun (κ37 : CS) => (h ∈ sL κ37.1 ∧ sK κ37.1 h = 1) ∧ ∀ z39 : Option Nat, z39 = sP κ37.1 h 15 → (h ∈ sL κ37.1 ∧ sK κ37.1 h = 1) ∧ ∀ z40 : Int64, z40 = sJ κ37.1 h 7 → ∃ b : Nat, z39 = some b ∧ (b ∈ sL κ37.1 ∧ sK κ37.1 b = 2) ∧ F_X6_put G b 104 8 z40 (fun (κ41 : CS) => (h ∈ sL κ41.1 ∧ sK κ41.1 h = 1) ∧ ∀ z43 : Option Nat, z43 = sP κ41.1 h 15 → ∃ b : Nat, z43 = some b ∧ (b ∈ sL κ41.1 ∧ sK κ41.1 b = 2) ∧ F_X6_put G b 120 2 128 (fun (κ44 : CS) => post 0 κ44) κ41) κ37) κ34) κ31) κ28) κ25) κ22) κ19) κ17) ∧ ((x12.2.toInt = 0) → post (-1073741637) κ13)) ∧ ((x12.1.toInt < z3.toInt) → jc (fun (K48 : Int32 → CS → Prop) => jc (fun (K54 : Unit → CS → Prop) => ((¬ x12.2.toInt = 0) → K54 () κ13) ∧ ((x12.2.toInt = 0) → ∀ z57 : Int32, z57 = 2 * x12.1 → ∀ z58 : Int32, z58 = 100 + z57 → ∃ b : Nat, a1 = some b ∧ (b ∈ sL κ13.1 ∧ sK κ13.1 b = 8) ∧ F_X0_number G b z58 2 (fun (z60 : Int64) (κ59 : CS) => ((¬ z60.toInt = (514 : Int64).toInt) → K48 0 κ59) ∧ ((z60.toInt = (514 : Int64).toInt) → K54 () κ59)) κ13)) (fun (x52 : Unit) (κ53 : CS) => K48 1 κ53)) (fun (x46 : Int32) (κ47 : CS) => ∀ z51 : Int32, z51 = x12.1 + 1 → K14 (z51, x46) κ47))) (0, 0) κ1) ∧ ((z11.toInt < z10.toInt) → K6 () κ1))) (fun (x4 : Unit) (κ5 : CS) => post (-1073741811) κ5)) κ
theorem dX11_negotiate_0 : decode cX11_negotiate 0 = .ok (.aload_n 1, 1) := by decide +kernel
theorem dX11_negotiate_1 : decode cX11_negotiate 1 = .ok (.bipush 66, 2) := by decide +kernel
theorem dX11_negotiate_3 : decode cX11_negotiate 3 = .ok (.iconst 2, 1) := by decide +kernel
theorem dX11_negotiate_4 : decode cX11_negotiate 4 = .ok (.invokevirtual 394, 3) := by decide +kernel
theorem dX11_negotiate_7 : decode cX11_negotiate 7 = .ok (.l2i, 1) := by decide +kernel
theorem dX11_negotiate_8 : decode cX11_negotiate 8 = .ok (.istore_n 2, 1) := by decide +kernel
theorem dX11_negotiate_9 : decode cX11_negotiate 9 = .ok (.iload_n 2, 1) := by decide +kernel
theorem dX11_negotiate_10 : decode cX11_negotiate 10 = .ok (.ifCond .eq 16, 3) := by decide +kernel
theorem dX11_negotiate_13 : decode cX11_negotiate 13 = .ok (.bipush 100, 2) := by decide +kernel
theorem dX11_negotiate_15 : decode cX11_negotiate 15 = .ok (.iconst 2, 1) := by decide +kernel
theorem dX11_negotiate_16 : decode cX11_negotiate 16 = .ok (.iload_n 2, 1) := by decide +kernel
theorem dX11_negotiate_17 : decode cX11_negotiate 17 = .ok (.imul, 1) := by decide +kernel
theorem dX11_negotiate_18 : decode cX11_negotiate 18 = .ok (.iadd, 1) := by decide +kernel
theorem dX11_negotiate_19 : decode cX11_negotiate 19 = .ok (.aload_n 1, 1) := by decide +kernel
theorem dX11_negotiate_20 : decode cX11_negotiate 20 = .ok (.getfield 306, 3) := by decide +kernel
theorem dX11_negotiate_23 : decode cX11_negotiate 23 = .ok (.if_icmp .le 7, 3) := by decide +kernel
theorem dX11_negotiate_26 : decode cX11_negotiate 26 = .ok (.ldc_w 398, 3) := by decide +kernel
theorem dX11_negotiate_29 : decode cX11_negotiate 29 = .ok (.ireturn, 1) := by decide +kernel
theorem dX11_negotiate_30 : decode cX11_negotiate 30 = .ok (.iconst 0, 1) := by decide +kernel
theorem dX11_negotiate_31 : decode cX11_negotiate 31 = .ok (.istore_n 3, 1) := by decide +kernel
theorem dX11_negotiate_32 : decode cX11_negotiate 32 = .ok (.iconst 0, 1) := by decide +kernel
theorem dX11_negotiate_33 : decode cX11_negotiate 33 = .ok (.istore 4, 2) := by decide +kernel
theorem dX11_negotiate_35 : decode cX11_negotiate 35 = .ok (.iload 4, 2) := by decide +kernel
theorem dX11_negotiate_37 : decode cX11_negotiate 37 = .ok (.iload_n 2, 1) := by decide +kernel
theorem dX11_negotiate_38 : decode cX11_negotiate 38 = .ok (.if_icmp .ge 38, 3) := by decide +kernel
theorem dX11_negotiate_41 : decode cX11_negotiate 41 = .ok (.iload_n 3, 1) := by decide +kernel
theorem dX11_negotiate_42 : decode cX11_negotiate 42 = .ok (.ifCond .ne 22, 3) := by decide +kernel
theorem dX11_negotiate_45 : decode cX11_negotiate 45 = .ok (.aload_n 1, 1) := by decide +kernel
theorem dX11_negotiate_46 : decode cX11_negotiate 46 = .ok (.bipush 100, 2) := by decide +kernel
theorem dX11_negotiate_48 : decode cX11_negotiate 48 = .ok (.iconst 2, 1) := by decide +kernel
theorem dX11_negotiate_49 : decode cX11_negotiate 49 = .ok (.iload 4, 2) := by decide +kernel
theorem dX11_negotiate_51 : decode cX11_negotiate 51 = .ok (.imul, 1) := by decide +kernel
theorem dX11_negotiate_52 : decode cX11_negotiate 52 = .ok (.iadd, 1) := by decide +kernel
theorem dX11_negotiate_53 : decode cX11_negotiate 53 = .ok (.iconst 2, 1) := by decide +kernel
theorem dX11_negotiate_54 : decode cX11_negotiate 54 = .ok (.invokevirtual 394, 3) := by decide +kernel
theorem dX11_negotiate_57 : decode cX11_negotiate 57 = .ok (.ldc2_w 596, 3) := by decide +kernel
theorem dX11_negotiate_60 : decode cX11_negotiate 60 = .ok (.lcmp, 1) := by decide +kernel
theorem dX11_negotiate_61 : decode cX11_negotiate 61 = .ok (.ifCond .ne 7, 3) := by decide +kernel
theorem dX11_negotiate_64 : decode cX11_negotiate 64 = .ok (.iconst 1, 1) := by decide +kernel
theorem dX11_negotiate_65 : decode cX11_negotiate 65 = .ok (.goto 4, 3) := by decide +kernel
theorem dX11_negotiate_68 : decode cX11_negotiate 68 = .ok (.iconst 0, 1) := by decide +kernel
theorem dX11_negotiate_69 : decode cX11_negotiate 69 = .ok (.istore_n 3, 1) := by decide +kernel
theorem dX11_negotiate_70 : decode cX11_negotiate 70 = .ok (.iinc 4 1, 3) := by decide +kernel
theorem dX11_negotiate_73 : decode cX11_negotiate 73 = .ok (.goto (-38), 3) := by decide +kernel
theorem dX11_negotiate_76 : decode cX11_negotiate 76 = .ok (.iload_n 3, 1) := by decide +kernel
theorem dX11_negotiate_77 : decode cX11_negotiate 77 = .ok (.ifCond .ne 7, 3) := by decide +kernel
theorem dX11_negotiate_80 : decode cX11_negotiate 80 = .ok (.ldc_w 393, 3) := by decide +kernel
theorem dX11_negotiate_83 : decode cX11_negotiate 83 = .ok (.ireturn, 1) := by decide +kernel
theorem dX11_negotiate_84 : decode cX11_negotiate 84 = .ok (.aload_n 1, 1) := by decide +kernel
theorem dX11_negotiate_85 : decode cX11_negotiate 85 = .ok (.getfield 310, 3) := by decide +kernel
theorem dX11_negotiate_88 : decode cX11_negotiate 88 = .ok (.iconst 1, 1) := by decide +kernel
theorem dX11_negotiate_89 : decode cX11_negotiate 89 = .ok (.putfield 598, 3) := by decide +kernel
theorem dX11_negotiate_92 : decode cX11_negotiate 92 = .ok (.aload_n 0, 1) := by decide +kernel
theorem dX11_negotiate_93 : decode cX11_negotiate 93 = .ok (.getfield 68, 3) := by decide +kernel
theorem dX11_negotiate_96 : decode cX11_negotiate 96 = .ok (.sipush 129, 3) := by decide +kernel
theorem dX11_negotiate_99 : decode cX11_negotiate 99 = .ok (.invokevirtual 262, 3) := by decide +kernel
theorem dX11_negotiate_102 : decode cX11_negotiate 102 = .ok (.aload_n 0, 1) := by decide +kernel
theorem dX11_negotiate_103 : decode cX11_negotiate 103 = .ok (.getfield 68, 3) := by decide +kernel
theorem dX11_negotiate_106 : decode cX11_negotiate 106 = .ok (.bipush 64, 2) := by decide +kernel
theorem dX11_negotiate_108 : decode cX11_negotiate 108 = .ok (.iconst 2, 1) := by decide +kernel
theorem dX11_negotiate_109 : decode cX11_negotiate 109 = .ok (.ldc2_w 601, 3) := by decide +kernel
theorem dX11_negotiate_112 : decode cX11_negotiate 112 = .ok (.invokevirtual 349, 3) := by decide +kernel
theorem dX11_negotiate_115 : decode cX11_negotiate 115 = .ok (.aload_n 0, 1) := by decide +kernel
theorem dX11_negotiate_116 : decode cX11_negotiate 116 = .ok (.getfield 68, 3) := by decide +kernel
theorem dX11_negotiate_119 : decode cX11_negotiate 119 = .ok (.bipush 66, 2) := by decide +kernel
theorem dX11_negotiate_121 : decode cX11_negotiate 121 = .ok (.iconst 2, 1) := by decide +kernel
theorem dX11_negotiate_122 : decode cX11_negotiate 122 = .ok (.lconst 1, 1) := by decide +kernel
theorem dX11_negotiate_123 : decode cX11_negotiate 123 = .ok (.invokevirtual 349, 3) := by decide +kernel
theorem dX11_negotiate_126 : decode cX11_negotiate 126 = .ok (.aload_n 0, 1) := by decide +kernel
theorem dX11_negotiate_127 : decode cX11_negotiate 127 = .ok (.getfield 68, 3) := by decide +kernel
theorem dX11_negotiate_130 : decode cX11_negotiate 130 = .ok (.bipush 68, 2) := by decide +kernel
theorem dX11_negotiate_132 : decode cX11_negotiate 132 = .ok (.iconst 2, 1) := by decide +kernel
theorem dX11_negotiate_133 : decode cX11_negotiate 133 = .ok (.ldc2_w 596, 3) := by decide +kernel
theorem dX11_negotiate_136 : decode cX11_negotiate 136 = .ok (.invokevirtual 349, 3) := by decide +kernel
theorem dX11_negotiate_139 : decode cX11_negotiate 139 = .ok (.aload_n 0, 1) := by decide +kernel
theorem dX11_negotiate_140 : decode cX11_negotiate 140 = .ok (.getfield 68, 3) := by decide +kernel
theorem dX11_negotiate_143 : decode cX11_negotiate 143 = .ok (.bipush 92, 2) := by decide +kernel
theorem dX11_negotiate_145 : decode cX11_negotiate 145 = .ok (.iconst 4, 1) := by decide +kernel
theorem dX11_negotiate_146 : decode cX11_negotiate 146 = .ok (.ldc2_w 603, 3) := by decide +kernel
theorem dX11_negotiate_149 : decode cX11_negotiate 149 = .ok (.invokevirtual 349, 3) := by decide +kernel
theorem dX11_negotiate_152 : decode cX11_negotiate 152 = .ok (.aload_n 0, 1) := by decide +kernel
theorem dX11_negotiate_153 : decode cX11_negotiate 153 = .ok (.getfield 68, 3) := by decide +kernel
theorem dX11_negotiate_156 : decode cX11_negotiate 156 = .ok (.bipush 96, 2) := by decide +kernel
theorem dX11_negotiate_158 : decode cX11_negotiate 158 = .ok (.iconst 4, 1) := by decide +kernel
theorem dX11_negotiate_159 : decode cX11_negotiate 159 = .ok (.ldc2_w 603, 3) := by decide +kernel
theorem dX11_negotiate_162 : decode cX11_negotiate 162 = .ok (.invokevirtual 349, 3) := by decide +kernel
theorem dX11_negotiate_165 : decode cX11_negotiate 165 = .ok (.aload_n 0, 1) := by decide +kernel
theorem dX11_negotiate_166 : decode cX11_negotiate 166 = .ok (.getfield 68, 3) := by decide +kernel
theorem dX11_negotiate_169 : decode cX11_negotiate 169 = .ok (.bipush 100, 2) := by decide +kernel
theorem dX11_negotiate_171 : decode cX11_negotiate 171 = .ok (.iconst 4, 1) := by decide +kernel
theorem dX11_negotiate_172 : decode cX11_negotiate 172 = .ok (.ldc2_w 603, 3) := by decide +kernel
theorem dX11_negotiate_175 : decode cX11_negotiate 175 = .ok (.invokevirtual 349, 3) := by decide +kernel
theorem dX11_negotiate_178 : decode cX11_negotiate 178 = .ok (.aload_n 0, 1) := by decide +kernel
theorem dX11_negotiate_179 : decode cX11_negotiate 179 = .ok (.getfield 68, 3) := by decide +kernel
theorem dX11_negotiate_182 : decode cX11_negotiate 182 = .ok (.bipush 104, 2) := by decide +kernel
theorem dX11_negotiate_184 : decode cX11_negotiate 184 = .ok (.bipush 8, 2) := by decide +kernel
theorem dX11_negotiate_186 : decode cX11_negotiate 186 = .ok (.aload_n 0, 1) := by decide +kernel
theorem dX11_negotiate_187 : decode cX11_negotiate 187 = .ok (.getfield 157, 3) := by decide +kernel
theorem dX11_negotiate_190 : decode cX11_negotiate 190 = .ok (.invokevirtual 349, 3) := by decide +kernel
theorem dX11_negotiate_193 : decode cX11_negotiate 193 = .ok (.aload_n 0, 1) := by decide +kernel
theorem dX11_negotiate_194 : decode cX11_negotiate 194 = .ok (.getfield 68, 3) := by decide +kernel
theorem dX11_negotiate_197 : decode cX11_negotiate 197 = .ok (.bipush 120, 2) := by decide +kernel
theorem dX11_negotiate_199 : decode cX11_negotiate 199 = .ok (.iconst 2, 1) := by decide +kernel
theorem dX11_negotiate_200 : decode cX11_negotiate 200 = .ok (.ldc2_w 605, 3) := by decide +kernel
theorem dX11_negotiate_203 : decode cX11_negotiate 203 = .ok (.invokevirtual 349, 3) := by decide +kernel
theorem dX11_negotiate_206 : decode cX11_negotiate 206 = .ok (.iconst 0, 1) := by decide +kernel
theorem dX11_negotiate_207 : decode cX11_negotiate 207 = .ok (.ireturn, 1) := by decide +kernel
set_option maxRecDepth 100000 in
set_option maxHeartbeats 4000000 in
theorem c_X11_negotiate (l : Launch) (D : va_G) (t : Nat → ClassId) (G : GE) (κ : CS) (h : Nat) (a1 : Option Nat) (post : Int32 → CS → Prop) (hw : F_X11_negotiate G h a1 post κ) (sz : Nat) : CMi l D t yX11_negotiate cX11_negotiate 5 (some .int) 3 82 G κ sz [.ref h, va_rf a1] post := by
  refine c_go (by decide) (by cases a1 <;> exact Nat.le_of_ble_eq_true rfl) ?_
  intro p e s m below meth c ls A hF hr hlk hin hAe hH hA hE hl
  unfold cB
  rw [hAe]
  clear hAe
  have hF : FX p m c cX11_negotiate 5 s _ RX11 D t := hF
  have hx := hF.1.1
  have hb := hF.1.2.1
  have hl : lv_has ls 5 [(0, .ref h), (1, va_rf a1)] := (by have h2 := hl; clear hw; revert h2; cases a1 <;> exact id)
  unfold F_X11_negotiate at hw
  refine w_aloadq_n hF dX11_negotiate_0 rfl (lv_at hl 1 rfl) ?_
  refine lv_bipush (v := 66) hx hb dX11_negotiate_1 (by decide) ?_
  refine lv_iconst (v := 2) hx hb dX11_negotiate_3 (by decide) ?_
  refine cw_cVlq (q := a1) (As := [.int 66, .int 2]) (rest := []) hF hH hA hE mv_X11_394 ci_X0 (by decide) hw (fun b hw sz => c_X0_number l D t G _ b 66 2 _ hw sz) dX11_negotiate_4 ⟨Nat.le_of_ble_eq_true rfl, Nat.le_of_ble_eq_true rfl⟩ rfl hl.1 (Nat.le_of_ble_eq_true rfl) rfl (fun z2 κ1 H locs cells slots hw hH => ?_)
  refine lv_l2i hx hb dX11_negotiate_7 rfl ?_
  refine w_nmi hw (fun z3 hw => ?_)
  refine lv_istore_n (lv' := [(2, .int z3), (0, .ref h), (1, va_rf a1)]) hx hb dX11_negotiate_8 rfl hl (by decide) (by generalize a1 = y; cases y <;> rfl) (fun ls hl => ?_)
  refine lv_iload_n hx hb dX11_negotiate_9 rfl (lv_at hl 0 rfl) ?_
  obtain ⟨K6, hK7, hw⟩ := jc_open hw
  refine cw_join (K := K6) 26 (fun (x4 : Unit) => []) (fun (x4 : Unit) => []) hl hH (fun x4 κ5 ls H locs cells slots hl hw hH => ?_) (fun jn8 => ?_)
  · have hw := hK7 x4 κ5 hw
    have hl : lv_has ls 5 [] := hl
    refine lv_ldcw (v := (-1073741811)) hx hb hF.1.2.2.2.1 (hF.1.2.2.2.2 _ (wc_16 24 rfl)) dX11_negotiate_26 ?_
    exact cw_reti hF hH ⟨rfl, rfl⟩ hr rfl hlk dX11_negotiate_29 hw
  · skip
    refine w_if_eq (tgt := 26) hF dX11_negotiate_10 rfl hw (fun hw => ?_) (fun hw => ?_)
    · have hl : lv_has ls 5 [] := lv_sub hl [] rfl
      exact jn8 () κ1 ls _ _ _ _ hl hw hH
    · refine lv_bipush (v := 100) hx hb dX11_negotiate_13 (by decide) ?_
      refine lv_iconst (v := 2) hx hb dX11_negotiate_15 (by decide) ?_
      refine lv_iload_n hx hb dX11_negotiate_16 rfl (lv_at hl 0 rfl) ?_
      refine lv_imul hx hb dX11_negotiate_17 ?_
      refine w_nmi hw (fun z9 hw => ?_)
      refine lv_iadd hx hb dX11_negotiate_18 ?_
      refine w_nmi hw (fun z10 hw => ?_)
      refine w_aloadq_n hF dX11_negotiate_19 rfl (lv_at hl 2 rfl) ?_
      refine cw_getI (q := a1) hF hH fk_X11_306 dX11_negotiate_20 hw (fun z11 hw => ?_)
      refine w_icmp_le (tgt := 30) hF dX11_negotiate_23 rfl hw (fun hw => ?_) (fun hw => ?_)
      · refine lv_iconst (v := 0) hx hb dX11_negotiate_30 (by decide) ?_
        refine lv_istore_n (lv' := [(3, .int 0), (2, .int z3), (0, .ref h), (1, va_rf a1)]) hx hb dX11_negotiate_31 rfl hl (by decide) rfl (fun ls hl => ?_)
        refine lv_iconst (v := 0) hx hb dX11_negotiate_32 (by decide) ?_
        refine lv_istore (lv' := [(4, .int 0), (3, .int 0), (2, .int z3), (0, .ref h), (1, va_rf a1)]) hx hb dX11_negotiate_33 hl (by decide) rfl (fun ls hl => ?_)
        have hl : lv_has ls 5 [(4, .int 0), (3, .int 0), (2, .int z3), (1, va_rf a1), (0, .ref h)] := lv_sub hl [0, 1, 2, 4, 3] rfl
        refine cw_loop (β := Int32 × Int32) (fun x12 => [(4, .int x12.1), (3, .int x12.2), (2, .int z3), (1, va_rf a1), (0, .ref h)]) (0, 0) hl hw hH (fun K14 x12 κ13 ls H locs cells slots hl hw hH ih15 => ?_)
        have hl : lv_has ls 5 [(4, .int x12.1), (3, .int x12.2), (2, .int z3), (1, va_rf a1), (0, .ref h)] := hl
        refine lv_iload hx hb dX11_negotiate_35 (lv_at hl 0 rfl) ?_
        refine lv_iload_n hx hb dX11_negotiate_37 rfl (lv_at hl 2 rfl) ?_
        refine w_icmp_ge (tgt := 76) hF dX11_negotiate_38 rfl hw (fun hw => ?_) (fun hw => ?_)
        · refine lv_iload_n hx hb dX11_negotiate_76 rfl (lv_at hl 1 rfl) ?_
          refine w_if_ne (tgt := 84) hF dX11_negotiate_77 rfl hw (fun hw => ?_) (fun hw => ?_)
          · refine w_aloadq_n hF dX11_negotiate_84 rfl (lv_at hl 3 rfl) ?_
            refine cw_getP (q := a1) hF hH fk_X11_310 dX11_negotiate_85 hw (fun z16 hw => ?_)
            refine lv_iconst (v := 1) hx hb dX11_negotiate_88 (by decide) ?_
            refine cw_putZ (q := z16) (v := 1) hF hH fk_X11_598 dX11_negotiate_89 rfl rfl hw (fun κ17 H locs cells slots hw hH => ?_)
            refine lv_aload_n hx hb dX11_negotiate_92 rfl (lv_at hl 4 rfl) ?_
            refine cw_getPr (a := h) hF hH fk_X11_68 dX11_negotiate_93 hw (fun z18 hw => ?_)
            refine lv_sipush (v := 129) hx hb dX11_negotiate_96 (by decide) ?_
            refine cw_cVvq (q := z18) (As := [.int 129]) (rest := []) hF hH hA hE mv_X11_262 ci_X6 (by decide) hw (fun b hw sz => c_X6_begin l D t G _ b 129 _ hw sz) dX11_negotiate_99 ⟨Nat.le_of_ble_eq_true rfl, Nat.le_of_ble_eq_true rfl⟩ rfl hl.1 (Nat.le_of_ble_eq_true rfl) rfl (fun κ19 H locs cells slots hw hH => ?_)
            refine lv_aload_n hx hb dX11_negotiate_102 rfl (lv_at hl 4 rfl) ?_
            refine cw_getPr (a := h) hF hH fk_X11_68 dX11_negotiate_103 hw (fun z21 hw => ?_)
            refine lv_bipush (v := 64) hx hb dX11_negotiate_106 (by decide) ?_
            refine lv_iconst (v := 2) hx hb dX11_negotiate_108 (by decide) ?_
            refine lv_ldc2 (v := 65) hx hb hF.1.2.2.2.1 (hF.1.2.2.2.2 _ (wc_38 2 rfl)) dX11_negotiate_109 ?_
            refine cw_cVvq (q := z21) (As := [.int 64, .int 2, .long 65]) (rest := []) hF hH hA hE mv_X11_349 ci_X6 (by decide) hw (fun b hw sz => c_X6_put l D t G _ b 64 2 65 _ hw sz) dX11_negotiate_112 ⟨Nat.le_of_ble_eq_true rfl, Nat.le_of_ble_eq_true rfl⟩ rfl hl.1 (Nat.le_of_ble_eq_true rfl) rfl (fun κ22 H locs cells slots hw hH => ?_)
            refine lv_aload_n hx hb dX11_negotiate_115 rfl (lv_at hl 4 rfl) ?_
            refine cw_getPr (a := h) hF hH fk_X11_68 dX11_negotiate_116 hw (fun z24 hw => ?_)
            refine lv_bipush (v := 66) hx hb dX11_negotiate_119 (by decide) ?_
            refine lv_iconst (v := 2) hx hb dX11_negotiate_121 (by decide) ?_
            refine lv_lconst (v := 1) hx hb dX11_negotiate_122 (by decide) ?_
            refine cw_cVvq (q := z24) (As := [.int 66, .int 2, .long 1]) (rest := []) hF hH hA hE mv_X11_349 ci_X6 (by decide) hw (fun b hw sz => c_X6_put l D t G _ b 66 2 1 _ hw sz) dX11_negotiate_123 ⟨Nat.le_of_ble_eq_true rfl, Nat.le_of_ble_eq_true rfl⟩ rfl hl.1 (Nat.le_of_ble_eq_true rfl) rfl (fun κ25 H locs cells slots hw hH => ?_)
            refine lv_aload_n hx hb dX11_negotiate_126 rfl (lv_at hl 4 rfl) ?_
            refine cw_getPr (a := h) hF hH fk_X11_68 dX11_negotiate_127 hw (fun z27 hw => ?_)
            refine lv_bipush (v := 68) hx hb dX11_negotiate_130 (by decide) ?_
            refine lv_iconst (v := 2) hx hb dX11_negotiate_132 (by decide) ?_
            refine lv_ldc2 (v := 514) hx hb hF.1.2.2.2.1 (hF.1.2.2.2.2 _ (wc_38 1 rfl)) dX11_negotiate_133 ?_
            refine cw_cVvq (q := z27) (As := [.int 68, .int 2, .long 514]) (rest := []) hF hH hA hE mv_X11_349 ci_X6 (by decide) hw (fun b hw sz => c_X6_put l D t G _ b 68 2 514 _ hw sz) dX11_negotiate_136 ⟨Nat.le_of_ble_eq_true rfl, Nat.le_of_ble_eq_true rfl⟩ rfl hl.1 (Nat.le_of_ble_eq_true rfl) rfl (fun κ28 H locs cells slots hw hH => ?_)
            refine lv_aload_n hx hb dX11_negotiate_139 rfl (lv_at hl 4 rfl) ?_
            refine cw_getPr (a := h) hF hH fk_X11_68 dX11_negotiate_140 hw (fun z30 hw => ?_)
            refine lv_bipush (v := 92) hx hb dX11_negotiate_143 (by decide) ?_
            refine lv_iconst (v := 4) hx hb dX11_negotiate_145 (by decide) ?_
            refine lv_ldc2 (v := 1024) hx hb hF.1.2.2.2.1 (hF.1.2.2.2.2 _ (wc_31 12 rfl)) dX11_negotiate_146 ?_
            refine cw_cVvq (q := z30) (As := [.int 92, .int 4, .long 1024]) (rest := []) hF hH hA hE mv_X11_349 ci_X6 (by decide) hw (fun b hw sz => c_X6_put l D t G _ b 92 4 1024 _ hw sz) dX11_negotiate_149 ⟨Nat.le_of_ble_eq_true rfl, Nat.le_of_ble_eq_true rfl⟩ rfl hl.1 (Nat.le_of_ble_eq_true rfl) rfl (fun κ31 H locs cells slots hw hH => ?_)
            refine lv_aload_n hx hb dX11_negotiate_152 rfl (lv_at hl 4 rfl) ?_
            refine cw_getPr (a := h) hF hH fk_X11_68 dX11_negotiate_153 hw (fun z33 hw => ?_)
            refine lv_bipush (v := 96) hx hb dX11_negotiate_156 (by decide) ?_
            refine lv_iconst (v := 4) hx hb dX11_negotiate_158 (by decide) ?_
            refine lv_ldc2 (v := 1024) hx hb hF.1.2.2.2.1 (hF.1.2.2.2.2 _ (wc_31 12 rfl)) dX11_negotiate_159 ?_
            refine cw_cVvq (q := z33) (As := [.int 96, .int 4, .long 1024]) (rest := []) hF hH hA hE mv_X11_349 ci_X6 (by decide) hw (fun b hw sz => c_X6_put l D t G _ b 96 4 1024 _ hw sz) dX11_negotiate_162 ⟨Nat.le_of_ble_eq_true rfl, Nat.le_of_ble_eq_true rfl⟩ rfl hl.1 (Nat.le_of_ble_eq_true rfl) rfl (fun κ34 H locs cells slots hw hH => ?_)
            refine lv_aload_n hx hb dX11_negotiate_165 rfl (lv_at hl 4 rfl) ?_
            refine cw_getPr (a := h) hF hH fk_X11_68 dX11_negotiate_166 hw (fun z36 hw => ?_)
            refine lv_bipush (v := 100) hx hb dX11_negotiate_169 (by decide) ?_
            refine lv_iconst (v := 4) hx hb dX11_negotiate_171 (by decide) ?_
            refine lv_ldc2 (v := 1024) hx hb hF.1.2.2.2.1 (hF.1.2.2.2.2 _ (wc_31 12 rfl)) dX11_negotiate_172 ?_
            refine cw_cVvq (q := z36) (As := [.int 100, .int 4, .long 1024]) (rest := []) hF hH hA hE mv_X11_349 ci_X6 (by decide) hw (fun b hw sz => c_X6_put l D t G _ b 100 4 1024 _ hw sz) dX11_negotiate_175 ⟨Nat.le_of_ble_eq_true rfl, Nat.le_of_ble_eq_true rfl⟩ rfl hl.1 (Nat.le_of_ble_eq_true rfl) rfl (fun κ37 H locs cells slots hw hH => ?_)
            refine lv_aload_n hx hb dX11_negotiate_178 rfl (lv_at hl 4 rfl) ?_
            refine cw_getPr (a := h) hF hH fk_X11_68 dX11_negotiate_179 hw (fun z39 hw => ?_)
            refine lv_bipush (v := 104) hx hb dX11_negotiate_182 (by decide) ?_
            refine lv_bipush (v := 8) hx hb dX11_negotiate_184 (by decide) ?_
            refine lv_aload_n hx hb dX11_negotiate_186 rfl (lv_at hl 4 rfl) ?_
            refine cw_getJr (a := h) hF hH fk_X11_157 dX11_negotiate_187 hw (fun z40 hw => ?_)
            refine cw_cVvq (q := z39) (As := [.int 104, .int 8, .long z40]) (rest := []) hF hH hA hE mv_X11_349 ci_X6 (by decide) hw (fun b hw sz => c_X6_put l D t G _ b 104 8 z40 _ hw sz) dX11_negotiate_190 ⟨Nat.le_of_ble_eq_true rfl, Nat.le_of_ble_eq_true rfl⟩ rfl hl.1 (Nat.le_of_ble_eq_true rfl) rfl (fun κ41 H locs cells slots hw hH => ?_)
            refine lv_aload_n hx hb dX11_negotiate_193 rfl (lv_at hl 4 rfl) ?_
            refine cw_getPr (a := h) hF hH fk_X11_68 dX11_negotiate_194 hw (fun z43 hw => ?_)
            refine lv_bipush (v := 120) hx hb dX11_negotiate_197 (by decide) ?_
            refine lv_iconst (v := 2) hx hb dX11_negotiate_199 (by decide) ?_
            refine lv_ldc2 (v := 128) hx hb hF.1.2.2.2.1 (hF.1.2.2.2.2 _ (wc_38 3 rfl)) dX11_negotiate_200 ?_
            refine cw_cVvq (q := z43) (As := [.int 120, .int 2, .long 128]) (rest := []) hF hH hA hE mv_X11_349 ci_X6 (by decide) hw (fun b hw sz => c_X6_put l D t G _ b 120 2 128 _ hw sz) dX11_negotiate_203 ⟨Nat.le_of_ble_eq_true rfl, Nat.le_of_ble_eq_true rfl⟩ rfl hl.1 (Nat.le_of_ble_eq_true rfl) rfl (fun κ44 H locs cells slots hw hH => ?_)
            refine lv_iconst (v := 0) hx hb dX11_negotiate_206 (by decide) ?_
            exact cw_reti hF hH ⟨rfl, rfl⟩ hr rfl hlk dX11_negotiate_207 hw
          · refine lv_ldcw (v := (-1073741637)) hx hb hF.1.2.2.2.1 (hF.1.2.2.2.2 _ (wc_26 29 rfl)) dX11_negotiate_80 ?_
            exact cw_reti hF hH ⟨rfl, rfl⟩ hr rfl hlk dX11_negotiate_83 hw
        · refine lv_iload_n hx hb dX11_negotiate_41 rfl (lv_at hl 1 rfl) ?_
          obtain ⟨K48, hK49, hw⟩ := jc_open hw
          refine cw_join (K := K48) 69 (fun (x46 : Int32) => [(4, .int x12.1), (2, .int z3), (1, va_rf a1), (0, .ref h)]) (fun (x46 : Int32) => [.int x46]) hl hH (fun x46 κ47 ls H locs cells slots hl hw hH => ?_) (fun jn50 => ?_)
          · have hw := hK49 x46 κ47 hw
            have hl : lv_has ls 5 [(4, .int x12.1), (2, .int z3), (1, va_rf a1), (0, .ref h)] := hl
            refine lv_istore_n (lv' := [(3, .int x46), (4, .int x12.1), (2, .int z3), (1, va_rf a1), (0, .ref h)]) hx hb dX11_negotiate_69 rfl hl (by decide) rfl (fun ls hl => ?_)
            obtain ⟨z51, ez51⟩ : ∃ z : Int32, z = x12.1 + 1 := ⟨_, rfl⟩
            have hw := hw z51 ez51
            refine lv_iinc (lv' := [(4, .int z51), (3, .int x46), (2, .int z3), (1, va_rf a1), (0, .ref h)]) (k := 1) (v := z51) hx hb dX11_negotiate_70 hl rfl ez51.symm (by decide) rfl (fun ls hl => ?_)
            refine lv_goto (tgt := 35) hx hb dX11_negotiate_73 rfl ?_
            exact ih15 (z51, x46) κ47 ls _ _ _ _ hl hw hH
          · skip
            obtain ⟨K54, hK55, hw⟩ := jc_open hw
            refine cw_join (K := K54) 64 (fun (x52 : Unit) => [(4, .int x12.1), (2, .int z3), (1, va_rf a1), (0, .ref h)]) (fun (x52 : Unit) => []) hl hH (fun x52 κ53 ls H locs cells slots hl hw hH => ?_) (fun jn56 => ?_)
            · have hw := hK55 x52 κ53 hw
              have hl : lv_has ls 5 [(4, .int x12.1), (2, .int z3), (1, va_rf a1), (0, .ref h)] := hl
              refine lv_iconst (v := 1) hx hb dX11_negotiate_64 (by decide) ?_
              refine lv_goto (tgt := 69) hx hb dX11_negotiate_65 rfl ?_
              exact jn50 1 κ53 ls _ _ _ _ hl hw hH
            · skip
              refine w_if_ne (tgt := 64) hF dX11_negotiate_42 rfl hw (fun hw => ?_) (fun hw => ?_)
              · have hl : lv_has ls 5 [(4, .int x12.1), (2, .int z3), (1, va_rf a1), (0, .ref h)] := lv_sub hl [0, 2, 3, 4] rfl
                exact jn56 () κ13 ls _ _ _ _ hl hw hH
              · refine w_aloadq_n hF dX11_negotiate_45 rfl (lv_at hl 3 rfl) ?_
                refine lv_bipush (v := 100) hx hb dX11_negotiate_46 (by decide) ?_
                refine lv_iconst (v := 2) hx hb dX11_negotiate_48 (by decide) ?_
                refine lv_iload hx hb dX11_negotiate_49 (lv_at hl 0 rfl) ?_
                refine lv_imul hx hb dX11_negotiate_51 ?_
                refine w_nmi hw (fun z57 hw => ?_)
                refine lv_iadd hx hb dX11_negotiate_52 ?_
                refine w_nmi hw (fun z58 hw => ?_)
                refine lv_iconst (v := 2) hx hb dX11_negotiate_53 (by decide) ?_
                refine cw_cVlq (q := a1) (As := [.int z58, .int 2]) (rest := []) hF hH hA hE mv_X11_394 ci_X0 (by decide) hw (fun b hw sz => c_X0_number l D t G _ b z58 2 _ hw sz) dX11_negotiate_54 ⟨Nat.le_of_ble_eq_true rfl, Nat.le_of_ble_eq_true rfl⟩ rfl hl.1 (Nat.le_of_ble_eq_true rfl) rfl (fun z60 κ59 H locs cells slots hw hH => ?_)
                refine lv_ldc2 (v := 514) hx hb hF.1.2.2.2.1 (hF.1.2.2.2.2 _ (wc_38 1 rfl)) dX11_negotiate_57 ?_
                refine w_lif_ne (tgt := 68) hF dX11_negotiate_60 dX11_negotiate_61 rfl hw (fun hw => ?_) (fun hw => ?_)
                · refine lv_iconst (v := 0) hx hb dX11_negotiate_68 (by decide) ?_
                  have hl : lv_has ls 5 [(4, .int x12.1), (2, .int z3), (1, va_rf a1), (0, .ref h)] := lv_sub hl [0, 2, 3, 4] rfl
                  exact jn50 0 κ59 ls _ _ _ _ hl hw hH
                · have hl : lv_has ls 5 [(4, .int x12.1), (2, .int z3), (1, va_rf a1), (0, .ref h)] := lv_sub hl [0, 2, 3, 4] rfl
                  exact jn56 () κ59 ls _ _ _ _ hl hw hH
      · have hl : lv_has ls 5 [] := lv_sub hl [] rfl
        exact jn8 () κ1 ls _ _ _ _ hl hw hH
set_option maxRecDepth 100000 in
def F_X11_setUp (G : GE) (h : Nat) (a1 : Option Nat) (post : Int32 → CS → Prop) (κ : CS) : Prop := (h ∈ sL κ.1 ∧ sK κ.1 h = 1) ∧ ∀ z1 : Option Nat, z1 = sP κ.1 h 8 → ∃ b : Nat, z1 = some b ∧ (b ∈ sL κ.1 ∧ sK κ.1 b = 7) ∧ F_Jx4a65c_size_8abf5 G b  (fun (z3 : Int32) (κ2 : CS) => ((z3.toInt < (8 : Int32).toInt) → (5 + 12 ≤ κ2.2) ∧ ∀ o4 : Nat, o4 ∉ sL κ2.1 → ∀ κ5 : CS, κ5 = (h_uN κ2.1 o4 11 0, κ2.2 - (5 + 12)) → (h ∈ sL κ5.1 ∧ sK κ5.1 h = 1) ∧ F_X11_nextSerial G h 0 (fun (z7 : Int64) (κ6 : CS) => F_X7_init G o4 z7 a1 (fun (κ8 : CS) => (h ∈ sL κ8.1 ∧ sK κ8.1 h = 1) ∧ ∀ z10 : Option Nat, z10 = sP κ8.1 h 8 → ∃ b : Nat, z10 = some b ∧ (b ∈ sL κ8.1 ∧ sK κ8.1 b = 7) ∧ F_Jx4a65c_add_9ea2d G b (some o4) (fun (z12 : Int32) (κ11 : CS) => (o4 ∈ sL κ11.1 ∧ sK κ11.1 o4 = 11) ∧ ∀ z13 : Int64, z13 = sJ κ11.1 o4 0 → ∃ b : Nat, a1 = some b ∧ (b ∈ sL κ11.1 ∧ sK κ11.1 b = 8) ∧ ∀ κ14 : CS, κ14 = (h_uJ κ11.1 b 11 z13, κ11.2) → (h ∈ sL κ14.1 ∧ sK κ14.1 h = 1) ∧ ∀ z15 : Option Nat, z15 = sP κ14.1 h 15 → ∃ b : Nat, z15 = some b ∧ (b ∈ sL κ14.1 ∧ sK κ14.1 b = 2) ∧ F_X6_begin G b 73 (fun (κ16 : CS) => (h ∈ sL κ16.1 ∧ sK κ16.1 h = 1) ∧ ∀ z18 : Option Nat, z18 = sP κ16.1 h 15 → ∃ b : Nat, z18 = some b ∧ (b ∈ sL κ16.1 ∧ sK κ16.1 b = 2) ∧ F_X6_put G b 64 2 9 (fun (κ19 : CS) => (h ∈ sL κ19.1 ∧ sK κ19.1 h = 1) ∧ ∀ z21 : Option Nat, z21 = sP κ19.1 h 15 → ∃ b : Nat, z21 = some b ∧ (b ∈ sL κ19.1 ∧ sK κ19.1 b = 2) ∧ F_X6_put G b 68 2 72 (fun (κ22 : CS) => post 0 κ22) κ19) κ16) κ14) κ8) κ6) κ5) ∧ (((8 : Int32).toInt ≤ z3.toInt) → post (-1073741670) κ2)) κ
theorem dX11_setUp_0 : decode cX11_setUp 0 = .ok (.aload_n 0, 1) := by decide +kernel
theorem dX11_setUp_1 : decode cX11_setUp 1 = .ok (.getfield 45, 3) := by decide +kernel
theorem dX11_setUp_4 : decode cX11_setUp 4 = .ok (.invokevirtual 161, 3) := by decide +kernel
theorem dX11_setUp_7 : decode cX11_setUp 7 = .ok (.bipush 8, 2) := by decide +kernel
theorem dX11_setUp_9 : decode cX11_setUp 9 = .ok (.if_icmp .lt 7, 3) := by decide +kernel
theorem dX11_setUp_12 : decode cX11_setUp 12 = .ok (.ldc_w 483, 3) := by decide +kernel
theorem dX11_setUp_15 : decode cX11_setUp 15 = .ok (.ireturn, 1) := by decide +kernel
theorem dX11_setUp_16 : decode cX11_setUp 16 = .ok (.new 403, 3) := by decide +kernel
theorem dX11_setUp_19 : decode cX11_setUp 19 = .ok (.dup, 1) := by decide +kernel
theorem dX11_setUp_20 : decode cX11_setUp 20 = .ok (.aload_n 0, 1) := by decide +kernel
theorem dX11_setUp_21 : decode cX11_setUp 21 = .ok (.iconst 0, 1) := by decide +kernel
theorem dX11_setUp_22 : decode cX11_setUp 22 = .ok (.invokevirtual 484, 3) := by decide +kernel
theorem dX11_setUp_25 : decode cX11_setUp 25 = .ok (.aload_n 1, 1) := by decide +kernel
theorem dX11_setUp_26 : decode cX11_setUp 26 = .ok (.invokespecial 611, 3) := by decide +kernel
theorem dX11_setUp_29 : decode cX11_setUp 29 = .ok (.astore_n 2, 1) := by decide +kernel
theorem dX11_setUp_30 : decode cX11_setUp 30 = .ok (.aload_n 0, 1) := by decide +kernel
theorem dX11_setUp_31 : decode cX11_setUp 31 = .ok (.getfield 45, 3) := by decide +kernel
theorem dX11_setUp_34 : decode cX11_setUp 34 = .ok (.aload_n 2, 1) := by decide +kernel
theorem dX11_setUp_35 : decode cX11_setUp 35 = .ok (.invokevirtual 488, 3) := by decide +kernel
theorem dX11_setUp_38 : decode cX11_setUp 38 = .ok (.pop, 1) := by decide +kernel
theorem dX11_setUp_39 : decode cX11_setUp 39 = .ok (.aload_n 1, 1) := by decide +kernel
theorem dX11_setUp_40 : decode cX11_setUp 40 = .ok (.aload_n 2, 1) := by decide +kernel
theorem dX11_setUp_41 : decode cX11_setUp 41 = .ok (.getfield 405, 3) := by decide +kernel
theorem dX11_setUp_44 : decode cX11_setUp 44 = .ok (.putfield 335, 3) := by decide +kernel
theorem dX11_setUp_47 : decode cX11_setUp 47 = .ok (.aload_n 0, 1) := by decide +kernel
theorem dX11_setUp_48 : decode cX11_setUp 48 = .ok (.getfield 68, 3) := by decide +kernel
theorem dX11_setUp_51 : decode cX11_setUp 51 = .ok (.bipush 73, 2) := by decide +kernel
theorem dX11_setUp_53 : decode cX11_setUp 53 = .ok (.invokevirtual 262, 3) := by decide +kernel
theorem dX11_setUp_56 : decode cX11_setUp 56 = .ok (.aload_n 0, 1) := by decide +kernel
theorem dX11_setUp_57 : decode cX11_setUp 57 = .ok (.getfield 68, 3) := by decide +kernel
theorem dX11_setUp_60 : decode cX11_setUp 60 = .ok (.bipush 64, 2) := by decide +kernel
theorem dX11_setUp_62 : decode cX11_setUp 62 = .ok (.iconst 2, 1) := by decide +kernel
theorem dX11_setUp_63 : decode cX11_setUp 63 = .ok (.ldc2_w 347, 3) := by decide +kernel
theorem dX11_setUp_66 : decode cX11_setUp 66 = .ok (.invokevirtual 349, 3) := by decide +kernel
theorem dX11_setUp_69 : decode cX11_setUp 69 = .ok (.aload_n 0, 1) := by decide +kernel
theorem dX11_setUp_70 : decode cX11_setUp 70 = .ok (.getfield 68, 3) := by decide +kernel
theorem dX11_setUp_73 : decode cX11_setUp 73 = .ok (.bipush 68, 2) := by decide +kernel
theorem dX11_setUp_75 : decode cX11_setUp 75 = .ok (.iconst 2, 1) := by decide +kernel
theorem dX11_setUp_76 : decode cX11_setUp 76 = .ok (.ldc2_w 614, 3) := by decide +kernel
theorem dX11_setUp_79 : decode cX11_setUp 79 = .ok (.invokevirtual 349, 3) := by decide +kernel
theorem dX11_setUp_82 : decode cX11_setUp 82 = .ok (.iconst 0, 1) := by decide +kernel
theorem dX11_setUp_83 : decode cX11_setUp 83 = .ok (.ireturn, 1) := by decide +kernel
set_option maxRecDepth 100000 in
set_option maxHeartbeats 4000000 in
theorem c_X11_setUp (l : Launch) (D : va_G) (t : Nat → ClassId) (G : GE) (κ : CS) (h : Nat) (a1 : Option Nat) (post : Int32 → CS → Prop) (hw : F_X11_setUp G h a1 post κ) (sz : Nat) : CMi l D t yX11_setUp cX11_setUp 3 (some .int) 7 171 G κ sz [.ref h, va_rf a1] post := by
  refine c_go (by decide) (by cases a1 <;> exact Nat.le_of_ble_eq_true rfl) ?_
  intro p e s m below meth c ls A hF hr hlk hin hAe hH hA hE hl
  unfold cB
  rw [hAe]
  clear hAe
  have hF : FX p m c cX11_setUp 3 s _ RX11 D t := hF
  have hx := hF.1.1
  have hb := hF.1.2.1
  have hl : lv_has ls 3 [(0, .ref h), (1, va_rf a1)] := (by have h2 := hl; clear hw; revert h2; cases a1 <;> exact id)
  unfold F_X11_setUp at hw
  refine lv_aload_n hx hb dX11_setUp_0 rfl (lv_at hl 0 rfl) ?_
  refine cw_getPr (a := h) hF hH fk_X11_45 dX11_setUp_1 hw (fun z1 hw => ?_)
  refine cw_cViq (q := z1) (As := []) (rest := []) hF hH hA hE mv_X11_161 ci_Jx4a65c (by decide) hw (fun b hw sz => c_Jx4a65c_size_8abf5 l D t G _ b  _ hw sz) dX11_setUp_4 ⟨Nat.le_of_ble_eq_true rfl, Nat.le_of_ble_eq_true rfl⟩ rfl hl.1 (Nat.le_of_ble_eq_true rfl) rfl (fun z3 κ2 H locs cells slots hw hH => ?_)
  refine lv_bipush (v := 8) hx hb dX11_setUp_7 (by decide) ?_
  refine w_icmp_lt (tgt := 16) hF dX11_setUp_9 rfl hw (fun hw => ?_) (fun hw => ?_)
  · refine cw_new hF hH hA ci_X7 (by decide) rfl df_X7 dX11_setUp_16 (wc_16 25 rfl) (wc_38 4 rfl) (wc_8 9 rfl) hw (fun o4 κ5 H locs cells slots hw hH => ?_)
    refine lv_dup hx hb dX11_setUp_19 rfl ?_
    refine lv_aload_n hx hb dX11_setUp_20 rfl (lv_at hl 0 rfl) ?_
    refine lv_iconst (v := 0) hx hb dX11_setUp_21 (by decide) ?_
    refine cw_cVl (b := h) (As := [.int 0]) (rest := [.ref o4, .ref o4]) hF hH hA hE mv_X11_484 ci_X11 (by decide) (fun sz => c_X11_nextSerial l D t G _ h 0 _ hw.2 sz) dX11_setUp_22 hw.1 ⟨Nat.le_of_ble_eq_true rfl, Nat.le_of_ble_eq_true rfl⟩ rfl hl.1 (Nat.le_of_ble_eq_true rfl) rfl (fun z7 κ6 H locs cells slots hw hH => ?_)
    refine w_aloadq_n hF dX11_setUp_25 rfl (lv_at hl 1 rfl) ?_
    refine cw_cI (b := o4) (As := [.long z7, va_rf a1]) (rest := [.ref o4]) hF hH hA hE mi_X11_611 (fun sz => c_X7_init l D t G _ o4 z7 a1 _ hw sz) dX11_setUp_26 ⟨Nat.le_of_ble_eq_true rfl, Nat.le_of_ble_eq_true rfl⟩ rfl hl.1 (Nat.le_of_ble_eq_true rfl) rfl (fun κ8 H locs cells slots hw hH => ?_)
    refine lv_astore_n (lv' := [(2, .ref o4), (0, .ref h), (1, va_rf a1)]) hx hb dX11_setUp_29 rfl hl (by decide) (by generalize a1 = y; cases y <;> rfl) (fun ls hl => ?_)
    refine lv_aload_n hx hb dX11_setUp_30 rfl (lv_at hl 1 rfl) ?_
    refine cw_getPr (a := h) hF hH fk_X11_45 dX11_setUp_31 hw (fun z10 hw => ?_)
    refine lv_aload_n hx hb dX11_setUp_34 rfl (lv_at hl 0 rfl) ?_
    refine cw_cViq (q := z10) (As := [.ref o4]) (rest := []) hF hH hA hE mv_X11_488 ci_Jx4a65c (by decide) hw (fun b hw sz => c_Jx4a65c_add_9ea2d l D t G _ b (some o4) _ hw sz) dX11_setUp_35 ⟨Nat.le_of_ble_eq_true rfl, Nat.le_of_ble_eq_true rfl⟩ rfl hl.1 (Nat.le_of_ble_eq_true rfl) rfl (fun z12 κ11 H locs cells slots hw hH => ?_)
    refine lv_pop hx hb dX11_setUp_38 rfl ?_
    refine w_aloadq_n hF dX11_setUp_39 rfl (lv_at hl 2 rfl) ?_
    refine lv_aload_n hx hb dX11_setUp_40 rfl (lv_at hl 0 rfl) ?_
    refine cw_getJr (a := o4) hF hH fk_X11_405 dX11_setUp_41 hw (fun z13 hw => ?_)
    refine cw_putJ (q := a1) (v := z13) hF hH fk_X11_335 dX11_setUp_44 rfl rfl rfl hw (fun κ14 H locs cells slots hw hH => ?_)
    refine lv_aload_n hx hb dX11_setUp_47 rfl (lv_at hl 1 rfl) ?_
    refine cw_getPr (a := h) hF hH fk_X11_68 dX11_setUp_48 hw (fun z15 hw => ?_)
    refine lv_bipush (v := 73) hx hb dX11_setUp_51 (by decide) ?_
    refine cw_cVvq (q := z15) (As := [.int 73]) (rest := []) hF hH hA hE mv_X11_262 ci_X6 (by decide) hw (fun b hw sz => c_X6_begin l D t G _ b 73 _ hw sz) dX11_setUp_53 ⟨Nat.le_of_ble_eq_true rfl, Nat.le_of_ble_eq_true rfl⟩ rfl hl.1 (Nat.le_of_ble_eq_true rfl) rfl (fun κ16 H locs cells slots hw hH => ?_)
    refine lv_aload_n hx hb dX11_setUp_56 rfl (lv_at hl 1 rfl) ?_
    refine cw_getPr (a := h) hF hH fk_X11_68 dX11_setUp_57 hw (fun z18 hw => ?_)
    refine lv_bipush (v := 64) hx hb dX11_setUp_60 (by decide) ?_
    refine lv_iconst (v := 2) hx hb dX11_setUp_62 (by decide) ?_
    refine lv_ldc2 (v := 9) hx hb hF.1.2.2.2.1 (hF.1.2.2.2.2 _ (wc_16 19 rfl)) dX11_setUp_63 ?_
    refine cw_cVvq (q := z18) (As := [.int 64, .int 2, .long 9]) (rest := []) hF hH hA hE mv_X11_349 ci_X6 (by decide) hw (fun b hw sz => c_X6_put l D t G _ b 64 2 9 _ hw sz) dX11_setUp_66 ⟨Nat.le_of_ble_eq_true rfl, Nat.le_of_ble_eq_true rfl⟩ rfl hl.1 (Nat.le_of_ble_eq_true rfl) rfl (fun κ19 H locs cells slots hw hH => ?_)
    refine lv_aload_n hx hb dX11_setUp_69 rfl (lv_at hl 1 rfl) ?_
    refine cw_getPr (a := h) hF hH fk_X11_68 dX11_setUp_70 hw (fun z21 hw => ?_)
    refine lv_bipush (v := 68) hx hb dX11_setUp_73 (by decide) ?_
    refine lv_iconst (v := 2) hx hb dX11_setUp_75 (by decide) ?_
    refine lv_ldc2 (v := 72) hx hb hF.1.2.2.2.1 (hF.1.2.2.2.2 _ (wc_31 13 rfl)) dX11_setUp_76 ?_
    refine cw_cVvq (q := z21) (As := [.int 68, .int 2, .long 72]) (rest := []) hF hH hA hE mv_X11_349 ci_X6 (by decide) hw (fun b hw sz => c_X6_put l D t G _ b 68 2 72 _ hw sz) dX11_setUp_79 ⟨Nat.le_of_ble_eq_true rfl, Nat.le_of_ble_eq_true rfl⟩ rfl hl.1 (Nat.le_of_ble_eq_true rfl) rfl (fun κ22 H locs cells slots hw hH => ?_)
    refine lv_iconst (v := 0) hx hb dX11_setUp_82 (by decide) ?_
    exact cw_reti hF hH ⟨rfl, rfl⟩ hr rfl hlk dX11_setUp_83 hw
  · refine lv_ldcw (v := (-1073741670)) hx hb hF.1.2.2.2.1 (hF.1.2.2.2.2 _ (wc_16 28 rfl)) dX11_setUp_12 ?_
    exact cw_reti hF hH ⟨rfl, rfl⟩ hr rfl hlk dX11_setUp_15 hw
set_option maxRecDepth 100000 in
def F_X11_logOff (G : GE) (h : Nat) (a1 : Option Nat) (post : Int32 → CS → Prop) (κ : CS) : Prop := ∃ b : Nat, a1 = some b ∧ (b ∈ sL κ.1 ∧ sK κ.1 b = 8) ∧ ∀ z1 : Option Nat, z1 = sP κ.1 b 13 → ((¬ z1 = none) → ∃ b : Nat, a1 = some b ∧ (b ∈ sL κ.1 ∧ sK κ.1 b = 8) ∧ ∀ z2 : Option Nat, z2 = sP κ.1 b 13 → (0 ≤ (1 : Int32).toInt ∧ (1 : Int32).toInt ≤ 1) ∧ ∃ b : Nat, z2 = some b ∧ (b ∈ sL κ.1 ∧ sK κ.1 b = 11) ∧ ∀ κ3 : CS, κ3 = (h_uI κ.1 b 4 1, κ.2) → ∃ b : Nat, a1 = some b ∧ (b ∈ sL κ3.1 ∧ sK κ3.1 b = 8) ∧ ∀ z4 : Option Nat, z4 = sP κ3.1 b 13 → (h ∈ sL κ3.1 ∧ sK κ3.1 h = 1) ∧ F_X11_giveUp G h (none : Option Nat) z4 (none : Option Nat) (fun (κ5 : CS) => (h ∈ sL κ5.1 ∧ sK κ5.1 h = 1) ∧ F_X11_plainAnswer G h  (fun (z8 : Int32) (κ7 : CS) => post z8 κ7) κ5) κ3) ∧ ((z1 = none) → post (-1073741309) κ)
theorem dX11_logOff_0 : decode cX11_logOff 0 = .ok (.aload_n 1, 1) := by decide +kernel
theorem dX11_logOff_1 : decode cX11_logOff 1 = .ok (.getfield 373, 3) := by decide +kernel
theorem dX11_logOff_4 : decode cX11_logOff 4 = .ok (.ifnonnull 7, 3) := by decide +kernel
theorem dX11_logOff_7 : decode cX11_logOff 7 = .ok (.ldc_w 377, 3) := by decide +kernel
theorem dX11_logOff_10 : decode cX11_logOff 10 = .ok (.ireturn, 1) := by decide +kernel
theorem dX11_logOff_11 : decode cX11_logOff 11 = .ok (.aload_n 1, 1) := by decide +kernel
theorem dX11_logOff_12 : decode cX11_logOff 12 = .ok (.getfield 373, 3) := by decide +kernel
theorem dX11_logOff_15 : decode cX11_logOff 15 = .ok (.iconst 1, 1) := by decide +kernel
theorem dX11_logOff_16 : decode cX11_logOff 16 = .ok (.putfield 507, 3) := by decide +kernel
theorem dX11_logOff_19 : decode cX11_logOff 19 = .ok (.aload_n 0, 1) := by decide +kernel
theorem dX11_logOff_20 : decode cX11_logOff 20 = .ok (.aconst_null, 1) := by decide +kernel
theorem dX11_logOff_21 : decode cX11_logOff 21 = .ok (.aload_n 1, 1) := by decide +kernel
theorem dX11_logOff_22 : decode cX11_logOff 22 = .ok (.getfield 373, 3) := by decide +kernel
theorem dX11_logOff_25 : decode cX11_logOff 25 = .ok (.aconst_null, 1) := by decide +kernel
theorem dX11_logOff_26 : decode cX11_logOff 26 = .ok (.invokevirtual 503, 3) := by decide +kernel
theorem dX11_logOff_29 : decode cX11_logOff 29 = .ok (.aload_n 0, 1) := by decide +kernel
theorem dX11_logOff_30 : decode cX11_logOff 30 = .ok (.invokevirtual 447, 3) := by decide +kernel
theorem dX11_logOff_33 : decode cX11_logOff 33 = .ok (.ireturn, 1) := by decide +kernel
set_option maxRecDepth 100000 in
set_option maxHeartbeats 4000000 in
theorem c_X11_logOff (l : Launch) (D : va_G) (t : Nat → ClassId) (G : GE) (κ : CS) (h : Nat) (a1 : Option Nat) (post : Int32 → CS → Prop) (hw : F_X11_logOff G h a1 post κ) (sz : Nat) : CMi l D t yX11_logOff cX11_logOff 2 (some .int) 4 111 G κ sz [.ref h, va_rf a1] post := by
  refine c_go (by decide) (by cases a1 <;> exact Nat.le_of_ble_eq_true rfl) ?_
  intro p e s m below meth c ls A hF hr hlk hin hAe hH hA hE hl
  unfold cB
  rw [hAe]
  clear hAe
  have hF : FX p m c cX11_logOff 2 s _ RX11 D t := hF
  have hx := hF.1.1
  have hb := hF.1.2.1
  have hl : lv_has ls 2 [(0, .ref h), (1, va_rf a1)] := (by have h2 := hl; clear hw; revert h2; cases a1 <;> exact id)
  unfold F_X11_logOff at hw
  refine w_aloadq_n hF dX11_logOff_0 rfl (lv_at hl 1 rfl) ?_
  refine cw_getP (q := a1) hF hH fk_X11_373 dX11_logOff_1 hw (fun z1 hw => ?_)
  refine cw_ifnonnull (q := z1) (tgt := 11) hF dX11_logOff_4 rfl hw (fun hw => ?_) (fun hw => ?_)
  · refine w_aloadq_n hF dX11_logOff_11 rfl (lv_at hl 1 rfl) ?_
    refine cw_getP (q := a1) hF hH fk_X11_373 dX11_logOff_12 hw (fun z2 hw => ?_)
    refine lv_iconst (v := 1) hx hb dX11_logOff_15 (by decide) ?_
    refine cw_putZ (q := z2) (v := 1) hF hH fk_X11_507 dX11_logOff_16 rfl rfl hw (fun κ3 H locs cells slots hw hH => ?_)
    refine lv_aload_n hx hb dX11_logOff_19 rfl (lv_at hl 0 rfl) ?_
    refine cw_null dX11_logOff_20 hF ?_
    refine w_aloadq_n hF dX11_logOff_21 rfl (lv_at hl 1 rfl) ?_
    refine cw_getP (q := a1) hF hH fk_X11_373 dX11_logOff_22 hw (fun z4 hw => ?_)
    refine cw_null dX11_logOff_25 hF ?_
    refine cw_cVv (b := h) (As := [va_rf (none : Option Nat), va_rf z4, va_rf (none : Option Nat)]) (rest := []) hF hH hA hE mv_X11_503 ci_X11 (by decide) (fun sz => c_X11_giveUp l D t G _ h (none : Option Nat) z4 (none : Option Nat) _ hw.2 sz) dX11_logOff_26 hw.1 ⟨Nat.le_of_ble_eq_true rfl, Nat.le_of_ble_eq_true rfl⟩ rfl hl.1 (Nat.le_of_ble_eq_true rfl) rfl (fun κ5 H locs cells slots hw hH => ?_)
    refine lv_aload_n hx hb dX11_logOff_29 rfl (lv_at hl 0 rfl) ?_
    refine cw_cVi (b := h) (As := []) (rest := []) hF hH hA hE mv_X11_447 ci_X11 (by decide) (fun sz => c_X11_plainAnswer l D t G _ h  _ hw.2 sz) dX11_logOff_30 hw.1 ⟨Nat.le_of_ble_eq_true rfl, Nat.le_of_ble_eq_true rfl⟩ rfl hl.1 (Nat.le_of_ble_eq_true rfl) rfl (fun z8 κ7 H locs cells slots hw hH => ?_)
    exact cw_reti hF hH ⟨rfl, rfl⟩ hr rfl hlk dX11_logOff_33 hw
  · refine lv_ldcw (v := (-1073741309)) hx hb hF.1.2.2.2.1 (hF.1.2.2.2.2 _ (wc_26 22 rfl)) dX11_logOff_7 ?_
    exact cw_reti hF hH ⟨rfl, rfl⟩ hr rfl hlk dX11_logOff_10 hw
set_option maxRecDepth 100000 in
def F_X11_connectTree (G : GE) (h : Nat) (a1 : Option Nat) (post : Int32 → CS → Prop) (κ : CS) : Prop := ∃ b : Nat, a1 = some b ∧ (b ∈ sL κ.1 ∧ sK κ.1 b = 8) ∧ F_X0_number G b 68 2 (fun (z2 : Int64) (κ1 : CS) => ∀ z3 : Int32, z3 = (z2 : Int64).toInt32 → ∃ b : Nat, a1 = some b ∧ (b ∈ sL κ1.1 ∧ sK κ1.1 b = 8) ∧ F_X0_number G b 70 2 (fun (z5 : Int64) (κ4 : CS) => ∀ z6 : Int32, z6 = (z5 : Int64).toInt32 → ∀ z7 : Int32, z7 = z6 - z6 / 2 * 2 → ((z7.toInt = 0) → lc (fun (K10 : (Int32 × Int32) → CS → Prop) (x8 : Int32 × Int32) (κ9 : CS) => ((z6.toInt ≤ x8.1.toInt) → ∃ b : Nat, a1 = some b ∧ (b ∈ sL κ9.1 ∧ sK κ9.1 b = 8) ∧ ∀ z12 : Option Nat, z12 = sP κ9.1 b 0 → ∃ b : Nat, z12 = some b ∧ (b ∈ sL κ9.1 ∧ sK κ9.1 b = 3) ∧ ∀ z13 : Option Nat, z13 = sP κ9.1 b 2 → ∃ b : Nat, a1 = some b ∧ (b ∈ sL κ9.1 ∧ sK κ9.1 b = 8) ∧ ∀ z14 : Int32, z14 = sI κ9.1 b 1 → ∀ z15 : Int32, z15 = z14 + z3 → ∀ z16 : Int32, z16 = z15 + x8.2 → ∀ z17 : Int32, z17 = z6 - x8.2 → ∀ z18 : Int32, z18 = z17 / 2 → (h ∈ sL κ9.1 ∧ sK κ9.1 h = 1) ∧ F_X11_rootNamed G h z13 z16 2 z18 (fun (z20 : Option Nat) (κ19 : CS) => ((¬ z20 = none) → (h ∈ sL κ19.1 ∧ sK κ19.1 h = 1) ∧ ∀ z21 : Option Nat, z21 = sP κ19.1 h 9 → ∃ b : Nat, z21 = some b ∧ (b ∈ sL κ19.1 ∧ sK κ19.1 b = 7) ∧ F_Jx4a65c_size_8abf5 G b  (fun (z23 : Int32) (κ22 : CS) => ((z23.toInt < (16 : Int32).toInt) → (4 + 12 ≤ κ22.2) ∧ ∀ o24 : Nat, o24 ∉ sL κ22.1 → ∀ κ25 : CS, κ25 = (h_uN κ22.1 o24 12 0, κ22.2 - (4 + 12)) → (h ∈ sL κ25.1 ∧ sK κ25.1 h = 1) ∧ F_X11_nextSerial G h 1 (fun (z27 : Int64) (κ26 : CS) => ∃ b : Nat, a1 = some b ∧ (b ∈ sL κ26.1 ∧ sK κ26.1 b = 8) ∧ ∀ z28 : Option Nat, z28 = sP κ26.1 b 13 → F_X8_init G o24 z27 z28 z20 (fun (κ29 : CS) => (h ∈ sL κ29.1 ∧ sK κ29.1 h = 1) ∧ ∀ z31 : Option Nat, z31 = sP κ29.1 h 9 → ∃ b : Nat, z31 = some b ∧ (b ∈ sL κ29.1 ∧ sK κ29.1 b = 7) ∧ F_Jx4a65c_add_9ea2d G b (some o24) (fun (z33 : Int32) (κ32 : CS) => (o24 ∈ sL κ32.1 ∧ sK κ32.1 o24 = 12) ∧ ∀ z34 : Int64, z34 = sJ κ32.1 o24 0 → ∃ b : Nat, a1 = some b ∧ (b ∈ sL κ32.1 ∧ sK κ32.1 b = 8) ∧ ∀ κ35 : CS, κ35 = (h_uJ κ32.1 b 10 z34, κ32.2) → (h ∈ sL κ35.1 ∧ sK κ35.1 h = 1) ∧ ∀ z36 : Option Nat, z36 = sP κ35.1 h 15 → ∃ b : Nat, z36 = some b ∧ (b ∈ sL κ35.1 ∧ sK κ35.1 b = 2) ∧ F_X6_begin G b 80 (fun (κ37 : CS) => (h ∈ sL κ37.1 ∧ sK κ37.1 h = 1) ∧ ∀ z39 : Option Nat, z39 = sP κ37.1 h 15 → ∃ b : Nat, z39 = some b ∧ (b ∈ sL κ37.1 ∧ sK κ37.1 b = 2) ∧ F_X6_put G b 64 2 16 (fun (κ40 : CS) => (h ∈ sL κ40.1 ∧ sK κ40.1 h = 1) ∧ ∀ z42 : Option Nat, z42 = sP κ40.1 h 15 → ∃ b : Nat, z42 = some b ∧ (b ∈ sL κ40.1 ∧ sK κ40.1 b = 2) ∧ F_X6_put G b 66 1 1 (fun (κ43 : CS) => (h ∈ sL κ43.1 ∧ sK κ43.1 h = 1) ∧ ∀ z45 : Option Nat, z45 = sP κ43.1 h 15 → ∃ b : Nat, z45 = some b ∧ (b ∈ sL κ43.1 ∧ sK κ43.1 b = 2) ∧ F_X6_put G b 76 4 2032127 (fun (κ46 : CS) => post 0 κ46) κ43) κ40) κ37) κ35) κ29) κ26) κ25) ∧ (((16 : Int32).toInt ≤ z23.toInt) → post (-1073741670) κ22)) κ19) ∧ ((z20 = none) → post (-1073741620) κ19)) κ9) ∧ ((x8.1.toInt < z6.toInt) → ∀ z48 : Int32, z48 = z3 + x8.1 → ∃ b : Nat, a1 = some b ∧ (b ∈ sL κ9.1 ∧ sK κ9.1 b = 8) ∧ F_X0_number G b z48 2 (fun (z50 : Int64) (κ49 : CS) => jc (fun (K53 : Int32 → CS → Prop) => ((¬ z50.toInt = (92 : Int64).toInt) → K53 x8.2 κ49) ∧ ((z50.toInt = (92 : Int64).toInt) → ∀ z57 : Int32, z57 = x8.1 + 2 → K53 z57 κ49)) (fun (x51 : Int32) (κ52 : CS) => ∀ z56 : Int32, z56 = x8.1 + 2 → K10 (z56, x51) κ52)) κ9)) (0, 0) κ4) ∧ ((¬ z7.toInt = 0) → post (-1073741811) κ4)) κ1) κ
theorem dX11_connectTree_0 : decode cX11_connectTree 0 = .ok (.aload_n 1, 1) := by decide +kernel
theorem dX11_connectTree_1 : decode cX11_connectTree 1 = .ok (.bipush 68, 2) := by decide +kernel
theorem dX11_connectTree_3 : decode cX11_connectTree 3 = .ok (.iconst 2, 1) := by decide +kernel
theorem dX11_connectTree_4 : decode cX11_connectTree 4 = .ok (.invokevirtual 394, 3) := by decide +kernel
theorem dX11_connectTree_7 : decode cX11_connectTree 7 = .ok (.l2i, 1) := by decide +kernel
theorem dX11_connectTree_8 : decode cX11_connectTree 8 = .ok (.istore_n 2, 1) := by decide +kernel
theorem dX11_connectTree_9 : decode cX11_connectTree 9 = .ok (.aload_n 1, 1) := by decide +kernel
theorem dX11_connectTree_10 : decode cX11_connectTree 10 = .ok (.bipush 70, 2) := by decide +kernel
theorem dX11_connectTree_12 : decode cX11_connectTree 12 = .ok (.iconst 2, 1) := by decide +kernel
theorem dX11_connectTree_13 : decode cX11_connectTree 13 = .ok (.invokevirtual 394, 3) := by decide +kernel
theorem dX11_connectTree_16 : decode cX11_connectTree 16 = .ok (.l2i, 1) := by decide +kernel
theorem dX11_connectTree_17 : decode cX11_connectTree 17 = .ok (.istore_n 3, 1) := by decide +kernel
theorem dX11_connectTree_18 : decode cX11_connectTree 18 = .ok (.iload_n 3, 1) := by decide +kernel
theorem dX11_connectTree_19 : decode cX11_connectTree 19 = .ok (.iconst 2, 1) := by decide +kernel
theorem dX11_connectTree_20 : decode cX11_connectTree 20 = .ok (.irem, 1) := by decide +kernel
theorem dX11_connectTree_21 : decode cX11_connectTree 21 = .ok (.ifCond .eq 7, 3) := by decide +kernel
theorem dX11_connectTree_24 : decode cX11_connectTree 24 = .ok (.ldc_w 398, 3) := by decide +kernel
theorem dX11_connectTree_27 : decode cX11_connectTree 27 = .ok (.ireturn, 1) := by decide +kernel
theorem dX11_connectTree_28 : decode cX11_connectTree 28 = .ok (.iconst 0, 1) := by decide +kernel
theorem dX11_connectTree_29 : decode cX11_connectTree 29 = .ok (.istore 4, 2) := by decide +kernel
theorem dX11_connectTree_31 : decode cX11_connectTree 31 = .ok (.iconst 0, 1) := by decide +kernel
theorem dX11_connectTree_32 : decode cX11_connectTree 32 = .ok (.istore 5, 2) := by decide +kernel
theorem dX11_connectTree_34 : decode cX11_connectTree 34 = .ok (.iload 5, 2) := by decide +kernel
theorem dX11_connectTree_36 : decode cX11_connectTree 36 = .ok (.iload_n 3, 1) := by decide +kernel
theorem dX11_connectTree_37 : decode cX11_connectTree 37 = .ok (.if_icmp .ge 31, 3) := by decide +kernel
theorem dX11_connectTree_40 : decode cX11_connectTree 40 = .ok (.aload_n 1, 1) := by decide +kernel
theorem dX11_connectTree_41 : decode cX11_connectTree 41 = .ok (.iload_n 2, 1) := by decide +kernel
theorem dX11_connectTree_42 : decode cX11_connectTree 42 = .ok (.iload 5, 2) := by decide +kernel
theorem dX11_connectTree_44 : decode cX11_connectTree 44 = .ok (.iadd, 1) := by decide +kernel
theorem dX11_connectTree_45 : decode cX11_connectTree 45 = .ok (.iconst 2, 1) := by decide +kernel
theorem dX11_connectTree_46 : decode cX11_connectTree 46 = .ok (.invokevirtual 394, 3) := by decide +kernel
theorem dX11_connectTree_49 : decode cX11_connectTree 49 = .ok (.ldc2_w 212, 3) := by decide +kernel
theorem dX11_connectTree_52 : decode cX11_connectTree 52 = .ok (.lcmp, 1) := by decide +kernel
theorem dX11_connectTree_53 : decode cX11_connectTree 53 = .ok (.ifCond .ne 9, 3) := by decide +kernel
theorem dX11_connectTree_56 : decode cX11_connectTree 56 = .ok (.iload 5, 2) := by decide +kernel
theorem dX11_connectTree_58 : decode cX11_connectTree 58 = .ok (.iconst 2, 1) := by decide +kernel
theorem dX11_connectTree_59 : decode cX11_connectTree 59 = .ok (.iadd, 1) := by decide +kernel
theorem dX11_connectTree_60 : decode cX11_connectTree 60 = .ok (.istore 4, 2) := by decide +kernel
theorem dX11_connectTree_62 : decode cX11_connectTree 62 = .ok (.iinc 5 2, 3) := by decide +kernel
theorem dX11_connectTree_65 : decode cX11_connectTree 65 = .ok (.goto (-31), 3) := by decide +kernel
theorem dX11_connectTree_68 : decode cX11_connectTree 68 = .ok (.aload_n 0, 1) := by decide +kernel
theorem dX11_connectTree_69 : decode cX11_connectTree 69 = .ok (.aload_n 1, 1) := by decide +kernel
theorem dX11_connectTree_70 : decode cX11_connectTree 70 = .ok (.getfield 310, 3) := by decide +kernel
theorem dX11_connectTree_73 : decode cX11_connectTree 73 = .ok (.getfield 136, 3) := by decide +kernel
theorem dX11_connectTree_76 : decode cX11_connectTree 76 = .ok (.aload_n 1, 1) := by decide +kernel
theorem dX11_connectTree_77 : decode cX11_connectTree 77 = .ok (.getfield 616, 3) := by decide +kernel
theorem dX11_connectTree_80 : decode cX11_connectTree 80 = .ok (.iload_n 2, 1) := by decide +kernel
theorem dX11_connectTree_81 : decode cX11_connectTree 81 = .ok (.iadd, 1) := by decide +kernel
theorem dX11_connectTree_82 : decode cX11_connectTree 82 = .ok (.iload 4, 2) := by decide +kernel
theorem dX11_connectTree_84 : decode cX11_connectTree 84 = .ok (.iadd, 1) := by decide +kernel
theorem dX11_connectTree_85 : decode cX11_connectTree 85 = .ok (.iconst 2, 1) := by decide +kernel
theorem dX11_connectTree_86 : decode cX11_connectTree 86 = .ok (.iload_n 3, 1) := by decide +kernel
theorem dX11_connectTree_87 : decode cX11_connectTree 87 = .ok (.iload 4, 2) := by decide +kernel
theorem dX11_connectTree_89 : decode cX11_connectTree 89 = .ok (.isub, 1) := by decide +kernel
theorem dX11_connectTree_90 : decode cX11_connectTree 90 = .ok (.iconst 2, 1) := by decide +kernel
theorem dX11_connectTree_91 : decode cX11_connectTree 91 = .ok (.idiv, 1) := by decide +kernel
theorem dX11_connectTree_92 : decode cX11_connectTree 92 = .ok (.invokevirtual 97, 3) := by decide +kernel
theorem dX11_connectTree_95 : decode cX11_connectTree 95 = .ok (.astore 5, 2) := by decide +kernel
theorem dX11_connectTree_97 : decode cX11_connectTree 97 = .ok (.aload 5, 2) := by decide +kernel
theorem dX11_connectTree_99 : decode cX11_connectTree 99 = .ok (.ifnonnull 7, 3) := by decide +kernel
theorem dX11_connectTree_102 : decode cX11_connectTree 102 = .ok (.ldc_w 619, 3) := by decide +kernel
theorem dX11_connectTree_105 : decode cX11_connectTree 105 = .ok (.ireturn, 1) := by decide +kernel
theorem dX11_connectTree_106 : decode cX11_connectTree 106 = .ok (.aload_n 0, 1) := by decide +kernel
theorem dX11_connectTree_107 : decode cX11_connectTree 107 = .ok (.getfield 49, 3) := by decide +kernel
theorem dX11_connectTree_110 : decode cX11_connectTree 110 = .ok (.invokevirtual 161, 3) := by decide +kernel
theorem dX11_connectTree_113 : decode cX11_connectTree 113 = .ok (.bipush 16, 2) := by decide +kernel
theorem dX11_connectTree_115 : decode cX11_connectTree 115 = .ok (.if_icmp .lt 7, 3) := by decide +kernel
theorem dX11_connectTree_118 : decode cX11_connectTree 118 = .ok (.ldc_w 483, 3) := by decide +kernel
theorem dX11_connectTree_121 : decode cX11_connectTree 121 = .ok (.ireturn, 1) := by decide +kernel
theorem dX11_connectTree_122 : decode cX11_connectTree 122 = .ok (.new 407, 3) := by decide +kernel
theorem dX11_connectTree_125 : decode cX11_connectTree 125 = .ok (.dup, 1) := by decide +kernel
theorem dX11_connectTree_126 : decode cX11_connectTree 126 = .ok (.aload_n 0, 1) := by decide +kernel
theorem dX11_connectTree_127 : decode cX11_connectTree 127 = .ok (.iconst 1, 1) := by decide +kernel
theorem dX11_connectTree_128 : decode cX11_connectTree 128 = .ok (.invokevirtual 484, 3) := by decide +kernel
theorem dX11_connectTree_131 : decode cX11_connectTree 131 = .ok (.aload_n 1, 1) := by decide +kernel
theorem dX11_connectTree_132 : decode cX11_connectTree 132 = .ok (.getfield 373, 3) := by decide +kernel
theorem dX11_connectTree_135 : decode cX11_connectTree 135 = .ok (.aload 5, 2) := by decide +kernel
theorem dX11_connectTree_137 : decode cX11_connectTree 137 = .ok (.invokespecial 620, 3) := by decide +kernel
theorem dX11_connectTree_140 : decode cX11_connectTree 140 = .ok (.astore 6, 2) := by decide +kernel
theorem dX11_connectTree_142 : decode cX11_connectTree 142 = .ok (.aload_n 0, 1) := by decide +kernel
theorem dX11_connectTree_143 : decode cX11_connectTree 143 = .ok (.getfield 49, 3) := by decide +kernel
theorem dX11_connectTree_146 : decode cX11_connectTree 146 = .ok (.aload 6, 2) := by decide +kernel
theorem dX11_connectTree_148 : decode cX11_connectTree 148 = .ok (.invokevirtual 488, 3) := by decide +kernel
theorem dX11_connectTree_151 : decode cX11_connectTree 151 = .ok (.pop, 1) := by decide +kernel
theorem dX11_connectTree_152 : decode cX11_connectTree 152 = .ok (.aload_n 1, 1) := by decide +kernel
theorem dX11_connectTree_153 : decode cX11_connectTree 153 = .ok (.aload 6, 2) := by decide +kernel
theorem dX11_connectTree_155 : decode cX11_connectTree 155 = .ok (.getfield 409, 3) := by decide +kernel
theorem dX11_connectTree_158 : decode cX11_connectTree 158 = .ok (.putfield 341, 3) := by decide +kernel
theorem dX11_connectTree_161 : decode cX11_connectTree 161 = .ok (.aload_n 0, 1) := by decide +kernel
theorem dX11_connectTree_162 : decode cX11_connectTree 162 = .ok (.getfield 68, 3) := by decide +kernel
theorem dX11_connectTree_165 : decode cX11_connectTree 165 = .ok (.bipush 80, 2) := by decide +kernel
theorem dX11_connectTree_167 : decode cX11_connectTree 167 = .ok (.invokevirtual 262, 3) := by decide +kernel
theorem dX11_connectTree_170 : decode cX11_connectTree 170 = .ok (.aload_n 0, 1) := by decide +kernel
theorem dX11_connectTree_171 : decode cX11_connectTree 171 = .ok (.getfield 68, 3) := by decide +kernel
theorem dX11_connectTree_174 : decode cX11_connectTree 174 = .ok (.bipush 64, 2) := by decide +kernel
theorem dX11_connectTree_176 : decode cX11_connectTree 176 = .ok (.iconst 2, 1) := by decide +kernel
theorem dX11_connectTree_177 : decode cX11_connectTree 177 = .ok (.ldc2_w 623, 3) := by decide +kernel
theorem dX11_connectTree_180 : decode cX11_connectTree 180 = .ok (.invokevirtual 349, 3) := by decide +kernel
theorem dX11_connectTree_183 : decode cX11_connectTree 183 = .ok (.aload_n 0, 1) := by decide +kernel
theorem dX11_connectTree_184 : decode cX11_connectTree 184 = .ok (.getfield 68, 3) := by decide +kernel
theorem dX11_connectTree_187 : decode cX11_connectTree 187 = .ok (.bipush 66, 2) := by decide +kernel
theorem dX11_connectTree_189 : decode cX11_connectTree 189 = .ok (.iconst 1, 1) := by decide +kernel
theorem dX11_connectTree_190 : decode cX11_connectTree 190 = .ok (.lconst 1, 1) := by decide +kernel
theorem dX11_connectTree_191 : decode cX11_connectTree 191 = .ok (.invokevirtual 349, 3) := by decide +kernel
theorem dX11_connectTree_194 : decode cX11_connectTree 194 = .ok (.aload_n 0, 1) := by decide +kernel
theorem dX11_connectTree_195 : decode cX11_connectTree 195 = .ok (.getfield 68, 3) := by decide +kernel
theorem dX11_connectTree_198 : decode cX11_connectTree 198 = .ok (.bipush 76, 2) := by decide +kernel
theorem dX11_connectTree_200 : decode cX11_connectTree 200 = .ok (.iconst 4, 1) := by decide +kernel
theorem dX11_connectTree_201 : decode cX11_connectTree 201 = .ok (.ldc2_w 625, 3) := by decide +kernel
theorem dX11_connectTree_204 : decode cX11_connectTree 204 = .ok (.invokevirtual 349, 3) := by decide +kernel
theorem dX11_connectTree_207 : decode cX11_connectTree 207 = .ok (.iconst 0, 1) := by decide +kernel
theorem dX11_connectTree_208 : decode cX11_connectTree 208 = .ok (.ireturn, 1) := by decide +kernel
set_option maxRecDepth 100000 in
set_option maxHeartbeats 4000000 in
theorem c_X11_connectTree (l : Launch) (D : va_G) (t : Nat → ClassId) (G : GE) (κ : CS) (h : Nat) (a1 : Option Nat) (post : Int32 → CS → Prop) (hw : F_X11_connectTree G h a1 post κ) (sz : Nat) : CMi l D t yX11_connectTree cX11_connectTree 7 (some .int) 7 171 G κ sz [.ref h, va_rf a1] post := by
  refine c_go (by decide) (by cases a1 <;> exact Nat.le_of_ble_eq_true rfl) ?_
  intro p e s m below meth c ls A hF hr hlk hin hAe hH hA hE hl
  unfold cB
  rw [hAe]
  clear hAe
  have hF : FX p m c cX11_connectTree 7 s _ RX11 D t := hF
  have hx := hF.1.1
  have hb := hF.1.2.1
  have hl : lv_has ls 7 [(0, .ref h), (1, va_rf a1)] := (by have h2 := hl; clear hw; revert h2; cases a1 <;> exact id)
  unfold F_X11_connectTree at hw
  refine w_aloadq_n hF dX11_connectTree_0 rfl (lv_at hl 1 rfl) ?_
  refine lv_bipush (v := 68) hx hb dX11_connectTree_1 (by decide) ?_
  refine lv_iconst (v := 2) hx hb dX11_connectTree_3 (by decide) ?_
  refine cw_cVlq (q := a1) (As := [.int 68, .int 2]) (rest := []) hF hH hA hE mv_X11_394 ci_X0 (by decide) hw (fun b hw sz => c_X0_number l D t G _ b 68 2 _ hw sz) dX11_connectTree_4 ⟨Nat.le_of_ble_eq_true rfl, Nat.le_of_ble_eq_true rfl⟩ rfl hl.1 (Nat.le_of_ble_eq_true rfl) rfl (fun z2 κ1 H locs cells slots hw hH => ?_)
  refine lv_l2i hx hb dX11_connectTree_7 rfl ?_
  refine w_nmi hw (fun z3 hw => ?_)
  refine lv_istore_n (lv' := [(2, .int z3), (0, .ref h), (1, va_rf a1)]) hx hb dX11_connectTree_8 rfl hl (by decide) (by generalize a1 = y; cases y <;> rfl) (fun ls hl => ?_)
  refine w_aloadq_n hF dX11_connectTree_9 rfl (lv_at hl 2 rfl) ?_
  refine lv_bipush (v := 70) hx hb dX11_connectTree_10 (by decide) ?_
  refine lv_iconst (v := 2) hx hb dX11_connectTree_12 (by decide) ?_
  refine cw_cVlq (q := a1) (As := [.int 70, .int 2]) (rest := []) hF hH hA hE mv_X11_394 ci_X0 (by decide) hw (fun b hw sz => c_X0_number l D t G _ b 70 2 _ hw sz) dX11_connectTree_13 ⟨Nat.le_of_ble_eq_true rfl, Nat.le_of_ble_eq_true rfl⟩ rfl hl.1 (Nat.le_of_ble_eq_true rfl) rfl (fun z5 κ4 H locs cells slots hw hH => ?_)
  refine lv_l2i hx hb dX11_connectTree_16 rfl ?_
  refine w_nmi hw (fun z6 hw => ?_)
  refine lv_istore_n (lv' := [(3, .int z6), (2, .int z3), (0, .ref h), (1, va_rf a1)]) hx hb dX11_connectTree_17 rfl hl (by decide) rfl (fun ls hl => ?_)
  refine lv_iload_n hx hb dX11_connectTree_18 rfl (lv_at hl 0 rfl) ?_
  refine lv_iconst (v := 2) hx hb dX11_connectTree_19 (by decide) ?_
  refine lv_irem hx hb dX11_connectTree_20 (by decide) ?_
  refine w_nmi hw (fun z7 hw => ?_)
  refine w_if_eq (tgt := 28) hF dX11_connectTree_21 rfl hw (fun hw => ?_) (fun hw => ?_)
  · refine lv_iconst (v := 0) hx hb dX11_connectTree_28 (by decide) ?_
    refine lv_istore (lv' := [(4, .int 0), (3, .int z6), (2, .int z3), (0, .ref h), (1, va_rf a1)]) hx hb dX11_connectTree_29 hl (by decide) rfl (fun ls hl => ?_)
    refine lv_iconst (v := 0) hx hb dX11_connectTree_31 (by decide) ?_
    refine lv_istore (lv' := [(5, .int 0), (4, .int 0), (3, .int z6), (2, .int z3), (0, .ref h), (1, va_rf a1)]) hx hb dX11_connectTree_32 hl (by decide) rfl (fun ls hl => ?_)
    have hl : lv_has ls 7 [(5, .int 0), (4, .int 0), (3, .int z6), (2, .int z3), (1, va_rf a1), (0, .ref h)] := lv_sub hl [0, 1, 2, 3, 5, 4] rfl
    refine cw_loop (β := Int32 × Int32) (fun x8 => [(5, .int x8.1), (4, .int x8.2), (3, .int z6), (2, .int z3), (1, va_rf a1), (0, .ref h)]) (0, 0) hl hw hH (fun K10 x8 κ9 ls H locs cells slots hl hw hH ih11 => ?_)
    have hl : lv_has ls 7 [(5, .int x8.1), (4, .int x8.2), (3, .int z6), (2, .int z3), (1, va_rf a1), (0, .ref h)] := hl
    refine lv_iload hx hb dX11_connectTree_34 (lv_at hl 0 rfl) ?_
    refine lv_iload_n hx hb dX11_connectTree_36 rfl (lv_at hl 2 rfl) ?_
    refine w_icmp_ge (tgt := 68) hF dX11_connectTree_37 rfl hw (fun hw => ?_) (fun hw => ?_)
    · refine lv_aload_n hx hb dX11_connectTree_68 rfl (lv_at hl 5 rfl) ?_
      refine w_aloadq_n hF dX11_connectTree_69 rfl (lv_at hl 4 rfl) ?_
      refine cw_getP (q := a1) hF hH fk_X11_310 dX11_connectTree_70 hw (fun z12 hw => ?_)
      refine cw_getP (q := z12) hF hH fk_X11_136 dX11_connectTree_73 hw (fun z13 hw => ?_)
      refine w_aloadq_n hF dX11_connectTree_76 rfl (lv_at hl 4 rfl) ?_
      refine cw_getI (q := a1) hF hH fk_X11_616 dX11_connectTree_77 hw (fun z14 hw => ?_)
      refine lv_iload_n hx hb dX11_connectTree_80 rfl (lv_at hl 3 rfl) ?_
      refine lv_iadd hx hb dX11_connectTree_81 ?_
      refine w_nmi hw (fun z15 hw => ?_)
      refine lv_iload hx hb dX11_connectTree_82 (lv_at hl 1 rfl) ?_
      refine lv_iadd hx hb dX11_connectTree_84 ?_
      refine w_nmi hw (fun z16 hw => ?_)
      refine lv_iconst (v := 2) hx hb dX11_connectTree_85 (by decide) ?_
      refine lv_iload_n hx hb dX11_connectTree_86 rfl (lv_at hl 2 rfl) ?_
      refine lv_iload hx hb dX11_connectTree_87 (lv_at hl 1 rfl) ?_
      refine lv_isub hx hb dX11_connectTree_89 ?_
      refine w_nmi hw (fun z17 hw => ?_)
      refine lv_iconst (v := 2) hx hb dX11_connectTree_90 (by decide) ?_
      refine lv_idiv hx hb dX11_connectTree_91 (by decide) ?_
      refine w_nmi hw (fun z18 hw => ?_)
      refine cw_cVq (b := h) (As := [va_rf z13, .int z16, .int 2, .int z18]) (rest := []) hF hH hA hE mv_X11_97 ci_X11 (by decide) (fun sz => c_X11_rootNamed l D t G _ h z13 z16 2 z18 _ hw.2 sz) dX11_connectTree_92 hw.1 ⟨Nat.le_of_ble_eq_true rfl, Nat.le_of_ble_eq_true rfl⟩ rfl hl.1 (Nat.le_of_ble_eq_true rfl) rfl (fun z20 κ19 H locs cells slots hw hH => ?_)
      refine w_astoreq (lv' := [(5, va_rf z20), (4, .int x8.2), (3, .int z6), (2, .int z3), (1, va_rf a1), (0, .ref h)]) hF dX11_connectTree_95 hl (by decide) rfl (fun ls hl => ?_)
      refine w_aloadq hF dX11_connectTree_97 (lv_at hl 0 rfl) ?_
      refine cw_ifnonnull (q := z20) (tgt := 106) hF dX11_connectTree_99 rfl hw (fun hw => ?_) (fun hw => ?_)
      · refine lv_aload_n hx hb dX11_connectTree_106 rfl (lv_at hl 5 rfl) ?_
        refine cw_getPr (a := h) hF hH fk_X11_49 dX11_connectTree_107 hw (fun z21 hw => ?_)
        refine cw_cViq (q := z21) (As := []) (rest := []) hF hH hA hE mv_X11_161 ci_Jx4a65c (by decide) hw (fun b hw sz => c_Jx4a65c_size_8abf5 l D t G _ b  _ hw sz) dX11_connectTree_110 ⟨Nat.le_of_ble_eq_true rfl, Nat.le_of_ble_eq_true rfl⟩ rfl hl.1 (Nat.le_of_ble_eq_true rfl) rfl (fun z23 κ22 H locs cells slots hw hH => ?_)
        refine lv_bipush (v := 16) hx hb dX11_connectTree_113 (by decide) ?_
        refine w_icmp_lt (tgt := 122) hF dX11_connectTree_115 rfl hw (fun hw => ?_) (fun hw => ?_)
        · refine cw_new hF hH hA ci_X8 (by decide) rfl df_X8 dX11_connectTree_122 (wc_16 26 rfl) (wc_38 9 rfl) (wc_8 10 rfl) hw (fun o24 κ25 H locs cells slots hw hH => ?_)
          refine lv_dup hx hb dX11_connectTree_125 rfl ?_
          refine lv_aload_n hx hb dX11_connectTree_126 rfl (lv_at hl 5 rfl) ?_
          refine lv_iconst (v := 1) hx hb dX11_connectTree_127 (by decide) ?_
          refine cw_cVl (b := h) (As := [.int 1]) (rest := [.ref o24, .ref o24]) hF hH hA hE mv_X11_484 ci_X11 (by decide) (fun sz => c_X11_nextSerial l D t G _ h 1 _ hw.2 sz) dX11_connectTree_128 hw.1 ⟨Nat.le_of_ble_eq_true rfl, Nat.le_of_ble_eq_true rfl⟩ rfl hl.1 (Nat.le_of_ble_eq_true rfl) rfl (fun z27 κ26 H locs cells slots hw hH => ?_)
          refine w_aloadq_n hF dX11_connectTree_131 rfl (lv_at hl 4 rfl) ?_
          refine cw_getP (q := a1) hF hH fk_X11_373 dX11_connectTree_132 hw (fun z28 hw => ?_)
          refine w_aloadq hF dX11_connectTree_135 (lv_at hl 0 rfl) ?_
          refine cw_cI (b := o24) (As := [.long z27, va_rf z28, va_rf z20]) (rest := [.ref o24]) hF hH hA hE mi_X11_620 (fun sz => c_X8_init l D t G _ o24 z27 z28 z20 _ hw sz) dX11_connectTree_137 ⟨Nat.le_of_ble_eq_true rfl, Nat.le_of_ble_eq_true rfl⟩ rfl hl.1 (Nat.le_of_ble_eq_true rfl) rfl (fun κ29 H locs cells slots hw hH => ?_)
          refine lv_astore (lv' := [(6, .ref o24), (5, va_rf z20), (4, .int x8.2), (3, .int z6), (2, .int z3), (1, va_rf a1), (0, .ref h)]) hx hb dX11_connectTree_140 hl (by decide) (by generalize z20 = y; cases y <;> rfl) (fun ls hl => ?_)
          refine lv_aload_n hx hb dX11_connectTree_142 rfl (lv_at hl 6 rfl) ?_
          refine cw_getPr (a := h) hF hH fk_X11_49 dX11_connectTree_143 hw (fun z31 hw => ?_)
          refine lv_aload hx hb dX11_connectTree_146 (lv_at hl 0 rfl) ?_
          refine cw_cViq (q := z31) (As := [.ref o24]) (rest := []) hF hH hA hE mv_X11_488 ci_Jx4a65c (by decide) hw (fun b hw sz => c_Jx4a65c_add_9ea2d l D t G _ b (some o24) _ hw sz) dX11_connectTree_148 ⟨Nat.le_of_ble_eq_true rfl, Nat.le_of_ble_eq_true rfl⟩ rfl hl.1 (Nat.le_of_ble_eq_true rfl) rfl (fun z33 κ32 H locs cells slots hw hH => ?_)
          refine lv_pop hx hb dX11_connectTree_151 rfl ?_
          refine w_aloadq_n hF dX11_connectTree_152 rfl (lv_at hl 5 rfl) ?_
          refine lv_aload hx hb dX11_connectTree_153 (lv_at hl 0 rfl) ?_
          refine cw_getJr (a := o24) hF hH fk_X11_409 dX11_connectTree_155 hw (fun z34 hw => ?_)
          refine cw_putJ (q := a1) (v := z34) hF hH fk_X11_341 dX11_connectTree_158 rfl rfl rfl hw (fun κ35 H locs cells slots hw hH => ?_)
          refine lv_aload_n hx hb dX11_connectTree_161 rfl (lv_at hl 6 rfl) ?_
          refine cw_getPr (a := h) hF hH fk_X11_68 dX11_connectTree_162 hw (fun z36 hw => ?_)
          refine lv_bipush (v := 80) hx hb dX11_connectTree_165 (by decide) ?_
          refine cw_cVvq (q := z36) (As := [.int 80]) (rest := []) hF hH hA hE mv_X11_262 ci_X6 (by decide) hw (fun b hw sz => c_X6_begin l D t G _ b 80 _ hw sz) dX11_connectTree_167 ⟨Nat.le_of_ble_eq_true rfl, Nat.le_of_ble_eq_true rfl⟩ rfl hl.1 (Nat.le_of_ble_eq_true rfl) rfl (fun κ37 H locs cells slots hw hH => ?_)
          refine lv_aload_n hx hb dX11_connectTree_170 rfl (lv_at hl 6 rfl) ?_
          refine cw_getPr (a := h) hF hH fk_X11_68 dX11_connectTree_171 hw (fun z39 hw => ?_)
          refine lv_bipush (v := 64) hx hb dX11_connectTree_174 (by decide) ?_
          refine lv_iconst (v := 2) hx hb dX11_connectTree_176 (by decide) ?_
          refine lv_ldc2 (v := 16) hx hb hF.1.2.2.2.1 (hF.1.2.2.2.2 _ (wc_31 14 rfl)) dX11_connectTree_177 ?_
          refine cw_cVvq (q := z39) (As := [.int 64, .int 2, .long 16]) (rest := []) hF hH hA hE mv_X11_349 ci_X6 (by decide) hw (fun b hw sz => c_X6_put l D t G _ b 64 2 16 _ hw sz) dX11_connectTree_180 ⟨Nat.le_of_ble_eq_true rfl, Nat.le_of_ble_eq_true rfl⟩ rfl hl.1 (Nat.le_of_ble_eq_true rfl) rfl (fun κ40 H locs cells slots hw hH => ?_)
          refine lv_aload_n hx hb dX11_connectTree_183 rfl (lv_at hl 6 rfl) ?_
          refine cw_getPr (a := h) hF hH fk_X11_68 dX11_connectTree_184 hw (fun z42 hw => ?_)
          refine lv_bipush (v := 66) hx hb dX11_connectTree_187 (by decide) ?_
          refine lv_iconst (v := 1) hx hb dX11_connectTree_189 (by decide) ?_
          refine lv_lconst (v := 1) hx hb dX11_connectTree_190 (by decide) ?_
          refine cw_cVvq (q := z42) (As := [.int 66, .int 1, .long 1]) (rest := []) hF hH hA hE mv_X11_349 ci_X6 (by decide) hw (fun b hw sz => c_X6_put l D t G _ b 66 1 1 _ hw sz) dX11_connectTree_191 ⟨Nat.le_of_ble_eq_true rfl, Nat.le_of_ble_eq_true rfl⟩ rfl hl.1 (Nat.le_of_ble_eq_true rfl) rfl (fun κ43 H locs cells slots hw hH => ?_)
          refine lv_aload_n hx hb dX11_connectTree_194 rfl (lv_at hl 6 rfl) ?_
          refine cw_getPr (a := h) hF hH fk_X11_68 dX11_connectTree_195 hw (fun z45 hw => ?_)
          refine lv_bipush (v := 76) hx hb dX11_connectTree_198 (by decide) ?_
          refine lv_iconst (v := 4) hx hb dX11_connectTree_200 (by decide) ?_
          refine lv_ldc2 (v := 2032127) hx hb hF.1.2.2.2.1 (hF.1.2.2.2.2 _ (wc_38 13 rfl)) dX11_connectTree_201 ?_
          refine cw_cVvq (q := z45) (As := [.int 76, .int 4, .long 2032127]) (rest := []) hF hH hA hE mv_X11_349 ci_X6 (by decide) hw (fun b hw sz => c_X6_put l D t G _ b 76 4 2032127 _ hw sz) dX11_connectTree_204 ⟨Nat.le_of_ble_eq_true rfl, Nat.le_of_ble_eq_true rfl⟩ rfl hl.1 (Nat.le_of_ble_eq_true rfl) rfl (fun κ46 H locs cells slots hw hH => ?_)
          refine lv_iconst (v := 0) hx hb dX11_connectTree_207 (by decide) ?_
          exact cw_reti hF hH ⟨rfl, rfl⟩ hr rfl hlk dX11_connectTree_208 hw
        · refine lv_ldcw (v := (-1073741670)) hx hb hF.1.2.2.2.1 (hF.1.2.2.2.2 _ (wc_16 28 rfl)) dX11_connectTree_118 ?_
          exact cw_reti hF hH ⟨rfl, rfl⟩ hr rfl hlk dX11_connectTree_121 hw
      · refine lv_ldcw (v := (-1073741620)) hx hb hF.1.2.2.2.1 (hF.1.2.2.2.2 _ (wc_38 8 rfl)) dX11_connectTree_102 ?_
        exact cw_reti hF hH ⟨rfl, rfl⟩ hr rfl hlk dX11_connectTree_105 hw
    · refine w_aloadq_n hF dX11_connectTree_40 rfl (lv_at hl 4 rfl) ?_
      refine lv_iload_n hx hb dX11_connectTree_41 rfl (lv_at hl 3 rfl) ?_
      refine lv_iload hx hb dX11_connectTree_42 (lv_at hl 0 rfl) ?_
      refine lv_iadd hx hb dX11_connectTree_44 ?_
      refine w_nmi hw (fun z48 hw => ?_)
      refine lv_iconst (v := 2) hx hb dX11_connectTree_45 (by decide) ?_
      refine cw_cVlq (q := a1) (As := [.int z48, .int 2]) (rest := []) hF hH hA hE mv_X11_394 ci_X0 (by decide) hw (fun b hw sz => c_X0_number l D t G _ b z48 2 _ hw sz) dX11_connectTree_46 ⟨Nat.le_of_ble_eq_true rfl, Nat.le_of_ble_eq_true rfl⟩ rfl hl.1 (Nat.le_of_ble_eq_true rfl) rfl (fun z50 κ49 H locs cells slots hw hH => ?_)
      refine lv_ldc2 (v := 92) hx hb hF.1.2.2.2.1 (hF.1.2.2.2.2 _ (wc_12 26 rfl)) dX11_connectTree_49 ?_
      obtain ⟨K53, hK54, hw⟩ := jc_open hw
      refine cw_join (K := K53) 62 (fun (x51 : Int32) => [(5, .int x8.1), (4, .int x51), (3, .int z6), (2, .int z3), (1, va_rf a1), (0, .ref h)]) (fun (x51 : Int32) => []) hl hH (fun x51 κ52 ls H locs cells slots hl hw hH => ?_) (fun jn55 => ?_)
      · have hw := hK54 x51 κ52 hw
        have hl : lv_has ls 7 [(5, .int x8.1), (4, .int x51), (3, .int z6), (2, .int z3), (1, va_rf a1), (0, .ref h)] := hl
        obtain ⟨z56, ez56⟩ : ∃ z : Int32, z = x8.1 + 2 := ⟨_, rfl⟩
        have hw := hw z56 ez56
        refine lv_iinc (lv' := [(5, .int z56), (4, .int x51), (3, .int z6), (2, .int z3), (1, va_rf a1), (0, .ref h)]) (k := 0) (v := z56) hx hb dX11_connectTree_62 hl rfl ez56.symm (by decide) rfl (fun ls hl => ?_)
        refine lv_goto (tgt := 34) hx hb dX11_connectTree_65 rfl ?_
        exact ih11 (z56, x51) κ52 ls _ _ _ _ hl hw hH
      · skip
        refine w_lif_ne (tgt := 62) hF dX11_connectTree_52 dX11_connectTree_53 rfl hw (fun hw => ?_) (fun hw => ?_)
        · exact jn55 x8.2 κ49 ls _ _ _ _ hl hw hH
        · refine lv_iload hx hb dX11_connectTree_56 (lv_at hl 0 rfl) ?_
          refine lv_iconst (v := 2) hx hb dX11_connectTree_58 (by decide) ?_
          refine lv_iadd hx hb dX11_connectTree_59 ?_
          refine w_nmi hw (fun z57 hw => ?_)
          refine lv_istore (lv' := [(4, .int z57), (5, .int x8.1), (3, .int z6), (2, .int z3), (1, va_rf a1), (0, .ref h)]) hx hb dX11_connectTree_60 hl (by decide) rfl (fun ls hl => ?_)
          have hl : lv_has ls 7 [(5, .int x8.1), (4, .int z57), (3, .int z6), (2, .int z3), (1, va_rf a1), (0, .ref h)] := lv_sub hl [1, 0, 2, 3, 4, 5] rfl
          exact jn55 z57 κ49 ls _ _ _ _ hl hw hH
  · refine lv_ldcw (v := (-1073741811)) hx hb hF.1.2.2.2.1 (hF.1.2.2.2.2 _ (wc_16 24 rfl)) dX11_connectTree_24 ?_
    exact cw_reti hF hH ⟨rfl, rfl⟩ hr rfl hlk dX11_connectTree_27 hw

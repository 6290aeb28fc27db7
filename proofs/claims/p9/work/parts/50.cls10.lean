/-! the class, lifted: 10 -/
set_option maxRecDepth 100000 in
def F_X11_plainAnswer (G : GE) (h : Nat) (post : Int32 → CS → Prop) (κ : CS) : Prop := (h ∈ sL κ.1 ∧ sK κ.1 h = 1) ∧ ∀ z1 : Option Nat, z1 = sP κ.1 h 15 → ∃ b : Nat, z1 = some b ∧ (b ∈ sL κ.1 ∧ sK κ.1 b = 2) ∧ F_X6_begin G b 68 (fun (κ2 : CS) => (h ∈ sL κ2.1 ∧ sK κ2.1 h = 1) ∧ ∀ z4 : Option Nat, z4 = sP κ2.1 h 15 → ∃ b : Nat, z4 = some b ∧ (b ∈ sL κ2.1 ∧ sK κ2.1 b = 2) ∧ F_X6_put G b 64 2 4 (fun (κ5 : CS) => post 0 κ5) κ2) κ
theorem dX11_plainAnswer_0 : decode cX11_plainAnswer 0 = .ok (.aload_n 0, 1) := by decide +kernel
theorem dX11_plainAnswer_1 : decode cX11_plainAnswer 1 = .ok (.getfield 68, 3) := by decide +kernel
theorem dX11_plainAnswer_4 : decode cX11_plainAnswer 4 = .ok (.bipush 68, 2) := by decide +kernel
theorem dX11_plainAnswer_6 : decode cX11_plainAnswer 6 = .ok (.invokevirtual 262, 3) := by decide +kernel
theorem dX11_plainAnswer_9 : decode cX11_plainAnswer 9 = .ok (.aload_n 0, 1) := by decide +kernel
theorem dX11_plainAnswer_10 : decode cX11_plainAnswer 10 = .ok (.getfield 68, 3) := by decide +kernel
theorem dX11_plainAnswer_13 : decode cX11_plainAnswer 13 = .ok (.bipush 64, 2) := by decide +kernel
theorem dX11_plainAnswer_15 : decode cX11_plainAnswer 15 = .ok (.iconst 2, 1) := by decide +kernel
theorem dX11_plainAnswer_16 : decode cX11_plainAnswer 16 = .ok (.ldc2_w 481, 3) := by decide +kernel
theorem dX11_plainAnswer_19 : decode cX11_plainAnswer 19 = .ok (.invokevirtual 349, 3) := by decide +kernel
theorem dX11_plainAnswer_22 : decode cX11_plainAnswer 22 = .ok (.iconst 0, 1) := by decide +kernel
theorem dX11_plainAnswer_23 : decode cX11_plainAnswer 23 = .ok (.ireturn, 1) := by decide +kernel
set_option maxRecDepth 100000 in
set_option maxHeartbeats 4000000 in
theorem c_X11_plainAnswer (l : Launch) (D : va_G) (t : Nat → ClassId) (G : GE) (κ : CS) (h : Nat) (post : Int32 → CS → Prop) (hw : F_X11_plainAnswer G h post κ) (sz : Nat) : CMi l D t yX11_plainAnswer cX11_plainAnswer 1 (some .int) 3 82 G κ sz [.ref h] post := by
  refine c_go (by decide) (Nat.le_of_ble_eq_true rfl) ?_
  intro p e s m below meth c ls A hF hr hlk hin hAe hH hA hE hl
  unfold cB
  rw [hAe]
  clear hAe
  have hF : FX p m c cX11_plainAnswer 1 s _ RX11 D t := hF
  have hx := hF.1.1
  have hb := hF.1.2.1
  have hl : lv_has ls 1 [(0, .ref h)] := hl
  unfold F_X11_plainAnswer at hw
  refine lv_aload_n hx hb dX11_plainAnswer_0 rfl (lv_at hl 0 rfl) ?_
  refine cw_getPr (a := h) hF hH fk_X11_68 dX11_plainAnswer_1 hw (fun z1 hw => ?_)
  refine lv_bipush (v := 68) hx hb dX11_plainAnswer_4 (by decide) ?_
  refine cw_cVvq (q := z1) (As := [.int 68]) (rest := []) hF hH hA hE mv_X11_262 ci_X6 (by decide) hw (fun b hw sz => c_X6_begin l D t G _ b 68 _ hw sz) dX11_plainAnswer_6 ⟨Nat.le_of_ble_eq_true rfl, Nat.le_of_ble_eq_true rfl⟩ rfl hl.1 (Nat.le_of_ble_eq_true rfl) rfl (fun κ2 H locs cells slots hw hH => ?_)
  refine lv_aload_n hx hb dX11_plainAnswer_9 rfl (lv_at hl 0 rfl) ?_
  refine cw_getPr (a := h) hF hH fk_X11_68 dX11_plainAnswer_10 hw (fun z4 hw => ?_)
  refine lv_bipush (v := 64) hx hb dX11_plainAnswer_13 (by decide) ?_
  refine lv_iconst (v := 2) hx hb dX11_plainAnswer_15 (by decide) ?_
  refine lv_ldc2 (v := 4) hx hb hF.1.2.2.2.1 (hF.1.2.2.2.2 _ (wc_16 27 rfl)) dX11_plainAnswer_16 ?_
  refine cw_cVvq (q := z4) (As := [.int 64, .int 2, .long 4]) (rest := []) hF hH hA hE mv_X11_349 ci_X6 (by decide) hw (fun b hw sz => c_X6_put l D t G _ b 64 2 4 _ hw sz) dX11_plainAnswer_19 ⟨Nat.le_of_ble_eq_true rfl, Nat.le_of_ble_eq_true rfl⟩ rfl hl.1 (Nat.le_of_ble_eq_true rfl) rfl (fun κ5 H locs cells slots hw hH => ?_)
  refine lv_iconst (v := 0) hx hb dX11_plainAnswer_22 (by decide) ?_
  exact cw_reti hF hH ⟨rfl, rfl⟩ hr rfl hlk dX11_plainAnswer_23 hw
set_option maxRecDepth 100000 in
def F_X11_flush (G : GE) (h : Nat) (a1 : Option Nat) (post : Int32 → CS → Prop) (κ : CS) : Prop := ∃ b : Nat, a1 = some b ∧ (b ∈ sL κ.1 ∧ sK κ.1 b = 10) ∧ ∀ z1 : Int32, z1 = sI κ.1 b 3 → ∀ z2 : Int32, z2 = z1 &&& 6 → ((¬ z2.toInt = 0) → (h ∈ sL κ.1 ∧ sK κ.1 h = 1) ∧ F_X11_comeToDisk G h  (fun (κ3 : CS) => (h ∈ sL κ3.1 ∧ sK κ3.1 h = 1) ∧ F_X11_plainAnswer G h  (fun (z6 : Int32) (κ5 : CS) => post z6 κ5) κ3) κ) ∧ ((z2.toInt = 0) → post (-1073741790) κ)
theorem dX11_flush_0 : decode cX11_flush 0 = .ok (.aload_n 1, 1) := by decide +kernel
theorem dX11_flush_1 : decode cX11_flush 1 = .ok (.getfield 765, 3) := by decide +kernel
theorem dX11_flush_4 : decode cX11_flush 4 = .ok (.bipush 6, 2) := by decide +kernel
theorem dX11_flush_6 : decode cX11_flush 6 = .ok (.iand, 1) := by decide +kernel
theorem dX11_flush_7 : decode cX11_flush 7 = .ok (.ifCond .ne 7, 3) := by decide +kernel
theorem dX11_flush_10 : decode cX11_flush 10 = .ok (.ldc_w 658, 3) := by decide +kernel
theorem dX11_flush_13 : decode cX11_flush 13 = .ok (.ireturn, 1) := by decide +kernel
theorem dX11_flush_14 : decode cX11_flush 14 = .ok (.aload_n 0, 1) := by decide +kernel
theorem dX11_flush_15 : decode cX11_flush 15 = .ok (.invokevirtual 185, 3) := by decide +kernel
theorem dX11_flush_18 : decode cX11_flush 18 = .ok (.aload_n 0, 1) := by decide +kernel
theorem dX11_flush_19 : decode cX11_flush 19 = .ok (.invokevirtual 447, 3) := by decide +kernel
theorem dX11_flush_22 : decode cX11_flush 22 = .ok (.ireturn, 1) := by decide +kernel
set_option maxRecDepth 100000 in
set_option maxHeartbeats 4000000 in
theorem c_X11_flush (l : Launch) (D : va_G) (t : Nat → ClassId) (G : GE) (κ : CS) (h : Nat) (a1 : Option Nat) (post : Int32 → CS → Prop) (hw : F_X11_flush G h a1 post κ) (sz : Nat) : CMi l D t yX11_flush cX11_flush 2 (some .int) 4 107 G κ sz [.ref h, va_rf a1] post := by
  refine c_go (by decide) (by cases a1 <;> exact Nat.le_of_ble_eq_true rfl) ?_
  intro p e s m below meth c ls A hF hr hlk hin hAe hH hA hE hl
  unfold cB
  rw [hAe]
  clear hAe
  have hF : FX p m c cX11_flush 2 s _ RX11 D t := hF
  have hx := hF.1.1
  have hb := hF.1.2.1
  have hl : lv_has ls 2 [(0, .ref h), (1, va_rf a1)] := (by have h2 := hl; clear hw; revert h2; cases a1 <;> exact id)
  unfold F_X11_flush at hw
  refine w_aloadq_n hF dX11_flush_0 rfl (lv_at hl 1 rfl) ?_
  refine cw_getI (q := a1) hF hH fk_X11_765 dX11_flush_1 hw (fun z1 hw => ?_)
  refine lv_bipush (v := 6) hx hb dX11_flush_4 (by decide) ?_
  refine lv_iand hx hb dX11_flush_6 ?_
  refine w_nmi hw (fun z2 hw => ?_)
  refine w_if_ne (tgt := 14) hF dX11_flush_7 rfl hw (fun hw => ?_) (fun hw => ?_)
  · refine lv_aload_n hx hb dX11_flush_14 rfl (lv_at hl 0 rfl) ?_
    refine cw_cVv (b := h) (As := []) (rest := []) hF hH hA hE mv_X11_185 ci_X11 (by decide) (fun sz => c_X11_comeToDisk l D t G _ h  _ hw.2 sz) dX11_flush_15 hw.1 ⟨Nat.le_of_ble_eq_true rfl, Nat.le_of_ble_eq_true rfl⟩ rfl hl.1 (Nat.le_of_ble_eq_true rfl) rfl (fun κ3 H locs cells slots hw hH => ?_)
    refine lv_aload_n hx hb dX11_flush_18 rfl (lv_at hl 0 rfl) ?_
    refine cw_cVi (b := h) (As := []) (rest := []) hF hH hA hE mv_X11_447 ci_X11 (by decide) (fun sz => c_X11_plainAnswer l D t G _ h  _ hw.2 sz) dX11_flush_19 hw.1 ⟨Nat.le_of_ble_eq_true rfl, Nat.le_of_ble_eq_true rfl⟩ rfl hl.1 (Nat.le_of_ble_eq_true rfl) rfl (fun z6 κ5 H locs cells slots hw hH => ?_)
    exact cw_reti hF hH ⟨rfl, rfl⟩ hr rfl hlk dX11_flush_22 hw
  · refine lv_ldcw (v := (-1073741790)) hx hb hF.1.2.2.2.1 (hF.1.2.2.2.2 _ (wc_22 30 rfl)) dX11_flush_10 ?_
    exact cw_reti hF hH ⟨rfl, rfl⟩ hr rfl hlk dX11_flush_13 hw
set_option maxRecDepth 100000 in
def F_X11_othersLock (G : GE) (h : Nat) (a1 : Option Nat) (a2 : Int64) (a4 : Int64) (a6 : Int32) (post : Int32 → CS → Prop) (κ : CS) : Prop := lc (fun (K3 : Int32 → CS → Prop) (x1 : Int32) (κ2 : CS) => (h ∈ sL κ2.1 ∧ sK κ2.1 h = 1) ∧ ∀ z5 : Option Nat, z5 = sP κ2.1 h 11 → ∃ b : Nat, z5 = some b ∧ (b ∈ sL κ2.1 ∧ sK κ2.1 b = 7) ∧ F_Jx4a65c_size_8abf5 G b  (fun (z7 : Int32) (κ6 : CS) => ((z7.toInt ≤ x1.toInt) → (0 ≤ (0 : Int32).toInt ∧ (0 : Int32).toInt ≤ 1) ∧ post 0 κ6) ∧ ((x1.toInt < z7.toInt) → (h ∈ sL κ6.1 ∧ sK κ6.1 h = 1) ∧ ∀ z8 : Option Nat, z8 = sP κ6.1 h 11 → ∃ b : Nat, z8 = some b ∧ (b ∈ sL κ6.1 ∧ sK κ6.1 b = 7) ∧ F_Jx4a65c_get_915e3 G b x1 (fun (z10 : Option Nat) (κ9 : CS) => (z10 = none ∨ ∃ b : Nat, z10 = some b ∧ b ∈ sL κ9.1 ∧ sK κ9.1 b = 9) ∧ ∃ b : Nat, z10 = some b ∧ (b ∈ sL κ9.1 ∧ sK κ9.1 b = 9) ∧ ∀ z11 : Option Nat, z11 = sP κ9.1 b 0 → ∃ b : Nat, z11 = some b ∧ (b ∈ sL κ9.1 ∧ sK κ9.1 b = 10) ∧ ∀ z12 : Option Nat, z12 = sP κ9.1 b 2 → ∃ b : Nat, a1 = some b ∧ (b ∈ sL κ9.1 ∧ sK κ9.1 b = 10) ∧ ∀ z13 : Option Nat, z13 = sP κ9.1 b 2 → jc (fun (K16 : Unit → CS → Prop) => ((¬ z12 = z13) → K16 () κ9) ∧ ((z12 = z13) → ∃ b : Nat, z10 = some b ∧ (b ∈ sL κ9.1 ∧ sK κ9.1 b = 9) ∧ ∀ z20 : Option Nat, z20 = sP κ9.1 b 0 → ((z20 = a1) → K16 () κ9) ∧ ((¬ z20 = a1) → jc (fun (K23 : Unit → CS → Prop) => ((¬ a6.toInt = 0) → K23 () κ9) ∧ ((a6.toInt = 0) → ∃ b : Nat, z10 = some b ∧ (b ∈ sL κ9.1 ∧ sK κ9.1 b = 9) ∧ ∀ z28 : Int32, z28 = sI κ9.1 b 3 → ((¬ z28.toInt = 0) → K16 () κ9) ∧ ((z28.toInt = 0) → K23 () κ9))) (fun (x21 : Unit) (κ22 : CS) => ∃ b : Nat, z10 = some b ∧ (b ∈ sL κ22.1 ∧ sK κ22.1 b = 9) ∧ F_X3_meets G b a2 a4 (fun (z27 : Int32) (κ26 : CS) => ((z27.toInt = 0) → K16 () κ26) ∧ ((¬ z27.toInt = 0) → (0 ≤ (1 : Int32).toInt ∧ (1 : Int32).toInt ≤ 1) ∧ post 1 κ26)) κ22)))) (fun (x14 : Unit) (κ15 : CS) => ∀ z19 : Int32, z19 = x1 + 1 → K3 z19 κ15)) κ6)) κ2) 0 κ
theorem dX11_othersLock_0 : decode cX11_othersLock 0 = .ok (.iconst 0, 1) := by decide +kernel
theorem dX11_othersLock_1 : decode cX11_othersLock 1 = .ok (.istore 7, 2) := by decide +kernel
theorem dX11_othersLock_3 : decode cX11_othersLock 3 = .ok (.iload 7, 2) := by decide +kernel
theorem dX11_othersLock_5 : decode cX11_othersLock 5 = .ok (.aload_n 0, 1) := by decide +kernel
theorem dX11_othersLock_6 : decode cX11_othersLock 6 = .ok (.getfield 55, 3) := by decide +kernel
theorem dX11_othersLock_9 : decode cX11_othersLock 9 = .ok (.invokevirtual 161, 3) := by decide +kernel
theorem dX11_othersLock_12 : decode cX11_othersLock 12 = .ok (.if_icmp .ge 73, 3) := by decide +kernel
theorem dX11_othersLock_15 : decode cX11_othersLock 15 = .ok (.aload_n 0, 1) := by decide +kernel
theorem dX11_othersLock_16 : decode cX11_othersLock 16 = .ok (.getfield 55, 3) := by decide +kernel
theorem dX11_othersLock_19 : decode cX11_othersLock 19 = .ok (.iload 7, 2) := by decide +kernel
theorem dX11_othersLock_21 : decode cX11_othersLock 21 = .ok (.invokevirtual 164, 3) := by decide +kernel
theorem dX11_othersLock_24 : decode cX11_othersLock 24 = .ok (.checkcast 561, 3) := by decide +kernel
theorem dX11_othersLock_27 : decode cX11_othersLock 27 = .ok (.astore 8, 2) := by decide +kernel
theorem dX11_othersLock_29 : decode cX11_othersLock 29 = .ok (.aload 8, 2) := by decide +kernel
theorem dX11_othersLock_31 : decode cX11_othersLock 31 = .ok (.getfield 563, 3) := by decide +kernel
theorem dX11_othersLock_34 : decode cX11_othersLock 34 = .ok (.getfield 564, 3) := by decide +kernel
theorem dX11_othersLock_37 : decode cX11_othersLock 37 = .ok (.aload_n 1, 1) := by decide +kernel
theorem dX11_othersLock_38 : decode cX11_othersLock 38 = .ok (.getfield 564, 3) := by decide +kernel
theorem dX11_othersLock_41 : decode cX11_othersLock 41 = .ok (.if_acmp .ne 38, 3) := by decide +kernel
theorem dX11_othersLock_44 : decode cX11_othersLock 44 = .ok (.aload 8, 2) := by decide +kernel
theorem dX11_othersLock_46 : decode cX11_othersLock 46 = .ok (.getfield 563, 3) := by decide +kernel
theorem dX11_othersLock_49 : decode cX11_othersLock 49 = .ok (.aload_n 1, 1) := by decide +kernel
theorem dX11_othersLock_50 : decode cX11_othersLock 50 = .ok (.if_acmp .eq 29, 3) := by decide +kernel
theorem dX11_othersLock_53 : decode cX11_othersLock 53 = .ok (.iload 6, 2) := by decide +kernel
theorem dX11_othersLock_55 : decode cX11_othersLock 55 = .ok (.ifCond .ne 11, 3) := by decide +kernel
theorem dX11_othersLock_58 : decode cX11_othersLock 58 = .ok (.aload 8, 2) := by decide +kernel
theorem dX11_othersLock_60 : decode cX11_othersLock 60 = .ok (.getfield 859, 3) := by decide +kernel
theorem dX11_othersLock_63 : decode cX11_othersLock 63 = .ok (.ifCond .ne 16, 3) := by decide +kernel
theorem dX11_othersLock_66 : decode cX11_othersLock 66 = .ok (.aload 8, 2) := by decide +kernel
theorem dX11_othersLock_68 : decode cX11_othersLock 68 = .ok (.lload_n 2, 1) := by decide +kernel
theorem dX11_othersLock_69 : decode cX11_othersLock 69 = .ok (.lload 4, 2) := by decide +kernel
theorem dX11_othersLock_71 : decode cX11_othersLock 71 = .ok (.invokevirtual 862, 3) := by decide +kernel
theorem dX11_othersLock_74 : decode cX11_othersLock 74 = .ok (.ifCond .eq 5, 3) := by decide +kernel
theorem dX11_othersLock_77 : decode cX11_othersLock 77 = .ok (.iconst 1, 1) := by decide +kernel
theorem dX11_othersLock_78 : decode cX11_othersLock 78 = .ok (.ireturn, 1) := by decide +kernel
theorem dX11_othersLock_79 : decode cX11_othersLock 79 = .ok (.iinc 7 1, 3) := by decide +kernel
theorem dX11_othersLock_82 : decode cX11_othersLock 82 = .ok (.goto (-79), 3) := by decide +kernel
theorem dX11_othersLock_85 : decode cX11_othersLock 85 = .ok (.iconst 0, 1) := by decide +kernel
theorem dX11_othersLock_86 : decode cX11_othersLock 86 = .ok (.ireturn, 1) := by decide +kernel
set_option maxRecDepth 100000 in
set_option maxHeartbeats 4000000 in
theorem c_X11_othersLock (l : Launch) (D : va_G) (t : Nat → ClassId) (G : GE) (κ : CS) (h : Nat) (a1 : Option Nat) (a2 : Int64) (a4 : Int64) (a6 : Int32) (post : Int32 → CS → Prop) (hw : F_X11_othersLock G h a1 a2 a4 a6 post κ) (sz : Nat) : CMi l D t yX11_othersLock cX11_othersLock 9 (some .boolean) 3 78 G κ sz [.ref h, va_rf a1, .long a2, .long a4, .int a6] post := by
  refine c_go (by decide) (by cases a1 <;> exact Nat.le_of_ble_eq_true rfl) ?_
  intro p e s m below meth c ls A hF hr hlk hin hAe hH hA hE hl
  unfold cB
  rw [hAe]
  clear hAe
  have hF : FX p m c cX11_othersLock 9 s _ RX11 D t := hF
  have hx := hF.1.1
  have hb := hF.1.2.1
  have hl : lv_has ls 9 [(0, .ref h), (1, va_rf a1), (2, .long a2), (4, .long a4), (6, .int a6)] := (by have h2 := hl; clear hw; revert h2; cases a1 <;> exact id)
  unfold F_X11_othersLock at hw
  refine lv_iconst (v := 0) hx hb dX11_othersLock_0 (by decide) ?_
  refine lv_istore (lv' := [(7, .int 0), (0, .ref h), (1, va_rf a1), (2, .long a2), (4, .long a4), (6, .int a6)]) hx hb dX11_othersLock_1 hl (by decide) rfl (fun ls hl => ?_)
  have hl : lv_has ls 9 [(7, .int 0), (6, .int a6), (4, .long a4), (2, .long a2), (1, va_rf a1), (0, .ref h)] := lv_sub hl [0, 5, 4, 3, 2, 1] rfl
  refine cw_loop (β := Int32) (fun x1 => [(7, .int x1), (6, .int a6), (4, .long a4), (2, .long a2), (1, va_rf a1), (0, .ref h)]) 0 hl hw hH (fun K3 x1 κ2 ls H locs cells slots hl hw hH ih4 => ?_)
  have hl : lv_has ls 9 [(7, .int x1), (6, .int a6), (4, .long a4), (2, .long a2), (1, va_rf a1), (0, .ref h)] := hl
  refine lv_iload hx hb dX11_othersLock_3 (lv_at hl 0 rfl) ?_
  refine lv_aload_n hx hb dX11_othersLock_5 rfl (lv_at hl 5 rfl) ?_
  refine cw_getPr (a := h) hF hH fk_X11_55 dX11_othersLock_6 hw (fun z5 hw => ?_)
  refine cw_cViq (q := z5) (As := []) (rest := [.int x1]) hF hH hA hE mv_X11_161 ci_Jx4a65c (by decide) hw (fun b hw sz => c_Jx4a65c_size_8abf5 l D t G _ b  _ hw sz) dX11_othersLock_9 ⟨Nat.le_of_ble_eq_true rfl, Nat.le_of_ble_eq_true rfl⟩ rfl hl.1 (Nat.le_of_ble_eq_true rfl) rfl (fun z7 κ6 H locs cells slots hw hH => ?_)
  refine w_icmp_ge (tgt := 85) hF dX11_othersLock_12 rfl hw (fun hw => ?_) (fun hw => ?_)
  · refine lv_iconst (v := 0) hx hb dX11_othersLock_85 (by decide) ?_
    exact cw_retz hF hH ⟨rfl, rfl⟩ hr hlk dX11_othersLock_86 hw
  · refine lv_aload_n hx hb dX11_othersLock_15 rfl (lv_at hl 5 rfl) ?_
    refine cw_getPr (a := h) hF hH fk_X11_55 dX11_othersLock_16 hw (fun z8 hw => ?_)
    refine lv_iload hx hb dX11_othersLock_19 (lv_at hl 0 rfl) ?_
    refine cw_cVqq (q := z8) (As := [.int x1]) (rest := []) hF hH hA hE mv_X11_164 ci_Jx4a65c (by decide) hw (fun b hw sz => c_Jx4a65c_get_915e3 l D t G _ b x1 _ hw sz) dX11_othersLock_21 ⟨Nat.le_of_ble_eq_true rfl, Nat.le_of_ble_eq_true rfl⟩ rfl hl.1 (Nat.le_of_ble_eq_true rfl) rfl (fun z10 κ9 H locs cells slots hw hH => ?_)
    refine cw_cast (q := z10) hF hH ci_X3 (by decide) (wc_17 27 rfl) (by decide) dX11_othersLock_24 hw (fun hw => ?_)
    refine w_astoreq (lv' := [(8, va_rf z10), (7, .int x1), (6, .int a6), (4, .long a4), (2, .long a2), (1, va_rf a1), (0, .ref h)]) hF dX11_othersLock_27 hl (by decide) rfl (fun ls hl => ?_)
    refine w_aloadq hF dX11_othersLock_29 (lv_at hl 0 rfl) ?_
    refine cw_getP (q := z10) hF hH fk_X11_563 dX11_othersLock_31 hw (fun z11 hw => ?_)
    refine cw_getP (q := z11) hF hH fk_X11_564 dX11_othersLock_34 hw (fun z12 hw => ?_)
    refine w_aloadq_n hF dX11_othersLock_37 rfl (lv_at hl 5 rfl) ?_
    refine cw_getP (q := a1) hF hH fk_X11_564 dX11_othersLock_38 hw (fun z13 hw => ?_)
    obtain ⟨K16, hK17, hw⟩ := jc_open hw
    refine cw_join (K := K16) 79 (fun (x14 : Unit) => [(7, .int x1), (6, .int a6), (4, .long a4), (2, .long a2), (1, va_rf a1), (0, .ref h)]) (fun (x14 : Unit) => []) hl hH (fun x14 κ15 ls H locs cells slots hl hw hH => ?_) (fun jn18 => ?_)
    · have hw := hK17 x14 κ15 hw
      have hl : lv_has ls 9 [(7, .int x1), (6, .int a6), (4, .long a4), (2, .long a2), (1, va_rf a1), (0, .ref h)] := hl
      obtain ⟨z19, ez19⟩ : ∃ z : Int32, z = x1 + 1 := ⟨_, rfl⟩
      have hw := hw z19 ez19
      refine lv_iinc (lv' := [(7, .int z19), (6, .int a6), (4, .long a4), (2, .long a2), (1, va_rf a1), (0, .ref h)]) (k := 0) (v := z19) hx hb dX11_othersLock_79 hl rfl ez19.symm (by decide) rfl (fun ls hl => ?_)
      refine lv_goto (tgt := 3) hx hb dX11_othersLock_82 rfl ?_
      exact ih4 z19 κ15 ls _ _ _ _ hl hw hH
    · skip
      refine cw_acmp_ne (rx := z12) (ry := z13) (tgt := 79) hF dX11_othersLock_41 rfl hw (fun hw => ?_) (fun hw => ?_)
      · have hl : lv_has ls 9 [(7, .int x1), (6, .int a6), (4, .long a4), (2, .long a2), (1, va_rf a1), (0, .ref h)] := lv_sub hl [1, 2, 3, 4, 5, 6] rfl
        exact jn18 () κ9 ls _ _ _ _ hl hw hH
      · refine w_aloadq hF dX11_othersLock_44 (lv_at hl 0 rfl) ?_
        refine cw_getP (q := z10) hF hH fk_X11_563 dX11_othersLock_46 hw (fun z20 hw => ?_)
        refine w_aloadq_n hF dX11_othersLock_49 rfl (lv_at hl 5 rfl) ?_
        refine cw_acmp_eq (rx := z20) (ry := a1) (tgt := 79) hF dX11_othersLock_50 rfl hw (fun hw => ?_) (fun hw => ?_)
        · have hl : lv_has ls 9 [(7, .int x1), (6, .int a6), (4, .long a4), (2, .long a2), (1, va_rf a1), (0, .ref h)] := lv_sub hl [1, 2, 3, 4, 5, 6] rfl
          exact jn18 () κ9 ls _ _ _ _ hl hw hH
        · refine lv_iload hx hb dX11_othersLock_53 (lv_at hl 2 rfl) ?_
          obtain ⟨K23, hK24, hw⟩ := jc_open hw
          refine cw_join (K := K23) 66 (fun (x21 : Unit) => [(8, va_rf z10), (7, .int x1), (6, .int a6), (4, .long a4), (2, .long a2), (1, va_rf a1), (0, .ref h)]) (fun (x21 : Unit) => []) hl hH (fun x21 κ22 ls H locs cells slots hl hw hH => ?_) (fun jn25 => ?_)
          · have hw := hK24 x21 κ22 hw
            have hl : lv_has ls 9 [(8, va_rf z10), (7, .int x1), (6, .int a6), (4, .long a4), (2, .long a2), (1, va_rf a1), (0, .ref h)] := hl
            refine w_aloadq hF dX11_othersLock_66 (lv_at hl 0 rfl) ?_
            refine lv_lload_n hx hb dX11_othersLock_68 rfl (lv_at hl 4 rfl) ?_
            refine lv_lload hx hb dX11_othersLock_69 (lv_at hl 3 rfl) ?_
            refine cw_cViq (q := z10) (As := [.long a2, .long a4]) (rest := []) hF hH hA hE mv_X11_862 ci_X3 (by decide) hw (fun b hw sz => c_X3_meets l D t G _ b a2 a4 _ hw sz) dX11_othersLock_71 ⟨Nat.le_of_ble_eq_true rfl, Nat.le_of_ble_eq_true rfl⟩ rfl hl.1 (Nat.le_of_ble_eq_true rfl) rfl (fun z27 κ26 H locs cells slots hw hH => ?_)
            refine w_if_eq (tgt := 79) hF dX11_othersLock_74 rfl hw (fun hw => ?_) (fun hw => ?_)
            · have hl : lv_has ls 9 [(7, .int x1), (6, .int a6), (4, .long a4), (2, .long a2), (1, va_rf a1), (0, .ref h)] := lv_sub hl [1, 2, 3, 4, 5, 6] rfl
              exact jn18 () κ26 ls _ _ _ _ hl hw hH
            · refine lv_iconst (v := 1) hx hb dX11_othersLock_77 (by decide) ?_
              exact cw_retz hF hH ⟨rfl, rfl⟩ hr hlk dX11_othersLock_78 hw
          · skip
            refine w_if_ne (tgt := 66) hF dX11_othersLock_55 rfl hw (fun hw => ?_) (fun hw => ?_)
            · exact jn25 () κ9 ls _ _ _ _ hl hw hH
            · refine w_aloadq hF dX11_othersLock_58 (lv_at hl 0 rfl) ?_
              refine cw_getI (q := z10) hF hH fk_X11_859 dX11_othersLock_60 hw (fun z28 hw => ?_)
              refine w_if_ne (tgt := 79) hF dX11_othersLock_63 rfl hw (fun hw => ?_) (fun hw => ?_)
              · have hl : lv_has ls 9 [(7, .int x1), (6, .int a6), (4, .long a4), (2, .long a2), (1, va_rf a1), (0, .ref h)] := lv_sub hl [1, 2, 3, 4, 5, 6] rfl
                exact jn18 () κ9 ls _ _ _ _ hl hw hH
              · exact jn25 () κ9 ls _ _ _ _ hl hw hH
set_option maxRecDepth 100000 in
def F_X11_read (G : GE) (h : Nat) (a1 : Option Nat) (a2 : Option Nat) (post : Int32 → CS → Prop) (κ : CS) : Prop := ∃ b : Nat, a2 = some b ∧ (b ∈ sL κ.1 ∧ sK κ.1 b = 10) ∧ ∀ z1 : Option Nat, z1 = sP κ.1 b 2 → ∃ b : Nat, a1 = some b ∧ (b ∈ sL κ.1 ∧ sK κ.1 b = 8) ∧ F_X0_number G b 68 4 (fun (z3 : Int64) (κ2 : CS) => ∃ b : Nat, a1 = some b ∧ (b ∈ sL κ2.1 ∧ sK κ2.1 b = 8) ∧ F_X0_number G b 72 8 (fun (z5 : Int64) (κ4 : CS) => ((z3.toInt ≤ (1024 : Int64).toInt) → ∃ b : Nat, z1 = some b ∧ (b ∈ sL κ4.1 ∧ sK κ4.1 b = 5) ∧ ∀ z6 : Int32, z6 = sI κ4.1 b 2 → ((z6.toInt = 0) → ∃ b : Nat, a2 = some b ∧ (b ∈ sL κ4.1 ∧ sK κ4.1 b = 10) ∧ ∀ z7 : Int32, z7 = sI κ4.1 b 3 → ∀ z8 : Int32, z8 = z7 &&& 1 → ((¬ z8.toInt = 0) → (h ∈ sL κ4.1 ∧ sK κ4.1 h = 1) ∧ F_X11_othersLock G h a2 z5 z3 0 (fun (z10 : Int32) (κ9 : CS) => ((z10.toInt = 0) → ∃ b : Nat, z1 = some b ∧ (b ∈ sL κ9.1 ∧ sK κ9.1 b = 5) ∧ ∀ z11 : Int32, z11 = sI κ9.1 b 12 → ∀ z12 : Int64, z12 = (z11 : Int32).toInt64 → F_X11_below G z5 z12 (fun (z14 : Int32) (κ13 : CS) => jc (fun (K17 : Int32 → CS → Prop) => ((¬ z14.toInt = 0) → K17 0 κ13) ∧ ((z14.toInt = 0) → K17 1 κ13)) (fun (x15 : Int32) (κ16 : CS) => jc (fun (K22 : Int32 → CS → Prop) => ((x15.toInt = 0) → ∃ b : Nat, z1 = some b ∧ (b ∈ sL κ16.1 ∧ sK κ16.1 b = 5) ∧ ∀ z68 : Int32, z68 = sI κ16.1 b 12 → ∀ z69 : Int64, z69 = (z68 : Int32).toInt64 → ∀ z70 : Int64, z70 = z69 - z5 → ∀ z72 : Int64, z72.toInt = min z3.toInt z70.toInt → ∀ z73 : Int32, z73 = (z72 : Int64).toInt32 → K22 z73 κ16) ∧ ((¬ x15.toInt = 0) → K22 0 κ16)) (fun (x20 : Int32) (κ21 : CS) => jc (fun (K27 : Unit → CS → Prop) => jc (fun (K32 : Unit → CS → Prop) => ((x15.toInt = 0) → K32 () κ21) ∧ ((¬ x15.toInt = 0) → ((¬ z3.toInt = (0 : Int64).toInt) → K27 () κ21) ∧ ((z3.toInt = (0 : Int64).toInt) → K32 () κ21))) (fun (x30 : Unit) (κ31 : CS) => ∀ z35 : Int64, z35 = (x20 : Int32).toInt64 → ∃ b : Nat, a1 = some b ∧ (b ∈ sL κ31.1 ∧ sK κ31.1 b = 8) ∧ F_X0_number G b 96 4 (fun (z37 : Int64) (κ36 : CS) => ((z37.toInt ≤ z35.toInt) → (h ∈ sL κ36.1 ∧ sK κ36.1 h = 1) ∧ ∀ z38 : Option Nat, z38 = sP κ36.1 h 15 → ∀ z40 : Int32, z40.toInt = max ((1 : Int32).toInt) x20.toInt → ∀ z41 : Int32, z41 = 80 + z40 → ∃ b : Nat, z38 = some b ∧ (b ∈ sL κ36.1 ∧ sK κ36.1 b = 2) ∧ F_X6_begin G b z41 (fun (κ42 : CS) => (h ∈ sL κ42.1 ∧ sK κ42.1 h = 1) ∧ ∀ z44 : Option Nat, z44 = sP κ42.1 h 15 → ∃ b : Nat, z44 = some b ∧ (b ∈ sL κ42.1 ∧ sK κ42.1 b = 2) ∧ F_X6_put G b 64 2 17 (fun (κ45 : CS) => (h ∈ sL κ45.1 ∧ sK κ45.1 h = 1) ∧ ∀ z47 : Option Nat, z47 = sP κ45.1 h 15 → ∃ b : Nat, z47 = some b ∧ (b ∈ sL κ45.1 ∧ sK κ45.1 b = 2) ∧ F_X6_put G b 66 1 80 (fun (κ48 : CS) => (h ∈ sL κ48.1 ∧ sK κ48.1 h = 1) ∧ ∀ z50 : Option Nat, z50 = sP κ48.1 h 15 → ∀ z51 : Int64, z51 = (x20 : Int32).toInt64 → ∃ b : Nat, z50 = some b ∧ (b ∈ sL κ48.1 ∧ sK κ48.1 b = 2) ∧ F_X6_put G b 68 4 z51 (fun (κ52 : CS) => lc (fun (K56 : Int32 → CS → Prop) (x54 : Int32) (κ55 : CS) => ((x20.toInt ≤ x54.toInt) → post 0 κ55) ∧ ((x54.toInt < x20.toInt) → (h ∈ sL κ55.1 ∧ sK κ55.1 h = 1) ∧ ∀ z58 : Option Nat, z58 = sP κ55.1 h 15 → ∀ z59 : Int32, z59 = 80 + x54 → ∀ z60 : Int32, z60 = (z5 : Int64).toInt32 → ∀ z61 : Int32, z61 = z60 + x54 → ∃ b : Nat, z1 = some b ∧ (b ∈ sL κ55.1 ∧ sK κ55.1 b = 5) ∧ F_X4_byteAt G b z61 (fun (z63 : Int32) (κ62 : CS) => ∀ z64 : Int64, z64 = (z63 : Int32).toInt64 → ∃ b : Nat, z58 = some b ∧ (b ∈ sL κ62.1 ∧ sK κ62.1 b = 2) ∧ F_X6_put G b z59 1 z64 (fun (κ65 : CS) => ∀ z67 : Int32, z67 = x54 + 1 → K56 z67 κ65) κ62) κ55)) 0 κ52) κ48) κ45) κ42) κ36) ∧ ((z35.toInt < z37.toInt) → K27 () κ36)) κ31)) (fun (x25 : Unit) (κ26 : CS) => post (-1073741807) κ26)))) κ9) ∧ ((¬ z10.toInt = 0) → post (-1073741740) κ9)) κ4) ∧ ((z8.toInt = 0) → post (-1073741790) κ4)) ∧ ((¬ z6.toInt = 0) → post (-1073741638) κ4)) ∧ (((1024 : Int64).toInt < z3.toInt) → post (-1073741811) κ4)) κ2) κ
theorem dX11_read_0 : decode cX11_read 0 = .ok (.aload_n 2, 1) := by decide +kernel
theorem dX11_read_1 : decode cX11_read 1 = .ok (.getfield 564, 3) := by decide +kernel
theorem dX11_read_4 : decode cX11_read 4 = .ok (.astore_n 3, 1) := by decide +kernel
theorem dX11_read_5 : decode cX11_read 5 = .ok (.aload_n 1, 1) := by decide +kernel
theorem dX11_read_6 : decode cX11_read 6 = .ok (.bipush 68, 2) := by decide +kernel
theorem dX11_read_8 : decode cX11_read 8 = .ok (.iconst 4, 1) := by decide +kernel
theorem dX11_read_9 : decode cX11_read 9 = .ok (.invokevirtual 394, 3) := by decide +kernel
theorem dX11_read_12 : decode cX11_read 12 = .ok (.lstore 4, 2) := by decide +kernel
theorem dX11_read_14 : decode cX11_read 14 = .ok (.aload_n 1, 1) := by decide +kernel
theorem dX11_read_15 : decode cX11_read 15 = .ok (.bipush 72, 2) := by decide +kernel
theorem dX11_read_17 : decode cX11_read 17 = .ok (.bipush 8, 2) := by decide +kernel
theorem dX11_read_19 : decode cX11_read 19 = .ok (.invokevirtual 394, 3) := by decide +kernel
theorem dX11_read_22 : decode cX11_read 22 = .ok (.lstore 6, 2) := by decide +kernel
theorem dX11_read_24 : decode cX11_read 24 = .ok (.lload 4, 2) := by decide +kernel
theorem dX11_read_26 : decode cX11_read 26 = .ok (.ldc2_w 603, 3) := by decide +kernel
theorem dX11_read_29 : decode cX11_read 29 = .ok (.lcmp, 1) := by decide +kernel
theorem dX11_read_30 : decode cX11_read 30 = .ok (.ifCond .le 7, 3) := by decide +kernel
theorem dX11_read_33 : decode cX11_read 33 = .ok (.ldc_w 398, 3) := by decide +kernel
theorem dX11_read_36 : decode cX11_read 36 = .ok (.ireturn, 1) := by decide +kernel
theorem dX11_read_37 : decode cX11_read 37 = .ok (.aload_n 3, 1) := by decide +kernel
theorem dX11_read_38 : decode cX11_read 38 = .ok (.getfield 577, 3) := by decide +kernel
theorem dX11_read_41 : decode cX11_read 41 = .ok (.ifCond .eq 7, 3) := by decide +kernel
theorem dX11_read_44 : decode cX11_read 44 = .ok (.ldc_w 750, 3) := by decide +kernel
theorem dX11_read_47 : decode cX11_read 47 = .ok (.ireturn, 1) := by decide +kernel
theorem dX11_read_48 : decode cX11_read 48 = .ok (.aload_n 2, 1) := by decide +kernel
theorem dX11_read_49 : decode cX11_read 49 = .ok (.getfield 765, 3) := by decide +kernel
theorem dX11_read_52 : decode cX11_read 52 = .ok (.iconst 1, 1) := by decide +kernel
theorem dX11_read_53 : decode cX11_read 53 = .ok (.iand, 1) := by decide +kernel
theorem dX11_read_54 : decode cX11_read 54 = .ok (.ifCond .ne 7, 3) := by decide +kernel
theorem dX11_read_57 : decode cX11_read 57 = .ok (.ldc_w 658, 3) := by decide +kernel
theorem dX11_read_60 : decode cX11_read 60 = .ok (.ireturn, 1) := by decide +kernel
theorem dX11_read_61 : decode cX11_read 61 = .ok (.aload_n 0, 1) := by decide +kernel
theorem dX11_read_62 : decode cX11_read 62 = .ok (.aload_n 2, 1) := by decide +kernel
theorem dX11_read_63 : decode cX11_read 63 = .ok (.lload 6, 2) := by decide +kernel
theorem dX11_read_65 : decode cX11_read 65 = .ok (.lload 4, 2) := by decide +kernel
theorem dX11_read_67 : decode cX11_read 67 = .ok (.iconst 0, 1) := by decide +kernel
theorem dX11_read_68 : decode cX11_read 68 = .ok (.invokevirtual 784, 3) := by decide +kernel
theorem dX11_read_71 : decode cX11_read 71 = .ok (.ifCond .eq 7, 3) := by decide +kernel
theorem dX11_read_74 : decode cX11_read 74 = .ok (.ldc_w 788, 3) := by decide +kernel
theorem dX11_read_77 : decode cX11_read 77 = .ok (.ireturn, 1) := by decide +kernel
theorem dX11_read_78 : decode cX11_read 78 = .ok (.lload 6, 2) := by decide +kernel
theorem dX11_read_80 : decode cX11_read 80 = .ok (.aload_n 3, 1) := by decide +kernel
theorem dX11_read_81 : decode cX11_read 81 = .ok (.getfield 789, 3) := by decide +kernel
theorem dX11_read_84 : decode cX11_read 84 = .ok (.i2l, 1) := by decide +kernel
theorem dX11_read_85 : decode cX11_read 85 = .ok (.invokestatic 790, 3) := by decide +kernel
theorem dX11_read_88 : decode cX11_read 88 = .ok (.ifCond .ne 7, 3) := by decide +kernel
theorem dX11_read_91 : decode cX11_read 91 = .ok (.iconst 1, 1) := by decide +kernel
theorem dX11_read_92 : decode cX11_read 92 = .ok (.goto 4, 3) := by decide +kernel
theorem dX11_read_95 : decode cX11_read 95 = .ok (.iconst 0, 1) := by decide +kernel
theorem dX11_read_96 : decode cX11_read 96 = .ok (.istore 8, 2) := by decide +kernel
theorem dX11_read_98 : decode cX11_read 98 = .ok (.iload 8, 2) := by decide +kernel
theorem dX11_read_100 : decode cX11_read 100 = .ok (.ifCond .eq 7, 3) := by decide +kernel
theorem dX11_read_103 : decode cX11_read 103 = .ok (.iconst 0, 1) := by decide +kernel
theorem dX11_read_104 : decode cX11_read 104 = .ok (.goto 17, 3) := by decide +kernel
theorem dX11_read_107 : decode cX11_read 107 = .ok (.lload 4, 2) := by decide +kernel
theorem dX11_read_109 : decode cX11_read 109 = .ok (.aload_n 3, 1) := by decide +kernel
theorem dX11_read_110 : decode cX11_read 110 = .ok (.getfield 789, 3) := by decide +kernel
theorem dX11_read_113 : decode cX11_read 113 = .ok (.i2l, 1) := by decide +kernel
theorem dX11_read_114 : decode cX11_read 114 = .ok (.lload 6, 2) := by decide +kernel
theorem dX11_read_116 : decode cX11_read 116 = .ok (.lsub, 1) := by decide +kernel
theorem dX11_read_117 : decode cX11_read 117 = .ok (.invokestatic 794, 3) := by decide +kernel
theorem dX11_read_120 : decode cX11_read 120 = .ok (.l2i, 1) := by decide +kernel
theorem dX11_read_121 : decode cX11_read 121 = .ok (.istore 9, 2) := by decide +kernel
theorem dX11_read_123 : decode cX11_read 123 = .ok (.iload 8, 2) := by decide +kernel
theorem dX11_read_125 : decode cX11_read 125 = .ok (.ifCond .eq 10, 3) := by decide +kernel
theorem dX11_read_128 : decode cX11_read 128 = .ok (.lload 4, 2) := by decide +kernel
theorem dX11_read_130 : decode cX11_read 130 = .ok (.lconst 0, 1) := by decide +kernel
theorem dX11_read_131 : decode cX11_read 131 = .ok (.lcmp, 1) := by decide +kernel
theorem dX11_read_132 : decode cX11_read 132 = .ok (.ifCond .ne 17, 3) := by decide +kernel
theorem dX11_read_135 : decode cX11_read 135 = .ok (.iload 9, 2) := by decide +kernel
theorem dX11_read_137 : decode cX11_read 137 = .ok (.i2l, 1) := by decide +kernel
theorem dX11_read_138 : decode cX11_read 138 = .ok (.aload_n 1, 1) := by decide +kernel
theorem dX11_read_139 : decode cX11_read 139 = .ok (.bipush 96, 2) := by decide +kernel
theorem dX11_read_141 : decode cX11_read 141 = .ok (.iconst 4, 1) := by decide +kernel
theorem dX11_read_142 : decode cX11_read 142 = .ok (.invokevirtual 394, 3) := by decide +kernel
theorem dX11_read_145 : decode cX11_read 145 = .ok (.lcmp, 1) := by decide +kernel
theorem dX11_read_146 : decode cX11_read 146 = .ok (.ifCond .ge 7, 3) := by decide +kernel
theorem dX11_read_149 : decode cX11_read 149 = .ok (.ldc_w 797, 3) := by decide +kernel
theorem dX11_read_152 : decode cX11_read 152 = .ok (.ireturn, 1) := by decide +kernel
theorem dX11_read_153 : decode cX11_read 153 = .ok (.aload_n 0, 1) := by decide +kernel
theorem dX11_read_154 : decode cX11_read 154 = .ok (.getfield 68, 3) := by decide +kernel
theorem dX11_read_157 : decode cX11_read 157 = .ok (.bipush 80, 2) := by decide +kernel
theorem dX11_read_159 : decode cX11_read 159 = .ok (.iconst 1, 1) := by decide +kernel
theorem dX11_read_160 : decode cX11_read 160 = .ok (.iload 9, 2) := by decide +kernel
theorem dX11_read_162 : decode cX11_read 162 = .ok (.invokestatic 798, 3) := by decide +kernel
theorem dX11_read_165 : decode cX11_read 165 = .ok (.iadd, 1) := by decide +kernel
theorem dX11_read_166 : decode cX11_read 166 = .ok (.invokevirtual 262, 3) := by decide +kernel
theorem dX11_read_169 : decode cX11_read 169 = .ok (.aload_n 0, 1) := by decide +kernel
theorem dX11_read_170 : decode cX11_read 170 = .ok (.getfield 68, 3) := by decide +kernel
theorem dX11_read_173 : decode cX11_read 173 = .ok (.bipush 64, 2) := by decide +kernel
theorem dX11_read_175 : decode cX11_read 175 = .ok (.iconst 2, 1) := by decide +kernel
theorem dX11_read_176 : decode cX11_read 176 = .ok (.ldc2_w 801, 3) := by decide +kernel
theorem dX11_read_179 : decode cX11_read 179 = .ok (.invokevirtual 349, 3) := by decide +kernel
theorem dX11_read_182 : decode cX11_read 182 = .ok (.aload_n 0, 1) := by decide +kernel
theorem dX11_read_183 : decode cX11_read 183 = .ok (.getfield 68, 3) := by decide +kernel
theorem dX11_read_186 : decode cX11_read 186 = .ok (.bipush 66, 2) := by decide +kernel
theorem dX11_read_188 : decode cX11_read 188 = .ok (.iconst 1, 1) := by decide +kernel
theorem dX11_read_189 : decode cX11_read 189 = .ok (.ldc2_w 803, 3) := by decide +kernel
theorem dX11_read_192 : decode cX11_read 192 = .ok (.invokevirtual 349, 3) := by decide +kernel
theorem dX11_read_195 : decode cX11_read 195 = .ok (.aload_n 0, 1) := by decide +kernel
theorem dX11_read_196 : decode cX11_read 196 = .ok (.getfield 68, 3) := by decide +kernel
theorem dX11_read_199 : decode cX11_read 199 = .ok (.bipush 68, 2) := by decide +kernel
theorem dX11_read_201 : decode cX11_read 201 = .ok (.iconst 4, 1) := by decide +kernel
theorem dX11_read_202 : decode cX11_read 202 = .ok (.iload 9, 2) := by decide +kernel
theorem dX11_read_204 : decode cX11_read 204 = .ok (.i2l, 1) := by decide +kernel
theorem dX11_read_205 : decode cX11_read 205 = .ok (.invokevirtual 349, 3) := by decide +kernel
theorem dX11_read_208 : decode cX11_read 208 = .ok (.iconst 0, 1) := by decide +kernel
theorem dX11_read_209 : decode cX11_read 209 = .ok (.istore 10, 2) := by decide +kernel
theorem dX11_read_211 : decode cX11_read 211 = .ok (.iload 10, 2) := by decide +kernel
theorem dX11_read_213 : decode cX11_read 213 = .ok (.iload 9, 2) := by decide +kernel
theorem dX11_read_215 : decode cX11_read 215 = .ok (.if_icmp .ge 33, 3) := by decide +kernel
theorem dX11_read_218 : decode cX11_read 218 = .ok (.aload_n 0, 1) := by decide +kernel
theorem dX11_read_219 : decode cX11_read 219 = .ok (.getfield 68, 3) := by decide +kernel
theorem dX11_read_222 : decode cX11_read 222 = .ok (.bipush 80, 2) := by decide +kernel
theorem dX11_read_224 : decode cX11_read 224 = .ok (.iload 10, 2) := by decide +kernel
theorem dX11_read_226 : decode cX11_read 226 = .ok (.iadd, 1) := by decide +kernel
theorem dX11_read_227 : decode cX11_read 227 = .ok (.iconst 1, 1) := by decide +kernel
theorem dX11_read_228 : decode cX11_read 228 = .ok (.aload_n 3, 1) := by decide +kernel
theorem dX11_read_229 : decode cX11_read 229 = .ok (.lload 6, 2) := by decide +kernel
theorem dX11_read_231 : decode cX11_read 231 = .ok (.l2i, 1) := by decide +kernel
theorem dX11_read_232 : decode cX11_read 232 = .ok (.iload 10, 2) := by decide +kernel
theorem dX11_read_234 : decode cX11_read 234 = .ok (.iadd, 1) := by decide +kernel
theorem dX11_read_235 : decode cX11_read 235 = .ok (.invokevirtual 805, 3) := by decide +kernel
theorem dX11_read_238 : decode cX11_read 238 = .ok (.i2l, 1) := by decide +kernel
theorem dX11_read_239 : decode cX11_read 239 = .ok (.invokevirtual 349, 3) := by decide +kernel
theorem dX11_read_242 : decode cX11_read 242 = .ok (.iinc 10 1, 3) := by decide +kernel
theorem dX11_read_245 : decode cX11_read 245 = .ok (.goto (-34), 3) := by decide +kernel
theorem dX11_read_248 : decode cX11_read 248 = .ok (.iconst 0, 1) := by decide +kernel
theorem dX11_read_249 : decode cX11_read 249 = .ok (.ireturn, 1) := by decide +kernel
set_option maxRecDepth 100000 in
set_option maxHeartbeats 4000000 in
theorem c_X11_read (l : Launch) (D : va_G) (t : Nat → ClassId) (G : GE) (κ : CS) (h : Nat) (a1 : Option Nat) (a2 : Option Nat) (post : Int32 → CS → Prop) (hw : F_X11_read G h a1 a2 post κ) (sz : Nat) : CMi l D t yX11_read cX11_read 11 (some .int) 4 106 G κ sz [.ref h, va_rf a1, va_rf a2] post := by
  refine c_go (by decide) (by cases a1 <;> cases a2 <;> exact Nat.le_of_ble_eq_true rfl) ?_
  intro p e s m below meth c ls A hF hr hlk hin hAe hH hA hE hl
  unfold cB
  rw [hAe]
  clear hAe
  have hF : FX p m c cX11_read 11 s _ RX11 D t := hF
  have hx := hF.1.1
  have hb := hF.1.2.1
  have hl : lv_has ls 11 [(0, .ref h), (1, va_rf a1), (2, va_rf a2)] := (by have h2 := hl; clear hw; revert h2; cases a1 <;> cases a2 <;> exact id)
  unfold F_X11_read at hw
  refine w_aloadq_n hF dX11_read_0 rfl (lv_at hl 2 rfl) ?_
  refine cw_getP (q := a2) hF hH fk_X11_564 dX11_read_1 hw (fun z1 hw => ?_)
  refine w_astoreq_n (lv' := [(3, va_rf z1), (0, .ref h), (1, va_rf a1), (2, va_rf a2)]) hF dX11_read_4 rfl hl (by decide) (by generalize a2 = y; cases y <;> rfl) (fun ls hl => ?_)
  refine w_aloadq_n hF dX11_read_5 rfl (lv_at hl 2 rfl) ?_
  refine lv_bipush (v := 68) hx hb dX11_read_6 (by decide) ?_
  refine lv_iconst (v := 4) hx hb dX11_read_8 (by decide) ?_
  refine cw_cVlq (q := a1) (As := [.int 68, .int 4]) (rest := []) hF hH hA hE mv_X11_394 ci_X0 (by decide) hw (fun b hw sz => c_X0_number l D t G _ b 68 4 _ hw sz) dX11_read_9 ⟨Nat.le_of_ble_eq_true rfl, Nat.le_of_ble_eq_true rfl⟩ rfl hl.1 (Nat.le_of_ble_eq_true rfl) rfl (fun z3 κ2 H locs cells slots hw hH => ?_)
  refine lv_lstore (lv' := [(4, .long z3), (3, va_rf z1), (0, .ref h), (1, va_rf a1), (2, va_rf a2)]) hx hb dX11_read_12 hl (by decide) (by generalize z1 = y; cases y <;> rfl) (fun ls hl => ?_)
  refine w_aloadq_n hF dX11_read_14 rfl (lv_at hl 3 rfl) ?_
  refine lv_bipush (v := 72) hx hb dX11_read_15 (by decide) ?_
  refine lv_bipush (v := 8) hx hb dX11_read_17 (by decide) ?_
  refine cw_cVlq (q := a1) (As := [.int 72, .int 8]) (rest := []) hF hH hA hE mv_X11_394 ci_X0 (by decide) hw (fun b hw sz => c_X0_number l D t G _ b 72 8 _ hw sz) dX11_read_19 ⟨Nat.le_of_ble_eq_true rfl, Nat.le_of_ble_eq_true rfl⟩ rfl hl.1 (Nat.le_of_ble_eq_true rfl) rfl (fun z5 κ4 H locs cells slots hw hH => ?_)
  refine lv_lstore (lv' := [(6, .long z5), (4, .long z3), (3, va_rf z1), (0, .ref h), (1, va_rf a1), (2, va_rf a2)]) hx hb dX11_read_22 hl (by decide) rfl (fun ls hl => ?_)
  refine lv_lload hx hb dX11_read_24 (lv_at hl 1 rfl) ?_
  refine lv_ldc2 (v := 1024) hx hb hF.1.2.2.2.1 (hF.1.2.2.2.2 _ (wc_31 12 rfl)) dX11_read_26 ?_
  refine w_lif_le (tgt := 37) hF dX11_read_29 dX11_read_30 rfl hw (fun hw => ?_) (fun hw => ?_)
  · refine w_aloadq_n hF dX11_read_37 rfl (lv_at hl 2 rfl) ?_
    refine cw_getI (q := z1) hF hH fk_X11_577 dX11_read_38 hw (fun z6 hw => ?_)
    refine w_if_eq (tgt := 48) hF dX11_read_41 rfl hw (fun hw => ?_) (fun hw => ?_)
    · refine w_aloadq_n hF dX11_read_48 rfl (lv_at hl 5 rfl) ?_
      refine cw_getI (q := a2) hF hH fk_X11_765 dX11_read_49 hw (fun z7 hw => ?_)
      refine lv_iconst (v := 1) hx hb dX11_read_52 (by decide) ?_
      refine lv_iand hx hb dX11_read_53 ?_
      refine w_nmi hw (fun z8 hw => ?_)
      refine w_if_ne (tgt := 61) hF dX11_read_54 rfl hw (fun hw => ?_) (fun hw => ?_)
      · refine lv_aload_n hx hb dX11_read_61 rfl (lv_at hl 3 rfl) ?_
        refine w_aloadq_n hF dX11_read_62 rfl (lv_at hl 5 rfl) ?_
        refine lv_lload hx hb dX11_read_63 (lv_at hl 0 rfl) ?_
        refine lv_lload hx hb dX11_read_65 (lv_at hl 1 rfl) ?_
        refine lv_iconst (v := 0) hx hb dX11_read_67 (by decide) ?_
        refine cw_cVi (b := h) (As := [va_rf a2, .long z5, .long z3, .int 0]) (rest := []) hF hH hA hE mv_X11_784 ci_X11 (by decide) (fun sz => c_X11_othersLock l D t G _ h a2 z5 z3 0 _ hw.2 sz) dX11_read_68 hw.1 ⟨Nat.le_of_ble_eq_true rfl, Nat.le_of_ble_eq_true rfl⟩ rfl hl.1 (Nat.le_of_ble_eq_true rfl) rfl (fun z10 κ9 H locs cells slots hw hH => ?_)
        refine w_if_eq (tgt := 78) hF dX11_read_71 rfl hw (fun hw => ?_) (fun hw => ?_)
        · refine lv_lload hx hb dX11_read_78 (lv_at hl 0 rfl) ?_
          refine w_aloadq_n hF dX11_read_80 rfl (lv_at hl 2 rfl) ?_
          refine cw_getI (q := z1) hF hH fk_X11_789 dX11_read_81 hw (fun z11 hw => ?_)
          refine lv_i2l hx hb dX11_read_84 rfl ?_
          refine w_nml hw (fun z12 hw => ?_)
          refine cw_cSi (As := [.long z5, .long z12]) (rest := []) hF hH hA hE ms_X11_790 (fun sz => c_X11_below l D t G _ z5 z12 _ hw sz) dX11_read_85 ⟨Nat.le_of_ble_eq_true rfl, Nat.le_of_ble_eq_true rfl⟩ rfl hl.1 (Nat.le_of_ble_eq_true rfl) rfl (fun z14 κ13 H locs cells slots hw hH => ?_)
          obtain ⟨K17, hK18, hw⟩ := jc_open hw
          refine cw_join (K := K17) 96 (fun (x15 : Int32) => [(6, .long z5), (4, .long z3), (3, va_rf z1), (1, va_rf a1), (0, .ref h)]) (fun (x15 : Int32) => [.int x15]) hl hH (fun x15 κ16 ls H locs cells slots hl hw hH => ?_) (fun jn19 => ?_)
          · have hw := hK18 x15 κ16 hw
            have hl : lv_has ls 11 [(6, .long z5), (4, .long z3), (3, va_rf z1), (1, va_rf a1), (0, .ref h)] := hl
            refine lv_istore (lv' := [(8, .int x15), (6, .long z5), (4, .long z3), (3, va_rf z1), (1, va_rf a1), (0, .ref h)]) hx hb dX11_read_96 hl (by decide) rfl (fun ls hl => ?_)
            refine lv_iload hx hb dX11_read_98 (lv_at hl 0 rfl) ?_
            obtain ⟨K22, hK23, hw⟩ := jc_open hw
            refine cw_join (K := K22) 121 (fun (x20 : Int32) => [(8, .int x15), (6, .long z5), (4, .long z3), (3, va_rf z1), (1, va_rf a1), (0, .ref h)]) (fun (x20 : Int32) => [.int x20]) hl hH (fun x20 κ21 ls H locs cells slots hl hw hH => ?_) (fun jn24 => ?_)
            · have hw := hK23 x20 κ21 hw
              have hl : lv_has ls 11 [(8, .int x15), (6, .long z5), (4, .long z3), (3, va_rf z1), (1, va_rf a1), (0, .ref h)] := hl
              refine lv_istore (lv' := [(9, .int x20), (8, .int x15), (6, .long z5), (4, .long z3), (3, va_rf z1), (1, va_rf a1), (0, .ref h)]) hx hb dX11_read_121 hl (by decide) rfl (fun ls hl => ?_)
              refine lv_iload hx hb dX11_read_123 (lv_at hl 1 rfl) ?_
              obtain ⟨K27, hK28, hw⟩ := jc_open hw
              refine cw_join (K := K27) 149 (fun (x25 : Unit) => []) (fun (x25 : Unit) => []) hl hH (fun x25 κ26 ls H locs cells slots hl hw hH => ?_) (fun jn29 => ?_)
              · have hw := hK28 x25 κ26 hw
                have hl : lv_has ls 11 [] := hl
                refine lv_ldcw (v := (-1073741807)) hx hb hF.1.2.2.2.1 (hF.1.2.2.2.2 _ (wc_31 26 rfl)) dX11_read_149 ?_
                exact cw_reti hF hH ⟨rfl, rfl⟩ hr rfl hlk dX11_read_152 hw
              · skip
                obtain ⟨K32, hK33, hw⟩ := jc_open hw
                refine cw_join (K := K32) 135 (fun (x30 : Unit) => [(9, .int x20), (6, .long z5), (3, va_rf z1), (1, va_rf a1), (0, .ref h)]) (fun (x30 : Unit) => []) hl hH (fun x30 κ31 ls H locs cells slots hl hw hH => ?_) (fun jn34 => ?_)
                · have hw := hK33 x30 κ31 hw
                  have hl : lv_has ls 11 [(9, .int x20), (6, .long z5), (3, va_rf z1), (1, va_rf a1), (0, .ref h)] := hl
                  refine lv_iload hx hb dX11_read_135 (lv_at hl 0 rfl) ?_
                  refine lv_i2l hx hb dX11_read_137 rfl ?_
                  refine w_nml hw (fun z35 hw => ?_)
                  refine w_aloadq_n hF dX11_read_138 rfl (lv_at hl 3 rfl) ?_
                  refine lv_bipush (v := 96) hx hb dX11_read_139 (by decide) ?_
                  refine lv_iconst (v := 4) hx hb dX11_read_141 (by decide) ?_
                  refine cw_cVlq (q := a1) (As := [.int 96, .int 4]) (rest := [.long z35]) hF hH hA hE mv_X11_394 ci_X0 (by decide) hw (fun b hw sz => c_X0_number l D t G _ b 96 4 _ hw sz) dX11_read_142 ⟨Nat.le_of_ble_eq_true rfl, Nat.le_of_ble_eq_true rfl⟩ rfl hl.1 (Nat.le_of_ble_eq_true rfl) rfl (fun z37 κ36 H locs cells slots hw hH => ?_)
                  refine w_lif_ge (tgt := 153) hF dX11_read_145 dX11_read_146 rfl hw (fun hw => ?_) (fun hw => ?_)
                  · refine lv_aload_n hx hb dX11_read_153 rfl (lv_at hl 4 rfl) ?_
                    refine cw_getPr (a := h) hF hH fk_X11_68 dX11_read_154 hw (fun z38 hw => ?_)
                    refine lv_bipush (v := 80) hx hb dX11_read_157 (by decide) ?_
                    refine lv_iconst (v := 1) hx hb dX11_read_159 (by decide) ?_
                    refine lv_iload hx hb dX11_read_160 (lv_at hl 0 rfl) ?_
                    refine cw_mmax hF hH hl.1 (wc_31 27 rfl) (wc_10 1 rfl) (wc_5 5 rfl) (wc_10 0 rfl) (Nat.le_of_ble_eq_true rfl) (by simp only [List.map_cons, List.map_nil, cat_rf]; exact Nat.le_of_ble_eq_true rfl) dX11_read_162 hw (fun z40 hw => ?_)
                    refine lv_iadd hx hb dX11_read_165 ?_
                    refine w_nmi hw (fun z41 hw => ?_)
                    refine cw_cVvq (q := z38) (As := [.int z41]) (rest := []) hF hH hA hE mv_X11_262 ci_X6 (by decide) hw (fun b hw sz => c_X6_begin l D t G _ b z41 _ hw sz) dX11_read_166 ⟨Nat.le_of_ble_eq_true rfl, Nat.le_of_ble_eq_true rfl⟩ rfl hl.1 (Nat.le_of_ble_eq_true rfl) rfl (fun κ42 H locs cells slots hw hH => ?_)
                    refine lv_aload_n hx hb dX11_read_169 rfl (lv_at hl 4 rfl) ?_
                    refine cw_getPr (a := h) hF hH fk_X11_68 dX11_read_170 hw (fun z44 hw => ?_)
                    refine lv_bipush (v := 64) hx hb dX11_read_173 (by decide) ?_
                    refine lv_iconst (v := 2) hx hb dX11_read_175 (by decide) ?_
                    refine lv_ldc2 (v := 17) hx hb hF.1.2.2.2.1 (hF.1.2.2.2.2 _ (wc_31 28 rfl)) dX11_read_176 ?_
                    refine cw_cVvq (q := z44) (As := [.int 64, .int 2, .long 17]) (rest := []) hF hH hA hE mv_X11_349 ci_X6 (by decide) hw (fun b hw sz => c_X6_put l D t G _ b 64 2 17 _ hw sz) dX11_read_179 ⟨Nat.le_of_ble_eq_true rfl, Nat.le_of_ble_eq_true rfl⟩ rfl hl.1 (Nat.le_of_ble_eq_true rfl) rfl (fun κ45 H locs cells slots hw hH => ?_)
                    refine lv_aload_n hx hb dX11_read_182 rfl (lv_at hl 4 rfl) ?_
                    refine cw_getPr (a := h) hF hH fk_X11_68 dX11_read_183 hw (fun z47 hw => ?_)
                    refine lv_bipush (v := 66) hx hb dX11_read_186 (by decide) ?_
                    refine lv_iconst (v := 1) hx hb dX11_read_188 (by decide) ?_
                    refine lv_ldc2 (v := 80) hx hb hF.1.2.2.2.1 (hF.1.2.2.2.2 _ (wc_31 29 rfl)) dX11_read_189 ?_
                    refine cw_cVvq (q := z47) (As := [.int 66, .int 1, .long 80]) (rest := []) hF hH hA hE mv_X11_349 ci_X6 (by decide) hw (fun b hw sz => c_X6_put l D t G _ b 66 1 80 _ hw sz) dX11_read_192 ⟨Nat.le_of_ble_eq_true rfl, Nat.le_of_ble_eq_true rfl⟩ rfl hl.1 (Nat.le_of_ble_eq_true rfl) rfl (fun κ48 H locs cells slots hw hH => ?_)
                    refine lv_aload_n hx hb dX11_read_195 rfl (lv_at hl 4 rfl) ?_
                    refine cw_getPr (a := h) hF hH fk_X11_68 dX11_read_196 hw (fun z50 hw => ?_)
                    refine lv_bipush (v := 68) hx hb dX11_read_199 (by decide) ?_
                    refine lv_iconst (v := 4) hx hb dX11_read_201 (by decide) ?_
                    refine lv_iload hx hb dX11_read_202 (lv_at hl 0 rfl) ?_
                    refine lv_i2l hx hb dX11_read_204 rfl ?_
                    refine w_nml hw (fun z51 hw => ?_)
                    refine cw_cVvq (q := z50) (As := [.int 68, .int 4, .long z51]) (rest := []) hF hH hA hE mv_X11_349 ci_X6 (by decide) hw (fun b hw sz => c_X6_put l D t G _ b 68 4 z51 _ hw sz) dX11_read_205 ⟨Nat.le_of_ble_eq_true rfl, Nat.le_of_ble_eq_true rfl⟩ rfl hl.1 (Nat.le_of_ble_eq_true rfl) rfl (fun κ52 H locs cells slots hw hH => ?_)
                    refine lv_iconst (v := 0) hx hb dX11_read_208 (by decide) ?_
                    refine lv_istore (lv' := [(10, .int 0), (9, .int x20), (6, .long z5), (3, va_rf z1), (1, va_rf a1), (0, .ref h)]) hx hb dX11_read_209 hl (by decide) rfl (fun ls hl => ?_)
                    have hl : lv_has ls 11 [(10, .int 0), (9, .int x20), (6, .long z5), (3, va_rf z1), (0, .ref h)] := lv_sub hl [0, 1, 2, 3, 5] rfl
                    refine cw_loop (β := Int32) (fun x54 => [(10, .int x54), (9, .int x20), (6, .long z5), (3, va_rf z1), (0, .ref h)]) 0 hl hw hH (fun K56 x54 κ55 ls H locs cells slots hl hw hH ih57 => ?_)
                    have hl : lv_has ls 11 [(10, .int x54), (9, .int x20), (6, .long z5), (3, va_rf z1), (0, .ref h)] := hl
                    refine lv_iload hx hb dX11_read_211 (lv_at hl 0 rfl) ?_
                    refine lv_iload hx hb dX11_read_213 (lv_at hl 1 rfl) ?_
                    refine w_icmp_ge (tgt := 248) hF dX11_read_215 rfl hw (fun hw => ?_) (fun hw => ?_)
                    · refine lv_iconst (v := 0) hx hb dX11_read_248 (by decide) ?_
                      exact cw_reti hF hH ⟨rfl, rfl⟩ hr rfl hlk dX11_read_249 hw
                    · refine lv_aload_n hx hb dX11_read_218 rfl (lv_at hl 4 rfl) ?_
                      refine cw_getPr (a := h) hF hH fk_X11_68 dX11_read_219 hw (fun z58 hw => ?_)
                      refine lv_bipush (v := 80) hx hb dX11_read_222 (by decide) ?_
                      refine lv_iload hx hb dX11_read_224 (lv_at hl 0 rfl) ?_
                      refine lv_iadd hx hb dX11_read_226 ?_
                      refine w_nmi hw (fun z59 hw => ?_)
                      refine lv_iconst (v := 1) hx hb dX11_read_227 (by decide) ?_
                      refine w_aloadq_n hF dX11_read_228 rfl (lv_at hl 3 rfl) ?_
                      refine lv_lload hx hb dX11_read_229 (lv_at hl 2 rfl) ?_
                      refine lv_l2i hx hb dX11_read_231 rfl ?_
                      refine w_nmi hw (fun z60 hw => ?_)
                      refine lv_iload hx hb dX11_read_232 (lv_at hl 0 rfl) ?_
                      refine lv_iadd hx hb dX11_read_234 ?_
                      refine w_nmi hw (fun z61 hw => ?_)
                      refine cw_cViq (q := z1) (As := [.int z61]) (rest := [.int 1, .int z59, va_rf z58]) hF hH hA hE mv_X11_805 ci_X4 (by decide) hw (fun b hw sz => c_X4_byteAt l D t G _ b z61 _ hw sz) dX11_read_235 ⟨Nat.le_of_ble_eq_true rfl, Nat.le_of_ble_eq_true rfl⟩ rfl hl.1 (by simp only [List.map_cons, List.map_nil, cat_rf]; exact Nat.le_of_ble_eq_true rfl) rfl (fun z63 κ62 H locs cells slots hw hH => ?_)
                      refine lv_i2l hx hb dX11_read_238 rfl ?_
                      refine w_nml hw (fun z64 hw => ?_)
                      refine cw_cVvq (q := z58) (As := [.int z59, .int 1, .long z64]) (rest := []) hF hH hA hE mv_X11_349 ci_X6 (by decide) hw (fun b hw sz => c_X6_put l D t G _ b z59 1 z64 _ hw sz) dX11_read_239 ⟨Nat.le_of_ble_eq_true rfl, Nat.le_of_ble_eq_true rfl⟩ rfl hl.1 (Nat.le_of_ble_eq_true rfl) rfl (fun κ65 H locs cells slots hw hH => ?_)
                      obtain ⟨z67, ez67⟩ : ∃ z : Int32, z = x54 + 1 := ⟨_, rfl⟩
                      have hw := hw z67 ez67
                      refine lv_iinc (lv' := [(10, .int z67), (9, .int x20), (6, .long z5), (3, va_rf z1), (0, .ref h)]) (k := 0) (v := z67) hx hb dX11_read_242 hl rfl ez67.symm (by decide) rfl (fun ls hl => ?_)
                      refine lv_goto (tgt := 211) hx hb dX11_read_245 rfl ?_
                      exact ih57 z67 κ65 ls _ _ _ _ hl hw hH
                  · have hl : lv_has ls 11 [] := lv_sub hl [] rfl
                    exact jn29 () κ36 ls _ _ _ _ hl hw hH
                · skip
                  refine w_if_eq (tgt := 135) hF dX11_read_125 rfl hw (fun hw => ?_) (fun hw => ?_)
                  · have hl : lv_has ls 11 [(9, .int x20), (6, .long z5), (3, va_rf z1), (1, va_rf a1), (0, .ref h)] := lv_sub hl [0, 2, 4, 5, 6] rfl
                    exact jn34 () κ21 ls _ _ _ _ hl hw hH
                  · refine lv_lload hx hb dX11_read_128 (lv_at hl 3 rfl) ?_
                    refine lv_lconst (v := 0) hx hb dX11_read_130 (by decide) ?_
                    refine w_lif_ne (tgt := 149) hF dX11_read_131 dX11_read_132 rfl hw (fun hw => ?_) (fun hw => ?_)
                    · have hl : lv_has ls 11 [] := lv_sub hl [] rfl
                      exact jn29 () κ21 ls _ _ _ _ hl hw hH
                    · have hl : lv_has ls 11 [(9, .int x20), (6, .long z5), (3, va_rf z1), (1, va_rf a1), (0, .ref h)] := lv_sub hl [0, 2, 4, 5, 6] rfl
                      exact jn34 () κ21 ls _ _ _ _ hl hw hH
            · skip
              refine w_if_eq (tgt := 107) hF dX11_read_100 rfl hw (fun hw => ?_) (fun hw => ?_)
              · refine lv_lload hx hb dX11_read_107 (lv_at hl 2 rfl) ?_
                refine w_aloadq_n hF dX11_read_109 rfl (lv_at hl 3 rfl) ?_
                refine cw_getI (q := z1) hF hH fk_X11_789 dX11_read_110 hw (fun z68 hw => ?_)
                refine lv_i2l hx hb dX11_read_113 rfl ?_
                refine w_nml hw (fun z69 hw => ?_)
                refine lv_lload hx hb dX11_read_114 (lv_at hl 1 rfl) ?_
                refine lv_lsub hx hb dX11_read_116 ?_
                refine w_nml hw (fun z70 hw => ?_)
                refine cw_mminl hF hH hl.1 (wc_31 25 rfl) (wc_20 8 rfl) (wc_5 5 rfl) (wc_20 7 rfl) (Nat.le_of_ble_eq_true rfl) (Nat.le_of_ble_eq_true rfl) dX11_read_117 hw (fun z72 hw => ?_)
                refine lv_l2i hx hb dX11_read_120 rfl ?_
                refine w_nmi hw (fun z73 hw => ?_)
                exact jn24 z73 κ16 ls _ _ _ _ hl hw hH
              · refine lv_iconst (v := 0) hx hb dX11_read_103 (by decide) ?_
                refine lv_goto (tgt := 121) hx hb dX11_read_104 rfl ?_
                exact jn24 0 κ16 ls _ _ _ _ hl hw hH
          · skip
            refine w_if_ne (tgt := 95) hF dX11_read_88 rfl hw (fun hw => ?_) (fun hw => ?_)
            · refine lv_iconst (v := 0) hx hb dX11_read_95 (by decide) ?_
              have hl : lv_has ls 11 [(6, .long z5), (4, .long z3), (3, va_rf z1), (1, va_rf a1), (0, .ref h)] := lv_sub hl [0, 1, 2, 4, 3] rfl
              exact jn19 0 κ13 ls _ _ _ _ hl hw hH
            · refine lv_iconst (v := 1) hx hb dX11_read_91 (by decide) ?_
              refine lv_goto (tgt := 96) hx hb dX11_read_92 rfl ?_
              have hl : lv_has ls 11 [(6, .long z5), (4, .long z3), (3, va_rf z1), (1, va_rf a1), (0, .ref h)] := lv_sub hl [0, 1, 2, 4, 3] rfl
              exact jn19 1 κ13 ls _ _ _ _ hl hw hH
        · refine lv_ldcw (v := (-1073741740)) hx hb hF.1.2.2.2.1 (hF.1.2.2.2.2 _ (wc_31 23 rfl)) dX11_read_74 ?_
          exact cw_reti hF hH ⟨rfl, rfl⟩ hr rfl hlk dX11_read_77 hw
      · refine lv_ldcw (v := (-1073741790)) hx hb hF.1.2.2.2.1 (hF.1.2.2.2.2 _ (wc_22 30 rfl)) dX11_read_57 ?_
        exact cw_reti hF hH ⟨rfl, rfl⟩ hr rfl hlk dX11_read_60 hw
    · refine lv_ldcw (v := (-1073741638)) hx hb hF.1.2.2.2.1 (hF.1.2.2.2.2 _ (wc_23 13 rfl)) dX11_read_44 ?_
      exact cw_reti hF hH ⟨rfl, rfl⟩ hr rfl hlk dX11_read_47 hw
  · refine lv_ldcw (v := (-1073741811)) hx hb hF.1.2.2.2.1 (hF.1.2.2.2.2 _ (wc_16 24 rfl)) dX11_read_33 ?_
    exact cw_reti hF hH ⟨rfl, rfl⟩ hr rfl hlk dX11_read_36 hw
set_option maxRecDepth 100000 in
def F_X11_ownSharedLock (G : GE) (h : Nat) (a1 : Option Nat) (a2 : Int64) (a4 : Int64) (post : Int32 → CS → Prop) (κ : CS) : Prop := lc (fun (K3 : Int32 → CS → Prop) (x1 : Int32) (κ2 : CS) => (h ∈ sL κ2.1 ∧ sK κ2.1 h = 1) ∧ ∀ z5 : Option Nat, z5 = sP κ2.1 h 11 → ∃ b : Nat, z5 = some b ∧ (b ∈ sL κ2.1 ∧ sK κ2.1 b = 7) ∧ F_Jx4a65c_size_8abf5 G b  (fun (z7 : Int32) (κ6 : CS) => ((z7.toInt ≤ x1.toInt) → (0 ≤ (0 : Int32).toInt ∧ (0 : Int32).toInt ≤ 1) ∧ post 0 κ6) ∧ ((x1.toInt < z7.toInt) → (h ∈ sL κ6.1 ∧ sK κ6.1 h = 1) ∧ ∀ z8 : Option Nat, z8 = sP κ6.1 h 11 → ∃ b : Nat, z8 = some b ∧ (b ∈ sL κ6.1 ∧ sK κ6.1 b = 7) ∧ F_Jx4a65c_get_915e3 G b x1 (fun (z10 : Option Nat) (κ9 : CS) => (z10 = none ∨ ∃ b : Nat, z10 = some b ∧ b ∈ sL κ9.1 ∧ sK κ9.1 b = 9) ∧ ∃ b : Nat, z10 = some b ∧ (b ∈ sL κ9.1 ∧ sK κ9.1 b = 9) ∧ ∀ z11 : Option Nat, z11 = sP κ9.1 b 0 → jc (fun (K14 : Unit → CS → Prop) => ((¬ z11 = a1) → K14 () κ9) ∧ ((z11 = a1) → ∃ b : Nat, z10 = some b ∧ (b ∈ sL κ9.1 ∧ sK κ9.1 b = 9) ∧ ∀ z18 : Int32, z18 = sI κ9.1 b 3 → ((z18.toInt = 0) → K14 () κ9) ∧ ((¬ z18.toInt = 0) → ∃ b : Nat, z10 = some b ∧ (b ∈ sL κ9.1 ∧ sK κ9.1 b = 9) ∧ F_X3_meets G b a2 a4 (fun (z20 : Int32) (κ19 : CS) => ((z20.toInt = 0) → K14 () κ19) ∧ ((¬ z20.toInt = 0) → (0 ≤ (1 : Int32).toInt ∧ (1 : Int32).toInt ≤ 1) ∧ post 1 κ19)) κ9))) (fun (x12 : Unit) (κ13 : CS) => ∀ z17 : Int32, z17 = x1 + 1 → K3 z17 κ13)) κ6)) κ2) 0 κ
theorem dX11_ownSharedLock_0 : decode cX11_ownSharedLock 0 = .ok (.iconst 0, 1) := by decide +kernel
theorem dX11_ownSharedLock_1 : decode cX11_ownSharedLock 1 = .ok (.istore 6, 2) := by decide +kernel
theorem dX11_ownSharedLock_3 : decode cX11_ownSharedLock 3 = .ok (.iload 6, 2) := by decide +kernel
theorem dX11_ownSharedLock_5 : decode cX11_ownSharedLock 5 = .ok (.aload_n 0, 1) := by decide +kernel
theorem dX11_ownSharedLock_6 : decode cX11_ownSharedLock 6 = .ok (.getfield 55, 3) := by decide +kernel
theorem dX11_ownSharedLock_9 : decode cX11_ownSharedLock 9 = .ok (.invokevirtual 161, 3) := by decide +kernel
theorem dX11_ownSharedLock_12 : decode cX11_ownSharedLock 12 = .ok (.if_icmp .ge 53, 3) := by decide +kernel
theorem dX11_ownSharedLock_15 : decode cX11_ownSharedLock 15 = .ok (.aload_n 0, 1) := by decide +kernel
theorem dX11_ownSharedLock_16 : decode cX11_ownSharedLock 16 = .ok (.getfield 55, 3) := by decide +kernel
theorem dX11_ownSharedLock_19 : decode cX11_ownSharedLock 19 = .ok (.iload 6, 2) := by decide +kernel
theorem dX11_ownSharedLock_21 : decode cX11_ownSharedLock 21 = .ok (.invokevirtual 164, 3) := by decide +kernel
theorem dX11_ownSharedLock_24 : decode cX11_ownSharedLock 24 = .ok (.checkcast 561, 3) := by decide +kernel
theorem dX11_ownSharedLock_27 : decode cX11_ownSharedLock 27 = .ok (.astore 7, 2) := by decide +kernel
theorem dX11_ownSharedLock_29 : decode cX11_ownSharedLock 29 = .ok (.aload 7, 2) := by decide +kernel
theorem dX11_ownSharedLock_31 : decode cX11_ownSharedLock 31 = .ok (.getfield 563, 3) := by decide +kernel
theorem dX11_ownSharedLock_34 : decode cX11_ownSharedLock 34 = .ok (.aload_n 1, 1) := by decide +kernel
theorem dX11_ownSharedLock_35 : decode cX11_ownSharedLock 35 = .ok (.if_acmp .ne 24, 3) := by decide +kernel
theorem dX11_ownSharedLock_38 : decode cX11_ownSharedLock 38 = .ok (.aload 7, 2) := by decide +kernel
theorem dX11_ownSharedLock_40 : decode cX11_ownSharedLock 40 = .ok (.getfield 859, 3) := by decide +kernel
theorem dX11_ownSharedLock_43 : decode cX11_ownSharedLock 43 = .ok (.ifCond .eq 16, 3) := by decide +kernel
theorem dX11_ownSharedLock_46 : decode cX11_ownSharedLock 46 = .ok (.aload 7, 2) := by decide +kernel
theorem dX11_ownSharedLock_48 : decode cX11_ownSharedLock 48 = .ok (.lload_n 2, 1) := by decide +kernel
theorem dX11_ownSharedLock_49 : decode cX11_ownSharedLock 49 = .ok (.lload 4, 2) := by decide +kernel
theorem dX11_ownSharedLock_51 : decode cX11_ownSharedLock 51 = .ok (.invokevirtual 862, 3) := by decide +kernel
theorem dX11_ownSharedLock_54 : decode cX11_ownSharedLock 54 = .ok (.ifCond .eq 5, 3) := by decide +kernel
theorem dX11_ownSharedLock_57 : decode cX11_ownSharedLock 57 = .ok (.iconst 1, 1) := by decide +kernel
theorem dX11_ownSharedLock_58 : decode cX11_ownSharedLock 58 = .ok (.ireturn, 1) := by decide +kernel
theorem dX11_ownSharedLock_59 : decode cX11_ownSharedLock 59 = .ok (.iinc 6 1, 3) := by decide +kernel
theorem dX11_ownSharedLock_62 : decode cX11_ownSharedLock 62 = .ok (.goto (-59), 3) := by decide +kernel
theorem dX11_ownSharedLock_65 : decode cX11_ownSharedLock 65 = .ok (.iconst 0, 1) := by decide +kernel
theorem dX11_ownSharedLock_66 : decode cX11_ownSharedLock 66 = .ok (.ireturn, 1) := by decide +kernel
set_option maxRecDepth 100000 in
set_option maxHeartbeats 4000000 in
theorem c_X11_ownSharedLock (l : Launch) (D : va_G) (t : Nat → ClassId) (G : GE) (κ : CS) (h : Nat) (a1 : Option Nat) (a2 : Int64) (a4 : Int64) (post : Int32 → CS → Prop) (hw : F_X11_ownSharedLock G h a1 a2 a4 post κ) (sz : Nat) : CMi l D t yX11_ownSharedLock cX11_ownSharedLock 8 (some .boolean) 3 78 G κ sz [.ref h, va_rf a1, .long a2, .long a4] post := by
  refine c_go (by decide) (by cases a1 <;> exact Nat.le_of_ble_eq_true rfl) ?_
  intro p e s m below meth c ls A hF hr hlk hin hAe hH hA hE hl
  unfold cB
  rw [hAe]
  clear hAe
  have hF : FX p m c cX11_ownSharedLock 8 s _ RX11 D t := hF
  have hx := hF.1.1
  have hb := hF.1.2.1
  have hl : lv_has ls 8 [(0, .ref h), (1, va_rf a1), (2, .long a2), (4, .long a4)] := (by have h2 := hl; clear hw; revert h2; cases a1 <;> exact id)
  unfold F_X11_ownSharedLock at hw
  refine lv_iconst (v := 0) hx hb dX11_ownSharedLock_0 (by decide) ?_
  refine lv_istore (lv' := [(6, .int 0), (0, .ref h), (1, va_rf a1), (2, .long a2), (4, .long a4)]) hx hb dX11_ownSharedLock_1 hl (by decide) rfl (fun ls hl => ?_)
  have hl : lv_has ls 8 [(6, .int 0), (4, .long a4), (2, .long a2), (1, va_rf a1), (0, .ref h)] := lv_sub hl [0, 4, 3, 2, 1] rfl
  refine cw_loop (β := Int32) (fun x1 => [(6, .int x1), (4, .long a4), (2, .long a2), (1, va_rf a1), (0, .ref h)]) 0 hl hw hH (fun K3 x1 κ2 ls H locs cells slots hl hw hH ih4 => ?_)
  have hl : lv_has ls 8 [(6, .int x1), (4, .long a4), (2, .long a2), (1, va_rf a1), (0, .ref h)] := hl
  refine lv_iload hx hb dX11_ownSharedLock_3 (lv_at hl 0 rfl) ?_
  refine lv_aload_n hx hb dX11_ownSharedLock_5 rfl (lv_at hl 4 rfl) ?_
  refine cw_getPr (a := h) hF hH fk_X11_55 dX11_ownSharedLock_6 hw (fun z5 hw => ?_)
  refine cw_cViq (q := z5) (As := []) (rest := [.int x1]) hF hH hA hE mv_X11_161 ci_Jx4a65c (by decide) hw (fun b hw sz => c_Jx4a65c_size_8abf5 l D t G _ b  _ hw sz) dX11_ownSharedLock_9 ⟨Nat.le_of_ble_eq_true rfl, Nat.le_of_ble_eq_true rfl⟩ rfl hl.1 (Nat.le_of_ble_eq_true rfl) rfl (fun z7 κ6 H locs cells slots hw hH => ?_)
  refine w_icmp_ge (tgt := 65) hF dX11_ownSharedLock_12 rfl hw (fun hw => ?_) (fun hw => ?_)
  · refine lv_iconst (v := 0) hx hb dX11_ownSharedLock_65 (by decide) ?_
    exact cw_retz hF hH ⟨rfl, rfl⟩ hr hlk dX11_ownSharedLock_66 hw
  · refine lv_aload_n hx hb dX11_ownSharedLock_15 rfl (lv_at hl 4 rfl) ?_
    refine cw_getPr (a := h) hF hH fk_X11_55 dX11_ownSharedLock_16 hw (fun z8 hw => ?_)
    refine lv_iload hx hb dX11_ownSharedLock_19 (lv_at hl 0 rfl) ?_
    refine cw_cVqq (q := z8) (As := [.int x1]) (rest := []) hF hH hA hE mv_X11_164 ci_Jx4a65c (by decide) hw (fun b hw sz => c_Jx4a65c_get_915e3 l D t G _ b x1 _ hw sz) dX11_ownSharedLock_21 ⟨Nat.le_of_ble_eq_true rfl, Nat.le_of_ble_eq_true rfl⟩ rfl hl.1 (Nat.le_of_ble_eq_true rfl) rfl (fun z10 κ9 H locs cells slots hw hH => ?_)
    refine cw_cast (q := z10) hF hH ci_X3 (by decide) (wc_17 27 rfl) (by decide) dX11_ownSharedLock_24 hw (fun hw => ?_)
    refine w_astoreq (lv' := [(7, va_rf z10), (6, .int x1), (4, .long a4), (2, .long a2), (1, va_rf a1), (0, .ref h)]) hF dX11_ownSharedLock_27 hl (by decide) rfl (fun ls hl => ?_)
    refine w_aloadq hF dX11_ownSharedLock_29 (lv_at hl 0 rfl) ?_
    refine cw_getP (q := z10) hF hH fk_X11_563 dX11_ownSharedLock_31 hw (fun z11 hw => ?_)
    refine w_aloadq_n hF dX11_ownSharedLock_34 rfl (lv_at hl 4 rfl) ?_
    obtain ⟨K14, hK15, hw⟩ := jc_open hw
    refine cw_join (K := K14) 59 (fun (x12 : Unit) => [(6, .int x1), (4, .long a4), (2, .long a2), (1, va_rf a1), (0, .ref h)]) (fun (x12 : Unit) => []) hl hH (fun x12 κ13 ls H locs cells slots hl hw hH => ?_) (fun jn16 => ?_)
    · have hw := hK15 x12 κ13 hw
      have hl : lv_has ls 8 [(6, .int x1), (4, .long a4), (2, .long a2), (1, va_rf a1), (0, .ref h)] := hl
      obtain ⟨z17, ez17⟩ : ∃ z : Int32, z = x1 + 1 := ⟨_, rfl⟩
      have hw := hw z17 ez17
      refine lv_iinc (lv' := [(6, .int z17), (4, .long a4), (2, .long a2), (1, va_rf a1), (0, .ref h)]) (k := 0) (v := z17) hx hb dX11_ownSharedLock_59 hl rfl ez17.symm (by decide) rfl (fun ls hl => ?_)
      refine lv_goto (tgt := 3) hx hb dX11_ownSharedLock_62 rfl ?_
      exact ih4 z17 κ13 ls _ _ _ _ hl hw hH
    · skip
      refine cw_acmp_ne (rx := z11) (ry := a1) (tgt := 59) hF dX11_ownSharedLock_35 rfl hw (fun hw => ?_) (fun hw => ?_)
      · have hl : lv_has ls 8 [(6, .int x1), (4, .long a4), (2, .long a2), (1, va_rf a1), (0, .ref h)] := lv_sub hl [1, 2, 3, 4, 5] rfl
        exact jn16 () κ9 ls _ _ _ _ hl hw hH
      · refine w_aloadq hF dX11_ownSharedLock_38 (lv_at hl 0 rfl) ?_
        refine cw_getI (q := z10) hF hH fk_X11_859 dX11_ownSharedLock_40 hw (fun z18 hw => ?_)
        refine w_if_eq (tgt := 59) hF dX11_ownSharedLock_43 rfl hw (fun hw => ?_) (fun hw => ?_)
        · have hl : lv_has ls 8 [(6, .int x1), (4, .long a4), (2, .long a2), (1, va_rf a1), (0, .ref h)] := lv_sub hl [1, 2, 3, 4, 5] rfl
          exact jn16 () κ9 ls _ _ _ _ hl hw hH
        · refine w_aloadq hF dX11_ownSharedLock_46 (lv_at hl 0 rfl) ?_
          refine lv_lload_n hx hb dX11_ownSharedLock_48 rfl (lv_at hl 3 rfl) ?_
          refine lv_lload hx hb dX11_ownSharedLock_49 (lv_at hl 2 rfl) ?_
          refine cw_cViq (q := z10) (As := [.long a2, .long a4]) (rest := []) hF hH hA hE mv_X11_862 ci_X3 (by decide) hw (fun b hw sz => c_X3_meets l D t G _ b a2 a4 _ hw sz) dX11_ownSharedLock_51 ⟨Nat.le_of_ble_eq_true rfl, Nat.le_of_ble_eq_true rfl⟩ rfl hl.1 (Nat.le_of_ble_eq_true rfl) rfl (fun z20 κ19 H locs cells slots hw hH => ?_)
          refine w_if_eq (tgt := 59) hF dX11_ownSharedLock_54 rfl hw (fun hw => ?_) (fun hw => ?_)
          · have hl : lv_has ls 8 [(6, .int x1), (4, .long a4), (2, .long a2), (1, va_rf a1), (0, .ref h)] := lv_sub hl [1, 2, 3, 4, 5] rfl
            exact jn16 () κ19 ls _ _ _ _ hl hw hH
          · refine lv_iconst (v := 1) hx hb dX11_ownSharedLock_57 (by decide) ?_
            exact cw_retz hF hH ⟨rfl, rfl⟩ hr hlk dX11_ownSharedLock_58 hw
set_option maxRecDepth 100000 in
def F_X11_write (G : GE) (h : Nat) (a1 : Option Nat) (a2 : Option Nat) (post : Int32 → CS → Prop) (κ : CS) : Prop := ∃ b : Nat, a2 = some b ∧ (b ∈ sL κ.1 ∧ sK κ.1 b = 10) ∧ ∀ z1 : Option Nat, z1 = sP κ.1 b 2 → ∃ b : Nat, a1 = some b ∧ (b ∈ sL κ.1 ∧ sK κ.1 b = 8) ∧ F_X0_number G b 66 2 (fun (z3 : Int64) (κ2 : CS) => ∀ z4 : Int32, z4 = (z3 : Int64).toInt32 → ∃ b : Nat, a1 = some b ∧ (b ∈ sL κ2.1 ∧ sK κ2.1 b = 8) ∧ F_X0_number G b 68 4 (fun (z6 : Int64) (κ5 : CS) => ∀ z7 : Int32, z7 = (z6 : Int64).toInt32 → ∃ b : Nat, a1 = some b ∧ (b ∈ sL κ5.1 ∧ sK κ5.1 b = 8) ∧ F_X0_number G b 72 8 (fun (z9 : Int64) (κ8 : CS) => ∃ b : Nat, z1 = some b ∧ (b ∈ sL κ8.1 ∧ sK κ8.1 b = 5) ∧ ∀ z10 : Int32, z10 = sI κ8.1 b 2 → ((z10.toInt = 0) → ∃ b : Nat, a2 = some b ∧ (b ∈ sL κ8.1 ∧ sK κ8.1 b = 10) ∧ ∀ z11 : Int32, z11 = sI κ8.1 b 3 → ∀ z12 : Int32, z12 = z11 &&& 6 → jc (fun (K15 : Unit → CS → Prop) => ((z12.toInt = 0) → K15 () κ8) ∧ ((¬ z12.toInt = 0) → jc (fun (K20 : Unit → CS → Prop) => ((¬ z12.toInt = (4 : Int32).toInt) → K20 () κ8) ∧ ((z12.toInt = (4 : Int32).toInt) → ∃ b : Nat, z1 = some b ∧ (b ∈ sL κ8.1 ∧ sK κ8.1 b = 5) ∧ ∀ z71 : Int32, z71 = sI κ8.1 b 12 → ∀ z72 : Int64, z72 = (z71 : Int32).toInt64 → ((z9.toInt = z72.toInt) → K20 () κ8) ∧ ((¬ z9.toInt = z72.toInt) → K15 () κ8))) (fun (x18 : Unit) (κ19 : CS) => ∀ z23 : Int64, z23 = (z7 : Int32).toInt64 → (h ∈ sL κ19.1 ∧ sK κ19.1 h = 1) ∧ F_X11_othersLock G h a2 z9 z23 1 (fun (z25 : Int32) (κ24 : CS) => jc (fun (K28 : Unit → CS → Prop) => ((¬ z25.toInt = 0) → K28 () κ24) ∧ ((z25.toInt = 0) → ∀ z31 : Int64, z31 = (z7 : Int32).toInt64 → (h ∈ sL κ24.1 ∧ sK κ24.1 h = 1) ∧ F_X11_ownSharedLock G h a2 z9 z31 (fun (z33 : Int32) (κ32 : CS) => ((z33.toInt = 0) → F_X11_below G z9 4097 (fun (z35 : Int32) (κ34 : CS) => jc (fun (K38 : Unit → CS → Prop) => ((z35.toInt = 0) → K38 () κ34) ∧ ((¬ z35.toInt = 0) → ∀ z41 : Int64, z41 = (z7 : Int32).toInt64 → ∀ z42 : Int64, z42 = z9 + z41 → ((z42.toInt ≤ (4096 : Int64).toInt) → jc (fun (K45 : Unit → CS → Prop) => ((z7.toInt ≤ 0) → K45 () κ34) ∧ ((0 < z7.toInt) → (h ∈ sL κ34.1 ∧ sK κ34.1 h = 1) ∧ F_X11_nextChange G h 1 z1 (fun (z59 : Option Nat) (κ58 : CS) => ∀ z60 : Int32, z60 = (z9 : Int64).toInt32 → ∃ b : Nat, z59 = some b ∧ (b ∈ sL κ58.1 ∧ sK κ58.1 b = 4) ∧ F_X1_takeBytes G b a1 z4 z7 z60 (fun (κ61 : CS) => (h ∈ sL κ61.1 ∧ sK κ61.1 h = 1) ∧ ∀ z63 : Int64, z63 = sJ κ61.1 h 7 → ∃ b : Nat, z59 = some b ∧ (b ∈ sL κ61.1 ∧ sK κ61.1 b = 4) ∧ ∀ κ64 : CS, κ64 = (h_uJ κ61.1 b 9 z63, κ61.2) → (h ∈ sL κ64.1 ∧ sK κ64.1 h = 1) ∧ ∀ z65 : Int64, z65 = sJ κ64.1 h 7 → ∃ b : Nat, z59 = some b ∧ (b ∈ sL κ64.1 ∧ sK κ64.1 b = 4) ∧ ∀ κ66 : CS, κ66 = (h_uJ κ64.1 b 10 z65, κ64.2) → (h ∈ sL κ66.1 ∧ sK κ66.1 h = 1) ∧ F_X11_done G h z59 (fun (κ67 : CS) => (h ∈ sL κ67.1 ∧ sK κ67.1 h = 1) ∧ F_X11_breakLevelTwo G h z1 a2 (fun (κ69 : CS) => K45 () κ69) κ67) κ66) κ58) κ34)) (fun (x43 : Unit) (κ44 : CS) => (h ∈ sL κ44.1 ∧ sK κ44.1 h = 1) ∧ ∀ z48 : Option Nat, z48 = sP κ44.1 h 15 → ∃ b : Nat, z48 = some b ∧ (b ∈ sL κ44.1 ∧ sK κ44.1 b = 2) ∧ F_X6_begin G b 81 (fun (κ49 : CS) => (h ∈ sL κ49.1 ∧ sK κ49.1 h = 1) ∧ ∀ z51 : Option Nat, z51 = sP κ49.1 h 15 → ∃ b : Nat, z51 = some b ∧ (b ∈ sL κ49.1 ∧ sK κ49.1 b = 2) ∧ F_X6_put G b 64 2 17 (fun (κ52 : CS) => (h ∈ sL κ52.1 ∧ sK κ52.1 h = 1) ∧ ∀ z54 : Option Nat, z54 = sP κ52.1 h 15 → ∀ z55 : Int64, z55 = (z7 : Int32).toInt64 → ∃ b : Nat, z54 = some b ∧ (b ∈ sL κ52.1 ∧ sK κ52.1 b = 2) ∧ F_X6_put G b 68 4 z55 (fun (κ56 : CS) => post 0 κ56) κ52) κ49) κ44)) ∧ (((4096 : Int64).toInt < z42.toInt) → K38 () κ34))) (fun (x36 : Unit) (κ37 : CS) => post (-1073741697) κ37)) κ32) ∧ ((¬ z33.toInt = 0) → K28 () κ32)) κ24)) (fun (x26 : Unit) (κ27 : CS) => post (-1073741740) κ27)) κ19))) (fun (x13 : Unit) (κ14 : CS) => post (-1073741790) κ14)) ∧ ((¬ z10.toInt = 0) → post (-1073741638) κ8)) κ5) κ2) κ
theorem dX11_write_0 : decode cX11_write 0 = .ok (.aload_n 2, 1) := by decide +kernel
theorem dX11_write_1 : decode cX11_write 1 = .ok (.getfield 564, 3) := by decide +kernel
theorem dX11_write_4 : decode cX11_write 4 = .ok (.astore_n 3, 1) := by decide +kernel
theorem dX11_write_5 : decode cX11_write 5 = .ok (.aload_n 1, 1) := by decide +kernel
theorem dX11_write_6 : decode cX11_write 6 = .ok (.bipush 66, 2) := by decide +kernel
theorem dX11_write_8 : decode cX11_write 8 = .ok (.iconst 2, 1) := by decide +kernel
theorem dX11_write_9 : decode cX11_write 9 = .ok (.invokevirtual 394, 3) := by decide +kernel
theorem dX11_write_12 : decode cX11_write 12 = .ok (.l2i, 1) := by decide +kernel
theorem dX11_write_13 : decode cX11_write 13 = .ok (.istore 4, 2) := by decide +kernel
theorem dX11_write_15 : decode cX11_write 15 = .ok (.aload_n 1, 1) := by decide +kernel
theorem dX11_write_16 : decode cX11_write 16 = .ok (.bipush 68, 2) := by decide +kernel
theorem dX11_write_18 : decode cX11_write 18 = .ok (.iconst 4, 1) := by decide +kernel
theorem dX11_write_19 : decode cX11_write 19 = .ok (.invokevirtual 394, 3) := by decide +kernel
theorem dX11_write_22 : decode cX11_write 22 = .ok (.l2i, 1) := by decide +kernel
theorem dX11_write_23 : decode cX11_write 23 = .ok (.istore 5, 2) := by decide +kernel
theorem dX11_write_25 : decode cX11_write 25 = .ok (.aload_n 1, 1) := by decide +kernel
theorem dX11_write_26 : decode cX11_write 26 = .ok (.bipush 72, 2) := by decide +kernel
theorem dX11_write_28 : decode cX11_write 28 = .ok (.bipush 8, 2) := by decide +kernel
theorem dX11_write_30 : decode cX11_write 30 = .ok (.invokevirtual 394, 3) := by decide +kernel
theorem dX11_write_33 : decode cX11_write 33 = .ok (.lstore 6, 2) := by decide +kernel
theorem dX11_write_35 : decode cX11_write 35 = .ok (.aload_n 3, 1) := by decide +kernel
theorem dX11_write_36 : decode cX11_write 36 = .ok (.getfield 577, 3) := by decide +kernel
theorem dX11_write_39 : decode cX11_write 39 = .ok (.ifCond .eq 7, 3) := by decide +kernel
theorem dX11_write_42 : decode cX11_write 42 = .ok (.ldc_w 750, 3) := by decide +kernel
theorem dX11_write_45 : decode cX11_write 45 = .ok (.ireturn, 1) := by decide +kernel
theorem dX11_write_46 : decode cX11_write 46 = .ok (.aload_n 2, 1) := by decide +kernel
theorem dX11_write_47 : decode cX11_write 47 = .ok (.getfield 765, 3) := by decide +kernel
theorem dX11_write_50 : decode cX11_write 50 = .ok (.bipush 6, 2) := by decide +kernel
theorem dX11_write_52 : decode cX11_write 52 = .ok (.iand, 1) := by decide +kernel
theorem dX11_write_53 : decode cX11_write 53 = .ok (.istore 8, 2) := by decide +kernel
theorem dX11_write_55 : decode cX11_write 55 = .ok (.iload 8, 2) := by decide +kernel
theorem dX11_write_57 : decode cX11_write 57 = .ok (.ifCond .eq 20, 3) := by decide +kernel
theorem dX11_write_60 : decode cX11_write 60 = .ok (.iload 8, 2) := by decide +kernel
theorem dX11_write_62 : decode cX11_write 62 = .ok (.iconst 4, 1) := by decide +kernel
theorem dX11_write_63 : decode cX11_write 63 = .ok (.if_icmp .ne 18, 3) := by decide +kernel
theorem dX11_write_66 : decode cX11_write 66 = .ok (.lload 6, 2) := by decide +kernel
theorem dX11_write_68 : decode cX11_write 68 = .ok (.aload_n 3, 1) := by decide +kernel
theorem dX11_write_69 : decode cX11_write 69 = .ok (.getfield 789, 3) := by decide +kernel
theorem dX11_write_72 : decode cX11_write 72 = .ok (.i2l, 1) := by decide +kernel
theorem dX11_write_73 : decode cX11_write 73 = .ok (.lcmp, 1) := by decide +kernel
theorem dX11_write_74 : decode cX11_write 74 = .ok (.ifCond .eq 7, 3) := by decide +kernel
theorem dX11_write_77 : decode cX11_write 77 = .ok (.ldc_w 658, 3) := by decide +kernel
theorem dX11_write_80 : decode cX11_write 80 = .ok (.ireturn, 1) := by decide +kernel
theorem dX11_write_81 : decode cX11_write 81 = .ok (.aload_n 0, 1) := by decide +kernel
theorem dX11_write_82 : decode cX11_write 82 = .ok (.aload_n 2, 1) := by decide +kernel
theorem dX11_write_83 : decode cX11_write 83 = .ok (.lload 6, 2) := by decide +kernel
theorem dX11_write_85 : decode cX11_write 85 = .ok (.iload 5, 2) := by decide +kernel
theorem dX11_write_87 : decode cX11_write 87 = .ok (.i2l, 1) := by decide +kernel
theorem dX11_write_88 : decode cX11_write 88 = .ok (.iconst 1, 1) := by decide +kernel
theorem dX11_write_89 : decode cX11_write 89 = .ok (.invokevirtual 784, 3) := by decide +kernel
theorem dX11_write_92 : decode cX11_write 92 = .ok (.ifCond .ne 16, 3) := by decide +kernel
theorem dX11_write_95 : decode cX11_write 95 = .ok (.aload_n 0, 1) := by decide +kernel
theorem dX11_write_96 : decode cX11_write 96 = .ok (.aload_n 2, 1) := by decide +kernel
theorem dX11_write_97 : decode cX11_write 97 = .ok (.lload 6, 2) := by decide +kernel
theorem dX11_write_99 : decode cX11_write 99 = .ok (.iload 5, 2) := by decide +kernel
theorem dX11_write_101 : decode cX11_write 101 = .ok (.i2l, 1) := by decide +kernel
theorem dX11_write_102 : decode cX11_write 102 = .ok (.invokevirtual 808, 3) := by decide +kernel
theorem dX11_write_105 : decode cX11_write 105 = .ok (.ifCond .eq 7, 3) := by decide +kernel
theorem dX11_write_108 : decode cX11_write 108 = .ok (.ldc_w 788, 3) := by decide +kernel
theorem dX11_write_111 : decode cX11_write 111 = .ok (.ireturn, 1) := by decide +kernel
theorem dX11_write_112 : decode cX11_write 112 = .ok (.lload 6, 2) := by decide +kernel
theorem dX11_write_114 : decode cX11_write 114 = .ok (.ldc2_w 812, 3) := by decide +kernel
theorem dX11_write_117 : decode cX11_write 117 = .ok (.invokestatic 790, 3) := by decide +kernel
theorem dX11_write_120 : decode cX11_write 120 = .ok (.ifCond .eq 16, 3) := by decide +kernel
theorem dX11_write_123 : decode cX11_write 123 = .ok (.lload 6, 2) := by decide +kernel
theorem dX11_write_125 : decode cX11_write 125 = .ok (.iload 5, 2) := by decide +kernel
theorem dX11_write_127 : decode cX11_write 127 = .ok (.i2l, 1) := by decide +kernel
theorem dX11_write_128 : decode cX11_write 128 = .ok (.ladd, 1) := by decide +kernel
theorem dX11_write_129 : decode cX11_write 129 = .ok (.ldc2_w 814, 3) := by decide +kernel
theorem dX11_write_132 : decode cX11_write 132 = .ok (.lcmp, 1) := by decide +kernel
theorem dX11_write_133 : decode cX11_write 133 = .ok (.ifCond .le 7, 3) := by decide +kernel
theorem dX11_write_136 : decode cX11_write 136 = .ok (.ldc_w 707, 3) := by decide +kernel
theorem dX11_write_139 : decode cX11_write 139 = .ok (.ireturn, 1) := by decide +kernel
theorem dX11_write_140 : decode cX11_write 140 = .ok (.iload 5, 2) := by decide +kernel
theorem dX11_write_142 : decode cX11_write 142 = .ok (.ifCond .le 54, 3) := by decide +kernel
theorem dX11_write_145 : decode cX11_write 145 = .ok (.aload_n 0, 1) := by decide +kernel
theorem dX11_write_146 : decode cX11_write 146 = .ok (.iconst 1, 1) := by decide +kernel
theorem dX11_write_147 : decode cX11_write 147 = .ok (.aload_n 3, 1) := by decide +kernel
theorem dX11_write_148 : decode cX11_write 148 = .ok (.invokevirtual 234, 3) := by decide +kernel
theorem dX11_write_151 : decode cX11_write 151 = .ok (.astore 9, 2) := by decide +kernel
theorem dX11_write_153 : decode cX11_write 153 = .ok (.aload 9, 2) := by decide +kernel
theorem dX11_write_155 : decode cX11_write 155 = .ok (.aload_n 1, 1) := by decide +kernel
theorem dX11_write_156 : decode cX11_write 156 = .ok (.iload 4, 2) := by decide +kernel
theorem dX11_write_158 : decode cX11_write 158 = .ok (.iload 5, 2) := by decide +kernel
theorem dX11_write_160 : decode cX11_write 160 = .ok (.lload 6, 2) := by decide +kernel
theorem dX11_write_162 : decode cX11_write 162 = .ok (.l2i, 1) := by decide +kernel
theorem dX11_write_163 : decode cX11_write 163 = .ok (.invokevirtual 816, 3) := by decide +kernel
theorem dX11_write_166 : decode cX11_write 166 = .ok (.aload 9, 2) := by decide +kernel
theorem dX11_write_168 : decode cX11_write 168 = .ok (.aload_n 0, 1) := by decide +kernel
theorem dX11_write_169 : decode cX11_write 169 = .ok (.getfield 157, 3) := by decide +kernel
theorem dX11_write_172 : decode cX11_write 172 = .ok (.putfield 736, 3) := by decide +kernel
theorem dX11_write_175 : decode cX11_write 175 = .ok (.aload 9, 2) := by decide +kernel
theorem dX11_write_177 : decode cX11_write 177 = .ok (.aload_n 0, 1) := by decide +kernel
theorem dX11_write_178 : decode cX11_write 178 = .ok (.getfield 157, 3) := by decide +kernel
theorem dX11_write_181 : decode cX11_write 181 = .ok (.putfield 739, 3) := by decide +kernel
theorem dX11_write_184 : decode cX11_write 184 = .ok (.aload_n 0, 1) := by decide +kernel
theorem dX11_write_185 : decode cX11_write 185 = .ok (.aload 9, 2) := by decide +kernel
theorem dX11_write_187 : decode cX11_write 187 = .ok (.invokevirtual 584, 3) := by decide +kernel
theorem dX11_write_190 : decode cX11_write 190 = .ok (.aload_n 0, 1) := by decide +kernel
theorem dX11_write_191 : decode cX11_write 191 = .ok (.aload_n 3, 1) := by decide +kernel
theorem dX11_write_192 : decode cX11_write 192 = .ok (.aload_n 2, 1) := by decide +kernel
theorem dX11_write_193 : decode cX11_write 193 = .ok (.invokevirtual 744, 3) := by decide +kernel
theorem dX11_write_196 : decode cX11_write 196 = .ok (.aload_n 0, 1) := by decide +kernel
theorem dX11_write_197 : decode cX11_write 197 = .ok (.getfield 68, 3) := by decide +kernel
theorem dX11_write_200 : decode cX11_write 200 = .ok (.bipush 81, 2) := by decide +kernel
theorem dX11_write_202 : decode cX11_write 202 = .ok (.invokevirtual 262, 3) := by decide +kernel
theorem dX11_write_205 : decode cX11_write 205 = .ok (.aload_n 0, 1) := by decide +kernel
theorem dX11_write_206 : decode cX11_write 206 = .ok (.getfield 68, 3) := by decide +kernel
theorem dX11_write_209 : decode cX11_write 209 = .ok (.bipush 64, 2) := by decide +kernel
theorem dX11_write_211 : decode cX11_write 211 = .ok (.iconst 2, 1) := by decide +kernel
theorem dX11_write_212 : decode cX11_write 212 = .ok (.ldc2_w 801, 3) := by decide +kernel
theorem dX11_write_215 : decode cX11_write 215 = .ok (.invokevirtual 349, 3) := by decide +kernel
theorem dX11_write_218 : decode cX11_write 218 = .ok (.aload_n 0, 1) := by decide +kernel
theorem dX11_write_219 : decode cX11_write 219 = .ok (.getfield 68, 3) := by decide +kernel
theorem dX11_write_222 : decode cX11_write 222 = .ok (.bipush 68, 2) := by decide +kernel
theorem dX11_write_224 : decode cX11_write 224 = .ok (.iconst 4, 1) := by decide +kernel
theorem dX11_write_225 : decode cX11_write 225 = .ok (.iload 5, 2) := by decide +kernel
theorem dX11_write_227 : decode cX11_write 227 = .ok (.i2l, 1) := by decide +kernel
theorem dX11_write_228 : decode cX11_write 228 = .ok (.invokevirtual 349, 3) := by decide +kernel
theorem dX11_write_231 : decode cX11_write 231 = .ok (.iconst 0, 1) := by decide +kernel
theorem dX11_write_232 : decode cX11_write 232 = .ok (.ireturn, 1) := by decide +kernel
set_option maxRecDepth 100000 in
set_option maxHeartbeats 4000000 in
theorem c_X11_write (l : Launch) (D : va_G) (t : Nat → ClassId) (G : GE) (κ : CS) (h : Nat) (a1 : Option Nat) (a2 : Option Nat) (post : Int32 → CS → Prop) (hw : F_X11_write G h a1 a2 post κ) (sz : Nat) : CMi l D t yX11_write cX11_write 10 (some .int) 5 131 G κ sz [.ref h, va_rf a1, va_rf a2] post := by
  refine c_go (by decide) (by cases a1 <;> cases a2 <;> exact Nat.le_of_ble_eq_true rfl) ?_
  intro p e s m below meth c ls A hF hr hlk hin hAe hH hA hE hl
  unfold cB
  rw [hAe]
  clear hAe
  have hF : FX p m c cX11_write 10 s _ RX11 D t := hF
  have hx := hF.1.1
  have hb := hF.1.2.1
  have hl : lv_has ls 10 [(0, .ref h), (1, va_rf a1), (2, va_rf a2)] := (by have h2 := hl; clear hw; revert h2; cases a1 <;> cases a2 <;> exact id)
  unfold F_X11_write at hw
  refine w_aloadq_n hF dX11_write_0 rfl (lv_at hl 2 rfl) ?_
  refine cw_getP (q := a2) hF hH fk_X11_564 dX11_write_1 hw (fun z1 hw => ?_)
  refine w_astoreq_n (lv' := [(3, va_rf z1), (0, .ref h), (1, va_rf a1), (2, va_rf a2)]) hF dX11_write_4 rfl hl (by decide) (by generalize a2 = y; cases y <;> rfl) (fun ls hl => ?_)
  refine w_aloadq_n hF dX11_write_5 rfl (lv_at hl 2 rfl) ?_
  refine lv_bipush (v := 66) hx hb dX11_write_6 (by decide) ?_
  refine lv_iconst (v := 2) hx hb dX11_write_8 (by decide) ?_
  refine cw_cVlq (q := a1) (As := [.int 66, .int 2]) (rest := []) hF hH hA hE mv_X11_394 ci_X0 (by decide) hw (fun b hw sz => c_X0_number l D t G _ b 66 2 _ hw sz) dX11_write_9 ⟨Nat.le_of_ble_eq_true rfl, Nat.le_of_ble_eq_true rfl⟩ rfl hl.1 (Nat.le_of_ble_eq_true rfl) rfl (fun z3 κ2 H locs cells slots hw hH => ?_)
  refine lv_l2i hx hb dX11_write_12 rfl ?_
  refine w_nmi hw (fun z4 hw => ?_)
  refine lv_istore (lv' := [(4, .int z4), (3, va_rf z1), (0, .ref h), (1, va_rf a1), (2, va_rf a2)]) hx hb dX11_write_13 hl (by decide) (by generalize z1 = y; cases y <;> rfl) (fun ls hl => ?_)
  refine w_aloadq_n hF dX11_write_15 rfl (lv_at hl 3 rfl) ?_
  refine lv_bipush (v := 68) hx hb dX11_write_16 (by decide) ?_
  refine lv_iconst (v := 4) hx hb dX11_write_18 (by decide) ?_
  refine cw_cVlq (q := a1) (As := [.int 68, .int 4]) (rest := []) hF hH hA hE mv_X11_394 ci_X0 (by decide) hw (fun b hw sz => c_X0_number l D t G _ b 68 4 _ hw sz) dX11_write_19 ⟨Nat.le_of_ble_eq_true rfl, Nat.le_of_ble_eq_true rfl⟩ rfl hl.1 (Nat.le_of_ble_eq_true rfl) rfl (fun z6 κ5 H locs cells slots hw hH => ?_)
  refine lv_l2i hx hb dX11_write_22 rfl ?_
  refine w_nmi hw (fun z7 hw => ?_)
  refine lv_istore (lv' := [(5, .int z7), (4, .int z4), (3, va_rf z1), (0, .ref h), (1, va_rf a1), (2, va_rf a2)]) hx hb dX11_write_23 hl (by decide) rfl (fun ls hl => ?_)
  refine w_aloadq_n hF dX11_write_25 rfl (lv_at hl 4 rfl) ?_
  refine lv_bipush (v := 72) hx hb dX11_write_26 (by decide) ?_
  refine lv_bipush (v := 8) hx hb dX11_write_28 (by decide) ?_
  refine cw_cVlq (q := a1) (As := [.int 72, .int 8]) (rest := []) hF hH hA hE mv_X11_394 ci_X0 (by decide) hw (fun b hw sz => c_X0_number l D t G _ b 72 8 _ hw sz) dX11_write_30 ⟨Nat.le_of_ble_eq_true rfl, Nat.le_of_ble_eq_true rfl⟩ rfl hl.1 (Nat.le_of_ble_eq_true rfl) rfl (fun z9 κ8 H locs cells slots hw hH => ?_)
  refine lv_lstore (lv' := [(6, .long z9), (5, .int z7), (4, .int z4), (3, va_rf z1), (0, .ref h), (1, va_rf a1), (2, va_rf a2)]) hx hb dX11_write_33 hl (by decide) rfl (fun ls hl => ?_)
  refine w_aloadq_n hF dX11_write_35 rfl (lv_at hl 3 rfl) ?_
  refine cw_getI (q := z1) hF hH fk_X11_577 dX11_write_36 hw (fun z10 hw => ?_)
  refine w_if_eq (tgt := 46) hF dX11_write_39 rfl hw (fun hw => ?_) (fun hw => ?_)
  · refine w_aloadq_n hF dX11_write_46 rfl (lv_at hl 6 rfl) ?_
    refine cw_getI (q := a2) hF hH fk_X11_765 dX11_write_47 hw (fun z11 hw => ?_)
    refine lv_bipush (v := 6) hx hb dX11_write_50 (by decide) ?_
    refine lv_iand hx hb dX11_write_52 ?_
    refine w_nmi hw (fun z12 hw => ?_)
    refine lv_istore (lv' := [(8, .int z12), (6, .long z9), (5, .int z7), (4, .int z4), (3, va_rf z1), (0, .ref h), (1, va_rf a1), (2, va_rf a2)]) hx hb dX11_write_53 hl (by decide) rfl (fun ls hl => ?_)
    refine lv_iload hx hb dX11_write_55 (lv_at hl 0 rfl) ?_
    obtain ⟨K15, hK16, hw⟩ := jc_open hw
    refine cw_join (K := K15) 77 (fun (x13 : Unit) => []) (fun (x13 : Unit) => []) hl hH (fun x13 κ14 ls H locs cells slots hl hw hH => ?_) (fun jn17 => ?_)
    · have hw := hK16 x13 κ14 hw
      have hl : lv_has ls 10 [] := hl
      refine lv_ldcw (v := (-1073741790)) hx hb hF.1.2.2.2.1 (hF.1.2.2.2.2 _ (wc_22 30 rfl)) dX11_write_77 ?_
      exact cw_reti hF hH ⟨rfl, rfl⟩ hr rfl hlk dX11_write_80 hw
    · skip
      refine w_if_eq (tgt := 77) hF dX11_write_57 rfl hw (fun hw => ?_) (fun hw => ?_)
      · have hl : lv_has ls 10 [] := lv_sub hl [] rfl
        exact jn17 () κ8 ls _ _ _ _ hl hw hH
      · refine lv_iload hx hb dX11_write_60 (lv_at hl 0 rfl) ?_
        refine lv_iconst (v := 4) hx hb dX11_write_62 (by decide) ?_
        obtain ⟨K20, hK21, hw⟩ := jc_open hw
        refine cw_join (K := K20) 81 (fun (x18 : Unit) => [(6, .long z9), (5, .int z7), (4, .int z4), (3, va_rf z1), (2, va_rf a2), (1, va_rf a1), (0, .ref h)]) (fun (x18 : Unit) => []) hl hH (fun x18 κ19 ls H locs cells slots hl hw hH => ?_) (fun jn22 => ?_)
        · have hw := hK21 x18 κ19 hw
          have hl : lv_has ls 10 [(6, .long z9), (5, .int z7), (4, .int z4), (3, va_rf z1), (2, va_rf a2), (1, va_rf a1), (0, .ref h)] := hl
          refine lv_aload_n hx hb dX11_write_81 rfl (lv_at hl 6 rfl) ?_
          refine w_aloadq_n hF dX11_write_82 rfl (lv_at hl 4 rfl) ?_
          refine lv_lload hx hb dX11_write_83 (lv_at hl 0 rfl) ?_
          refine lv_iload hx hb dX11_write_85 (lv_at hl 1 rfl) ?_
          refine lv_i2l hx hb dX11_write_87 rfl ?_
          refine w_nml hw (fun z23 hw => ?_)
          refine lv_iconst (v := 1) hx hb dX11_write_88 (by decide) ?_
          refine cw_cVi (b := h) (As := [va_rf a2, .long z9, .long z23, .int 1]) (rest := []) hF hH hA hE mv_X11_784 ci_X11 (by decide) (fun sz => c_X11_othersLock l D t G _ h a2 z9 z23 1 _ hw.2 sz) dX11_write_89 hw.1 ⟨Nat.le_of_ble_eq_true rfl, Nat.le_of_ble_eq_true rfl⟩ rfl hl.1 (Nat.le_of_ble_eq_true rfl) rfl (fun z25 κ24 H locs cells slots hw hH => ?_)
          obtain ⟨K28, hK29, hw⟩ := jc_open hw
          refine cw_join (K := K28) 108 (fun (x26 : Unit) => []) (fun (x26 : Unit) => []) hl hH (fun x26 κ27 ls H locs cells slots hl hw hH => ?_) (fun jn30 => ?_)
          · have hw := hK29 x26 κ27 hw
            have hl : lv_has ls 10 [] := hl
            refine lv_ldcw (v := (-1073741740)) hx hb hF.1.2.2.2.1 (hF.1.2.2.2.2 _ (wc_31 23 rfl)) dX11_write_108 ?_
            exact cw_reti hF hH ⟨rfl, rfl⟩ hr rfl hlk dX11_write_111 hw
          · skip
            refine w_if_ne (tgt := 108) hF dX11_write_92 rfl hw (fun hw => ?_) (fun hw => ?_)
            · have hl : lv_has ls 10 [] := lv_sub hl [] rfl
              exact jn30 () κ24 ls _ _ _ _ hl hw hH
            · refine lv_aload_n hx hb dX11_write_95 rfl (lv_at hl 6 rfl) ?_
              refine w_aloadq_n hF dX11_write_96 rfl (lv_at hl 4 rfl) ?_
              refine lv_lload hx hb dX11_write_97 (lv_at hl 0 rfl) ?_
              refine lv_iload hx hb dX11_write_99 (lv_at hl 1 rfl) ?_
              refine lv_i2l hx hb dX11_write_101 rfl ?_
              refine w_nml hw (fun z31 hw => ?_)
              refine cw_cVi (b := h) (As := [va_rf a2, .long z9, .long z31]) (rest := []) hF hH hA hE mv_X11_808 ci_X11 (by decide) (fun sz => c_X11_ownSharedLock l D t G _ h a2 z9 z31 _ hw.2 sz) dX11_write_102 hw.1 ⟨Nat.le_of_ble_eq_true rfl, Nat.le_of_ble_eq_true rfl⟩ rfl hl.1 (Nat.le_of_ble_eq_true rfl) rfl (fun z33 κ32 H locs cells slots hw hH => ?_)
              refine w_if_eq (tgt := 112) hF dX11_write_105 rfl hw (fun hw => ?_) (fun hw => ?_)
              · refine lv_lload hx hb dX11_write_112 (lv_at hl 0 rfl) ?_
                refine lv_ldc2 (v := 4097) hx hb hF.1.2.2.2.1 (hF.1.2.2.2.2 _ (wc_31 37 rfl)) dX11_write_114 ?_
                refine cw_cSi (As := [.long z9, .long 4097]) (rest := []) hF hH hA hE ms_X11_790 (fun sz => c_X11_below l D t G _ z9 4097 _ hw sz) dX11_write_117 ⟨Nat.le_of_ble_eq_true rfl, Nat.le_of_ble_eq_true rfl⟩ rfl hl.1 (Nat.le_of_ble_eq_true rfl) rfl (fun z35 κ34 H locs cells slots hw hH => ?_)
                obtain ⟨K38, hK39, hw⟩ := jc_open hw
                refine cw_join (K := K38) 136 (fun (x36 : Unit) => []) (fun (x36 : Unit) => []) hl hH (fun x36 κ37 ls H locs cells slots hl hw hH => ?_) (fun jn40 => ?_)
                · have hw := hK39 x36 κ37 hw
                  have hl : lv_has ls 10 [] := hl
                  refine lv_ldcw (v := (-1073741697)) hx hb hF.1.2.2.2.1 (hF.1.2.2.2.2 _ (wc_18 6 rfl)) dX11_write_136 ?_
                  exact cw_reti hF hH ⟨rfl, rfl⟩ hr rfl hlk dX11_write_139 hw
                · skip
                  refine w_if_eq (tgt := 136) hF dX11_write_120 rfl hw (fun hw => ?_) (fun hw => ?_)
                  · have hl : lv_has ls 10 [] := lv_sub hl [] rfl
                    exact jn40 () κ34 ls _ _ _ _ hl hw hH
                  · refine lv_lload hx hb dX11_write_123 (lv_at hl 0 rfl) ?_
                    refine lv_iload hx hb dX11_write_125 (lv_at hl 1 rfl) ?_
                    refine lv_i2l hx hb dX11_write_127 rfl ?_
                    refine w_nml hw (fun z41 hw => ?_)
                    refine lv_ladd hx hb dX11_write_128 ?_
                    refine w_nml hw (fun z42 hw => ?_)
                    refine lv_ldc2 (v := 4096) hx hb hF.1.2.2.2.1 (hF.1.2.2.2.2 _ (wc_31 38 rfl)) dX11_write_129 ?_
                    refine w_lif_le (tgt := 140) hF dX11_write_132 dX11_write_133 rfl hw (fun hw => ?_) (fun hw => ?_)
                    · refine lv_iload hx hb dX11_write_140 (lv_at hl 1 rfl) ?_
                      obtain ⟨K45, hK46, hw⟩ := jc_open hw
                      refine cw_join (K := K45) 196 (fun (x43 : Unit) => [(5, .int z7), (0, .ref h)]) (fun (x43 : Unit) => []) hl hH (fun x43 κ44 ls H locs cells slots hl hw hH => ?_) (fun jn47 => ?_)
                      · have hw := hK46 x43 κ44 hw
                        have hl : lv_has ls 10 [(5, .int z7), (0, .ref h)] := hl
                        refine lv_aload_n hx hb dX11_write_196 rfl (lv_at hl 1 rfl) ?_
                        refine cw_getPr (a := h) hF hH fk_X11_68 dX11_write_197 hw (fun z48 hw => ?_)
                        refine lv_bipush (v := 81) hx hb dX11_write_200 (by decide) ?_
                        refine cw_cVvq (q := z48) (As := [.int 81]) (rest := []) hF hH hA hE mv_X11_262 ci_X6 (by decide) hw (fun b hw sz => c_X6_begin l D t G _ b 81 _ hw sz) dX11_write_202 ⟨Nat.le_of_ble_eq_true rfl, Nat.le_of_ble_eq_true rfl⟩ rfl hl.1 (Nat.le_of_ble_eq_true rfl) rfl (fun κ49 H locs cells slots hw hH => ?_)
                        refine lv_aload_n hx hb dX11_write_205 rfl (lv_at hl 1 rfl) ?_
                        refine cw_getPr (a := h) hF hH fk_X11_68 dX11_write_206 hw (fun z51 hw => ?_)
                        refine lv_bipush (v := 64) hx hb dX11_write_209 (by decide) ?_
                        refine lv_iconst (v := 2) hx hb dX11_write_211 (by decide) ?_
                        refine lv_ldc2 (v := 17) hx hb hF.1.2.2.2.1 (hF.1.2.2.2.2 _ (wc_31 28 rfl)) dX11_write_212 ?_
                        refine cw_cVvq (q := z51) (As := [.int 64, .int 2, .long 17]) (rest := []) hF hH hA hE mv_X11_349 ci_X6 (by decide) hw (fun b hw sz => c_X6_put l D t G _ b 64 2 17 _ hw sz) dX11_write_215 ⟨Nat.le_of_ble_eq_true rfl, Nat.le_of_ble_eq_true rfl⟩ rfl hl.1 (Nat.le_of_ble_eq_true rfl) rfl (fun κ52 H locs cells slots hw hH => ?_)
                        refine lv_aload_n hx hb dX11_write_218 rfl (lv_at hl 1 rfl) ?_
                        refine cw_getPr (a := h) hF hH fk_X11_68 dX11_write_219 hw (fun z54 hw => ?_)
                        refine lv_bipush (v := 68) hx hb dX11_write_222 (by decide) ?_
                        refine lv_iconst (v := 4) hx hb dX11_write_224 (by decide) ?_
                        refine lv_iload hx hb dX11_write_225 (lv_at hl 0 rfl) ?_
                        refine lv_i2l hx hb dX11_write_227 rfl ?_
                        refine w_nml hw (fun z55 hw => ?_)
                        refine cw_cVvq (q := z54) (As := [.int 68, .int 4, .long z55]) (rest := []) hF hH hA hE mv_X11_349 ci_X6 (by decide) hw (fun b hw sz => c_X6_put l D t G _ b 68 4 z55 _ hw sz) dX11_write_228 ⟨Nat.le_of_ble_eq_true rfl, Nat.le_of_ble_eq_true rfl⟩ rfl hl.1 (Nat.le_of_ble_eq_true rfl) rfl (fun κ56 H locs cells slots hw hH => ?_)
                        refine lv_iconst (v := 0) hx hb dX11_write_231 (by decide) ?_
                        exact cw_reti hF hH ⟨rfl, rfl⟩ hr rfl hlk dX11_write_232 hw
                      · skip
                        refine w_if_le (tgt := 196) hF dX11_write_142 rfl hw (fun hw => ?_) (fun hw => ?_)
                        · have hl : lv_has ls 10 [(5, .int z7), (0, .ref h)] := lv_sub hl [1, 6] rfl
                          exact jn47 () κ34 ls _ _ _ _ hl hw hH
                        · refine lv_aload_n hx hb dX11_write_145 rfl (lv_at hl 6 rfl) ?_
                          refine lv_iconst (v := 1) hx hb dX11_write_146 (by decide) ?_
                          refine w_aloadq_n hF dX11_write_147 rfl (lv_at hl 3 rfl) ?_
                          refine cw_cVq (b := h) (As := [.int 1, va_rf z1]) (rest := []) hF hH hA hE mv_X11_234 ci_X11 (by decide) (fun sz => c_X11_nextChange l D t G _ h 1 z1 _ hw.2 sz) dX11_write_148 hw.1 ⟨Nat.le_of_ble_eq_true rfl, Nat.le_of_ble_eq_true rfl⟩ rfl hl.1 (Nat.le_of_ble_eq_true rfl) rfl (fun z59 κ58 H locs cells slots hw hH => ?_)
                          refine w_astoreq (lv' := [(9, va_rf z59), (6, .long z9), (5, .int z7), (4, .int z4), (3, va_rf z1), (2, va_rf a2), (1, va_rf a1), (0, .ref h)]) hF dX11_write_151 hl (by decide) rfl (fun ls hl => ?_)
                          refine w_aloadq hF dX11_write_153 (lv_at hl 0 rfl) ?_
                          refine w_aloadq_n hF dX11_write_155 rfl (lv_at hl 6 rfl) ?_
                          refine lv_iload hx hb dX11_write_156 (lv_at hl 3 rfl) ?_
                          refine lv_iload hx hb dX11_write_158 (lv_at hl 2 rfl) ?_
                          refine lv_lload hx hb dX11_write_160 (lv_at hl 1 rfl) ?_
                          refine lv_l2i hx hb dX11_write_162 rfl ?_
                          refine w_nmi hw (fun z60 hw => ?_)
                          refine cw_cVvq (q := z59) (As := [va_rf a1, .int z4, .int z7, .int z60]) (rest := []) hF hH hA hE mv_X11_816 ci_X1 (by decide) hw (fun b hw sz => c_X1_takeBytes l D t G _ b a1 z4 z7 z60 _ hw sz) dX11_write_163 ⟨Nat.le_of_ble_eq_true rfl, Nat.le_of_ble_eq_true rfl⟩ rfl hl.1 (Nat.le_of_ble_eq_true rfl) rfl (fun κ61 H locs cells slots hw hH => ?_)
                          refine w_aloadq hF dX11_write_166 (lv_at hl 0 rfl) ?_
                          refine lv_aload_n hx hb dX11_write_168 rfl (lv_at hl 7 rfl) ?_
                          refine cw_getJr (a := h) hF hH fk_X11_157 dX11_write_169 hw (fun z63 hw => ?_)
                          refine cw_putJ (q := z59) (v := z63) hF hH fk_X11_736 dX11_write_172 rfl rfl rfl hw (fun κ64 H locs cells slots hw hH => ?_)
                          refine w_aloadq hF dX11_write_175 (lv_at hl 0 rfl) ?_
                          refine lv_aload_n hx hb dX11_write_177 rfl (lv_at hl 7 rfl) ?_
                          refine cw_getJr (a := h) hF hH fk_X11_157 dX11_write_178 hw (fun z65 hw => ?_)
                          refine cw_putJ (q := z59) (v := z65) hF hH fk_X11_739 dX11_write_181 rfl rfl rfl hw (fun κ66 H locs cells slots hw hH => ?_)
                          refine lv_aload_n hx hb dX11_write_184 rfl (lv_at hl 7 rfl) ?_
                          refine w_aloadq hF dX11_write_185 (lv_at hl 0 rfl) ?_
                          refine cw_cVv (b := h) (As := [va_rf z59]) (rest := []) hF hH hA hE mv_X11_584 ci_X11 (by decide) (fun sz => c_X11_done l D t G _ h z59 _ hw.2 sz) dX11_write_187 hw.1 ⟨Nat.le_of_ble_eq_true rfl, Nat.le_of_ble_eq_true rfl⟩ rfl hl.1 (Nat.le_of_ble_eq_true rfl) rfl (fun κ67 H locs cells slots hw hH => ?_)
                          refine lv_aload_n hx hb dX11_write_190 rfl (lv_at hl 7 rfl) ?_
                          refine w_aloadq_n hF dX11_write_191 rfl (lv_at hl 4 rfl) ?_
                          refine w_aloadq_n hF dX11_write_192 rfl (lv_at hl 5 rfl) ?_
                          refine cw_cVv (b := h) (As := [va_rf z1, va_rf a2]) (rest := []) hF hH hA hE mv_X11_744 ci_X11 (by decide) (fun sz => c_X11_breakLevelTwo l D t G _ h z1 a2 _ hw.2 sz) dX11_write_193 hw.1 ⟨Nat.le_of_ble_eq_true rfl, Nat.le_of_ble_eq_true rfl⟩ rfl hl.1 (Nat.le_of_ble_eq_true rfl) rfl (fun κ69 H locs cells slots hw hH => ?_)
                          have hl : lv_has ls 10 [(5, .int z7), (0, .ref h)] := lv_sub hl [2, 7] rfl
                          exact jn47 () κ69 ls _ _ _ _ hl hw hH
                    · have hl : lv_has ls 10 [] := lv_sub hl [] rfl
                      exact jn40 () κ34 ls _ _ _ _ hl hw hH
              · have hl : lv_has ls 10 [] := lv_sub hl [] rfl
                exact jn30 () κ32 ls _ _ _ _ hl hw hH
        · skip
          refine w_icmp_ne (tgt := 81) hF dX11_write_63 rfl hw (fun hw => ?_) (fun hw => ?_)
          · have hl : lv_has ls 10 [(6, .long z9), (5, .int z7), (4, .int z4), (3, va_rf z1), (2, va_rf a2), (1, va_rf a1), (0, .ref h)] := lv_sub hl [1, 2, 3, 4, 7, 6, 5] rfl
            exact jn22 () κ8 ls _ _ _ _ hl hw hH
          · refine lv_lload hx hb dX11_write_66 (lv_at hl 1 rfl) ?_
            refine w_aloadq_n hF dX11_write_68 rfl (lv_at hl 4 rfl) ?_
            refine cw_getI (q := z1) hF hH fk_X11_789 dX11_write_69 hw (fun z71 hw => ?_)
            refine lv_i2l hx hb dX11_write_72 rfl ?_
            refine w_nml hw (fun z72 hw => ?_)
            refine w_lif_eq (tgt := 81) hF dX11_write_73 dX11_write_74 rfl hw (fun hw => ?_) (fun hw => ?_)
            · have hl : lv_has ls 10 [(6, .long z9), (5, .int z7), (4, .int z4), (3, va_rf z1), (2, va_rf a2), (1, va_rf a1), (0, .ref h)] := lv_sub hl [1, 2, 3, 4, 7, 6, 5] rfl
              exact jn22 () κ8 ls _ _ _ _ hl hw hH
            · have hl : lv_has ls 10 [] := lv_sub hl [] rfl
              exact jn17 () κ8 ls _ _ _ _ hl hw hH
  · refine lv_ldcw (v := (-1073741638)) hx hb hF.1.2.2.2.1 (hF.1.2.2.2.2 _ (wc_23 13 rfl)) dX11_write_42 ?_
    exact cw_reti hF hH ⟨rfl, rfl⟩ hr rfl hlk dX11_write_45 hw
set_option maxRecDepth 100000 in
def F_X11_isLocking (G : GE) (a0 : Int64) (a2 : Int32) (post : Int32 → CS → Prop) (κ : CS) : Prop := ∀ z1 : Int64, z1 = a0 &&& (-17) → ∀ z2 : Int64, z2 = a0 &&& 16 → jc (fun (K5 : Int32 → CS → Prop) => ((z2.toInt = (0 : Int64).toInt) → K5 0 κ) ∧ ((¬ z2.toInt = (0 : Int64).toInt) → K5 1 κ)) (fun (x3 : Int32) (κ4 : CS) => jc (fun (K10 : Int32 → CS → Prop) => jc (fun (K15 : Unit → CS → Prop) => jc (fun (K20 : Unit → CS → Prop) => ((z1.toInt = (1 : Int64).toInt) → K20 () κ4) ∧ ((¬ z1.toInt = (1 : Int64).toInt) → ((¬ z1.toInt = (2 : Int64).toInt) → K15 () κ4) ∧ ((z1.toInt = (2 : Int64).toInt) → K20 () κ4))) (fun (x18 : Unit) (κ19 : CS) => jc (fun (K25 : Unit → CS → Prop) => ((¬ x3.toInt = 0) → K25 () κ19) ∧ ((x3.toInt = 0) → ((¬ a2.toInt = (1 : Int32).toInt) → K15 () κ19) ∧ ((a2.toInt = (1 : Int32).toInt) → K25 () κ19))) (fun (x23 : Unit) (κ24 : CS) => K10 1 κ24))) (fun (x13 : Unit) (κ14 : CS) => K10 0 κ14)) (fun (x8 : Int32) (κ9 : CS) => (0 ≤ x8.toInt ∧ x8.toInt ≤ 1) ∧ post x8 κ9))
theorem dX11_isLocking_0 : decode cX11_isLocking 0 = .ok (.lload_n 0, 1) := by decide +kernel
theorem dX11_isLocking_1 : decode cX11_isLocking 1 = .ok (.ldc2_w 839, 3) := by decide +kernel
theorem dX11_isLocking_4 : decode cX11_isLocking 4 = .ok (.land, 1) := by decide +kernel
theorem dX11_isLocking_5 : decode cX11_isLocking 5 = .ok (.lstore_n 3, 1) := by decide +kernel
theorem dX11_isLocking_6 : decode cX11_isLocking 6 = .ok (.lload_n 0, 1) := by decide +kernel
theorem dX11_isLocking_7 : decode cX11_isLocking 7 = .ok (.ldc2_w 623, 3) := by decide +kernel
theorem dX11_isLocking_10 : decode cX11_isLocking 10 = .ok (.land, 1) := by decide +kernel
theorem dX11_isLocking_11 : decode cX11_isLocking 11 = .ok (.lconst 0, 1) := by decide +kernel
theorem dX11_isLocking_12 : decode cX11_isLocking 12 = .ok (.lcmp, 1) := by decide +kernel
theorem dX11_isLocking_13 : decode cX11_isLocking 13 = .ok (.ifCond .eq 7, 3) := by decide +kernel
theorem dX11_isLocking_16 : decode cX11_isLocking 16 = .ok (.iconst 1, 1) := by decide +kernel
theorem dX11_isLocking_17 : decode cX11_isLocking 17 = .ok (.goto 4, 3) := by decide +kernel
theorem dX11_isLocking_20 : decode cX11_isLocking 20 = .ok (.iconst 0, 1) := by decide +kernel
theorem dX11_isLocking_21 : decode cX11_isLocking 21 = .ok (.istore 5, 2) := by decide +kernel
theorem dX11_isLocking_23 : decode cX11_isLocking 23 = .ok (.lload_n 3, 1) := by decide +kernel
theorem dX11_isLocking_24 : decode cX11_isLocking 24 = .ok (.lconst 1, 1) := by decide +kernel
theorem dX11_isLocking_25 : decode cX11_isLocking 25 = .ok (.lcmp, 1) := by decide +kernel
theorem dX11_isLocking_26 : decode cX11_isLocking 26 = .ok (.ifCond .eq 11, 3) := by decide +kernel
theorem dX11_isLocking_29 : decode cX11_isLocking 29 = .ok (.lload_n 3, 1) := by decide +kernel
theorem dX11_isLocking_30 : decode cX11_isLocking 30 = .ok (.ldc2_w 494, 3) := by decide +kernel
theorem dX11_isLocking_33 : decode cX11_isLocking 33 = .ok (.lcmp, 1) := by decide +kernel
theorem dX11_isLocking_34 : decode cX11_isLocking 34 = .ok (.ifCond .ne 17, 3) := by decide +kernel
theorem dX11_isLocking_37 : decode cX11_isLocking 37 = .ok (.iload 5, 2) := by decide +kernel
theorem dX11_isLocking_39 : decode cX11_isLocking 39 = .ok (.ifCond .ne 8, 3) := by decide +kernel
theorem dX11_isLocking_42 : decode cX11_isLocking 42 = .ok (.iload_n 2, 1) := by decide +kernel
theorem dX11_isLocking_43 : decode cX11_isLocking 43 = .ok (.iconst 1, 1) := by decide +kernel
theorem dX11_isLocking_44 : decode cX11_isLocking 44 = .ok (.if_icmp .ne 7, 3) := by decide +kernel
theorem dX11_isLocking_47 : decode cX11_isLocking 47 = .ok (.iconst 1, 1) := by decide +kernel
theorem dX11_isLocking_48 : decode cX11_isLocking 48 = .ok (.goto 4, 3) := by decide +kernel
theorem dX11_isLocking_51 : decode cX11_isLocking 51 = .ok (.iconst 0, 1) := by decide +kernel
theorem dX11_isLocking_52 : decode cX11_isLocking 52 = .ok (.ireturn, 1) := by decide +kernel
set_option maxRecDepth 100000 in
set_option maxHeartbeats 4000000 in
theorem c_X11_isLocking (l : Launch) (D : va_G) (t : Nat → ClassId) (G : GE) (κ : CS) (a0 : Int64) (a2 : Int32) (post : Int32 → CS → Prop) (hw : F_X11_isLocking G a0 a2 post κ) (sz : Nat) : CMi l D t yX11_isLocking cX11_isLocking 6 (some .boolean) 0 14 G κ sz [.long a0, .int a2] post := by
  refine c_go (by decide) (Nat.le_of_ble_eq_true rfl) ?_
  intro p e s m below meth c ls A hF hr hlk hin hAe hH hA hE hl
  unfold cB
  rw [hAe]
  clear hAe
  have hF : FX p m c cX11_isLocking 6 s _ RX11 D t := hF
  have hx := hF.1.1
  have hb := hF.1.2.1
  have hl : lv_has ls 6 [(0, .long a0), (2, .int a2)] := hl
  unfold F_X11_isLocking at hw
  refine lv_lload_n hx hb dX11_isLocking_0 rfl (lv_at hl 0 rfl) ?_
  refine lv_ldc2 (v := (-17)) hx hb hF.1.2.2.2.1 (hF.1.2.2.2.2 _ (wc_32 15 rfl)) dX11_isLocking_1 ?_
  refine lv_land hx hb dX11_isLocking_4 ?_
  refine w_nml hw (fun z1 hw => ?_)
  refine lv_lstore_n (lv' := [(3, .long z1), (0, .long a0), (2, .int a2)]) hx hb dX11_isLocking_5 rfl hl (by decide) rfl (fun ls hl => ?_)
  refine lv_lload_n hx hb dX11_isLocking_6 rfl (lv_at hl 1 rfl) ?_
  refine lv_ldc2 (v := 16) hx hb hF.1.2.2.2.1 (hF.1.2.2.2.2 _ (wc_31 14 rfl)) dX11_isLocking_7 ?_
  refine lv_land hx hb dX11_isLocking_10 ?_
  refine w_nml hw (fun z2 hw => ?_)
  refine lv_lconst (v := 0) hx hb dX11_isLocking_11 (by decide) ?_
  obtain ⟨K5, hK6, hw⟩ := jc_open hw
  refine cw_join (K := K5) 21 (fun (x3 : Int32) => [(3, .long z1), (2, .int a2)]) (fun (x3 : Int32) => [.int x3]) hl hH (fun x3 κ4 ls H locs cells slots hl hw hH => ?_) (fun jn7 => ?_)
  · have hw := hK6 x3 κ4 hw
    have hl : lv_has ls 6 [(3, .long z1), (2, .int a2)] := hl
    refine lv_istore (lv' := [(5, .int x3), (3, .long z1), (2, .int a2)]) hx hb dX11_isLocking_21 hl (by decide) rfl (fun ls hl => ?_)
    refine lv_lload_n hx hb dX11_isLocking_23 rfl (lv_at hl 1 rfl) ?_
    refine lv_lconst (v := 1) hx hb dX11_isLocking_24 (by decide) ?_
    obtain ⟨K10, hK11, hw⟩ := jc_open hw
    refine cw_join (K := K10) 52 (fun (x8 : Int32) => []) (fun (x8 : Int32) => [.int x8]) hl hH (fun x8 κ9 ls H locs cells slots hl hw hH => ?_) (fun jn12 => ?_)
    · have hw := hK11 x8 κ9 hw
      have hl : lv_has ls 6 [] := hl
      exact cw_retz hF hH ⟨rfl, rfl⟩ hr hlk dX11_isLocking_52 hw
    · skip
      obtain ⟨K15, hK16, hw⟩ := jc_open hw
      refine cw_join (K := K15) 51 (fun (x13 : Unit) => []) (fun (x13 : Unit) => []) hl hH (fun x13 κ14 ls H locs cells slots hl hw hH => ?_) (fun jn17 => ?_)
      · have hw := hK16 x13 κ14 hw
        have hl : lv_has ls 6 [] := hl
        refine lv_iconst (v := 0) hx hb dX11_isLocking_51 (by decide) ?_
        exact jn12 0 κ14 ls _ _ _ _ hl hw hH
      · skip
        obtain ⟨K20, hK21, hw⟩ := jc_open hw
        refine cw_join (K := K20) 37 (fun (x18 : Unit) => [(5, .int x3), (2, .int a2)]) (fun (x18 : Unit) => []) hl hH (fun x18 κ19 ls H locs cells slots hl hw hH => ?_) (fun jn22 => ?_)
        · have hw := hK21 x18 κ19 hw
          have hl : lv_has ls 6 [(5, .int x3), (2, .int a2)] := hl
          refine lv_iload hx hb dX11_isLocking_37 (lv_at hl 0 rfl) ?_
          obtain ⟨K25, hK26, hw⟩ := jc_open hw
          refine cw_join (K := K25) 47 (fun (x23 : Unit) => []) (fun (x23 : Unit) => []) hl hH (fun x23 κ24 ls H locs cells slots hl hw hH => ?_) (fun jn27 => ?_)
          · have hw := hK26 x23 κ24 hw
            have hl : lv_has ls 6 [] := hl
            refine lv_iconst (v := 1) hx hb dX11_isLocking_47 (by decide) ?_
            refine lv_goto (tgt := 52) hx hb dX11_isLocking_48 rfl ?_
            exact jn12 1 κ24 ls _ _ _ _ hl hw hH
          · skip
            refine w_if_ne (tgt := 47) hF dX11_isLocking_39 rfl hw (fun hw => ?_) (fun hw => ?_)
            · have hl : lv_has ls 6 [] := lv_sub hl [] rfl
              exact jn27 () κ19 ls _ _ _ _ hl hw hH
            · refine lv_iload_n hx hb dX11_isLocking_42 rfl (lv_at hl 1 rfl) ?_
              refine lv_iconst (v := 1) hx hb dX11_isLocking_43 (by decide) ?_
              refine w_icmp_ne (tgt := 51) hF dX11_isLocking_44 rfl hw (fun hw => ?_) (fun hw => ?_)
              · have hl : lv_has ls 6 [] := lv_sub hl [] rfl
                exact jn17 () κ19 ls _ _ _ _ hl hw hH
              · have hl : lv_has ls 6 [] := lv_sub hl [] rfl
                exact jn27 () κ19 ls _ _ _ _ hl hw hH
        · skip
          refine w_lif_eq (tgt := 37) hF dX11_isLocking_25 dX11_isLocking_26 rfl hw (fun hw => ?_) (fun hw => ?_)
          · have hl : lv_has ls 6 [(5, .int x3), (2, .int a2)] := lv_sub hl [0, 2] rfl
            exact jn22 () κ4 ls _ _ _ _ hl hw hH
          · refine lv_lload_n hx hb dX11_isLocking_29 rfl (lv_at hl 1 rfl) ?_
            refine lv_ldc2 (v := 2) hx hb hF.1.2.2.2.1 (hF.1.2.2.2.2 _ (wc_31 10 rfl)) dX11_isLocking_30 ?_
            refine w_lif_ne (tgt := 51) hF dX11_isLocking_33 dX11_isLocking_34 rfl hw (fun hw => ?_) (fun hw => ?_)
            · have hl : lv_has ls 6 [] := lv_sub hl [] rfl
              exact jn17 () κ4 ls _ _ _ _ hl hw hH
            · have hl : lv_has ls 6 [(5, .int x3), (2, .int a2)] := lv_sub hl [0, 2] rfl
              exact jn22 () κ4 ls _ _ _ _ hl hw hH
  · skip
    refine w_lif_eq (tgt := 20) hF dX11_isLocking_12 dX11_isLocking_13 rfl hw (fun hw => ?_) (fun hw => ?_)
    · refine lv_iconst (v := 0) hx hb dX11_isLocking_20 (by decide) ?_
      have hl : lv_has ls 6 [(3, .long z1), (2, .int a2)] := lv_sub hl [0, 2] rfl
      exact jn7 0 κ ls _ _ _ _ hl hw hH
    · refine lv_iconst (v := 1) hx hb dX11_isLocking_16 (by decide) ?_
      refine lv_goto (tgt := 21) hx hb dX11_isLocking_17 rfl ?_
      have hl : lv_has ls 6 [(3, .long z1), (2, .int a2)] := lv_sub hl [0, 2] rfl
      exact jn7 1 κ ls _ _ _ _ hl hw hH
set_option maxRecDepth 100000 in
def F_X11_isTooFar (G : GE) (a0 : Int64) (a2 : Int64) (post : Int32 → CS → Prop) (κ : CS) : Prop := ∀ z1 : Int64, z1 = a0 + a2 → jc (fun (K4 : Int32 → CS → Prop) => jc (fun (K9 : Unit → CS → Prop) => ((z1.toInt = (0 : Int64).toInt) → K9 () κ) ∧ ((¬ z1.toInt = (0 : Int64).toInt) → F_X11_below G z1 a0 (fun (z13 : Int32) (κ12 : CS) => ((z13.toInt = 0) → K9 () κ12) ∧ ((¬ z13.toInt = 0) → K4 1 κ12)) κ)) (fun (x7 : Unit) (κ8 : CS) => K4 0 κ8)) (fun (x2 : Int32) (κ3 : CS) => (0 ≤ x2.toInt ∧ x2.toInt ≤ 1) ∧ post x2 κ3)
theorem dX11_isTooFar_0 : decode cX11_isTooFar 0 = .ok (.lload_n 0, 1) := by decide +kernel
theorem dX11_isTooFar_1 : decode cX11_isTooFar 1 = .ok (.lload_n 2, 1) := by decide +kernel
theorem dX11_isTooFar_2 : decode cX11_isTooFar 2 = .ok (.ladd, 1) := by decide +kernel
theorem dX11_isTooFar_3 : decode cX11_isTooFar 3 = .ok (.lstore 4, 2) := by decide +kernel
theorem dX11_isTooFar_5 : decode cX11_isTooFar 5 = .ok (.lload 4, 2) := by decide +kernel
theorem dX11_isTooFar_7 : decode cX11_isTooFar 7 = .ok (.lconst 0, 1) := by decide +kernel
theorem dX11_isTooFar_8 : decode cX11_isTooFar 8 = .ok (.lcmp, 1) := by decide +kernel
theorem dX11_isTooFar_9 : decode cX11_isTooFar 9 = .ok (.ifCond .eq 16, 3) := by decide +kernel
theorem dX11_isTooFar_12 : decode cX11_isTooFar 12 = .ok (.lload 4, 2) := by decide +kernel
theorem dX11_isTooFar_14 : decode cX11_isTooFar 14 = .ok (.lload_n 0, 1) := by decide +kernel
theorem dX11_isTooFar_15 : decode cX11_isTooFar 15 = .ok (.invokestatic 790, 3) := by decide +kernel
theorem dX11_isTooFar_18 : decode cX11_isTooFar 18 = .ok (.ifCond .eq 7, 3) := by decide +kernel
theorem dX11_isTooFar_21 : decode cX11_isTooFar 21 = .ok (.iconst 1, 1) := by decide +kernel
theorem dX11_isTooFar_22 : decode cX11_isTooFar 22 = .ok (.goto 4, 3) := by decide +kernel
theorem dX11_isTooFar_25 : decode cX11_isTooFar 25 = .ok (.iconst 0, 1) := by decide +kernel
theorem dX11_isTooFar_26 : decode cX11_isTooFar 26 = .ok (.ireturn, 1) := by decide +kernel
set_option maxRecDepth 100000 in
set_option maxHeartbeats 4000000 in
theorem c_X11_isTooFar (l : Launch) (D : va_G) (t : Nat → ClassId) (G : GE) (κ : CS) (a0 : Int64) (a2 : Int64) (post : Int32 → CS → Prop) (hw : F_X11_isTooFar G a0 a2 post κ) (sz : Nat) : CMi l D t yX11_isTooFar cX11_isTooFar 6 (some .boolean) 1 37 G κ sz [.long a0, .long a2] post := by
  refine c_go (by decide) (Nat.le_of_ble_eq_true rfl) ?_
  intro p e s m below meth c ls A hF hr hlk hin hAe hH hA hE hl
  unfold cB
  rw [hAe]
  clear hAe
  have hF : FX p m c cX11_isTooFar 6 s _ RX11 D t := hF
  have hx := hF.1.1
  have hb := hF.1.2.1
  have hl : lv_has ls 6 [(0, .long a0), (2, .long a2)] := hl
  unfold F_X11_isTooFar at hw
  refine lv_lload_n hx hb dX11_isTooFar_0 rfl (lv_at hl 0 rfl) ?_
  refine lv_lload_n hx hb dX11_isTooFar_1 rfl (lv_at hl 1 rfl) ?_
  refine lv_ladd hx hb dX11_isTooFar_2 ?_
  refine w_nml hw (fun z1 hw => ?_)
  refine lv_lstore (lv' := [(4, .long z1), (0, .long a0), (2, .long a2)]) hx hb dX11_isTooFar_3 hl (by decide) rfl (fun ls hl => ?_)
  refine lv_lload hx hb dX11_isTooFar_5 (lv_at hl 0 rfl) ?_
  refine lv_lconst (v := 0) hx hb dX11_isTooFar_7 (by decide) ?_
  obtain ⟨K4, hK5, hw⟩ := jc_open hw
  refine cw_join (K := K4) 26 (fun (x2 : Int32) => []) (fun (x2 : Int32) => [.int x2]) hl hH (fun x2 κ3 ls H locs cells slots hl hw hH => ?_) (fun jn6 => ?_)
  · have hw := hK5 x2 κ3 hw
    have hl : lv_has ls 6 [] := hl
    exact cw_retz hF hH ⟨rfl, rfl⟩ hr hlk dX11_isTooFar_26 hw
  · skip
    obtain ⟨K9, hK10, hw⟩ := jc_open hw
    refine cw_join (K := K9) 25 (fun (x7 : Unit) => []) (fun (x7 : Unit) => []) hl hH (fun x7 κ8 ls H locs cells slots hl hw hH => ?_) (fun jn11 => ?_)
    · have hw := hK10 x7 κ8 hw
      have hl : lv_has ls 6 [] := hl
      refine lv_iconst (v := 0) hx hb dX11_isTooFar_25 (by decide) ?_
      exact jn6 0 κ8 ls _ _ _ _ hl hw hH
    · skip
      refine w_lif_eq (tgt := 25) hF dX11_isTooFar_8 dX11_isTooFar_9 rfl hw (fun hw => ?_) (fun hw => ?_)
      · have hl : lv_has ls 6 [] := lv_sub hl [] rfl
        exact jn11 () κ ls _ _ _ _ hl hw hH
      · refine lv_lload hx hb dX11_isTooFar_12 (lv_at hl 0 rfl) ?_
        refine lv_lload_n hx hb dX11_isTooFar_14 rfl (lv_at hl 1 rfl) ?_
        refine cw_cSi (As := [.long z1, .long a0]) (rest := []) hF hH hA hE ms_X11_790 (fun sz => c_X11_below l D t G _ z1 a0 _ hw sz) dX11_isTooFar_15 ⟨Nat.le_of_ble_eq_true rfl, Nat.le_of_ble_eq_true rfl⟩ rfl hl.1 (Nat.le_of_ble_eq_true rfl) rfl (fun z13 κ12 H locs cells slots hw hH => ?_)
        refine w_if_eq (tgt := 25) hF dX11_isTooFar_18 rfl hw (fun hw => ?_) (fun hw => ?_)
        · have hl : lv_has ls 6 [] := lv_sub hl [] rfl
          exact jn11 () κ12 ls _ _ _ _ hl hw hH
        · refine lv_iconst (v := 1) hx hb dX11_isTooFar_21 (by decide) ?_
          refine lv_goto (tgt := 26) hx hb dX11_isTooFar_22 rfl ?_
          have hl : lv_has ls 6 [] := lv_sub hl [] rfl
          exact jn6 1 κ12 ls _ _ _ _ hl hw hH
set_option maxRecDepth 100000 in
def F_X11_eldestLock (G : GE) (h : Nat) (a1 : Option Nat) (a2 : Int64) (a4 : Int64) (post : Int32 → CS → Prop) (κ : CS) : Prop := lc (fun (K3 : Int32 → CS → Prop) (x1 : Int32) (κ2 : CS) => (h ∈ sL κ2.1 ∧ sK κ2.1 h = 1) ∧ ∀ z5 : Option Nat, z5 = sP κ2.1 h 11 → ∃ b : Nat, z5 = some b ∧ (b ∈ sL κ2.1 ∧ sK κ2.1 b = 7) ∧ F_Jx4a65c_size_8abf5 G b  (fun (z7 : Int32) (κ6 : CS) => ((z7.toInt ≤ x1.toInt) → post (-1) κ6) ∧ ((x1.toInt < z7.toInt) → (h ∈ sL κ6.1 ∧ sK κ6.1 h = 1) ∧ ∀ z8 : Option Nat, z8 = sP κ6.1 h 11 → ∃ b : Nat, z8 = some b ∧ (b ∈ sL κ6.1 ∧ sK κ6.1 b = 7) ∧ F_Jx4a65c_get_915e3 G b x1 (fun (z10 : Option Nat) (κ9 : CS) => (z10 = none ∨ ∃ b : Nat, z10 = some b ∧ b ∈ sL κ9.1 ∧ sK κ9.1 b = 9) ∧ ∃ b : Nat, z10 = some b ∧ (b ∈ sL κ9.1 ∧ sK κ9.1 b = 9) ∧ ∀ z11 : Option Nat, z11 = sP κ9.1 b 0 → jc (fun (K14 : Unit → CS → Prop) => ((¬ z11 = a1) → K14 () κ9) ∧ ((z11 = a1) → ∃ b : Nat, z10 = some b ∧ (b ∈ sL κ9.1 ∧ sK κ9.1 b = 9) ∧ ∀ z18 : Int64, z18 = sJ κ9.1 b 1 → ((¬ z18.toInt = a2.toInt) → K14 () κ9) ∧ ((z18.toInt = a2.toInt) → ∃ b : Nat, z10 = some b ∧ (b ∈ sL κ9.1 ∧ sK κ9.1 b = 9) ∧ ∀ z19 : Int64, z19 = sJ κ9.1 b 2 → ((¬ z19.toInt = a4.toInt) → K14 () κ9) ∧ ((z19.toInt = a4.toInt) → post x1 κ9)))) (fun (x12 : Unit) (κ13 : CS) => ∀ z17 : Int32, z17 = x1 + 1 → K3 z17 κ13)) κ6)) κ2) 0 κ
theorem dX11_eldestLock_0 : decode cX11_eldestLock 0 = .ok (.iconst 0, 1) := by decide +kernel
theorem dX11_eldestLock_1 : decode cX11_eldestLock 1 = .ok (.istore 6, 2) := by decide +kernel
theorem dX11_eldestLock_3 : decode cX11_eldestLock 3 = .ok (.iload 6, 2) := by decide +kernel
theorem dX11_eldestLock_5 : decode cX11_eldestLock 5 = .ok (.aload_n 0, 1) := by decide +kernel
theorem dX11_eldestLock_6 : decode cX11_eldestLock 6 = .ok (.getfield 55, 3) := by decide +kernel
theorem dX11_eldestLock_9 : decode cX11_eldestLock 9 = .ok (.invokevirtual 161, 3) := by decide +kernel
theorem dX11_eldestLock_12 : decode cX11_eldestLock 12 = .ok (.if_icmp .ge 56, 3) := by decide +kernel
theorem dX11_eldestLock_15 : decode cX11_eldestLock 15 = .ok (.aload_n 0, 1) := by decide +kernel
theorem dX11_eldestLock_16 : decode cX11_eldestLock 16 = .ok (.getfield 55, 3) := by decide +kernel
theorem dX11_eldestLock_19 : decode cX11_eldestLock 19 = .ok (.iload 6, 2) := by decide +kernel
theorem dX11_eldestLock_21 : decode cX11_eldestLock 21 = .ok (.invokevirtual 164, 3) := by decide +kernel
theorem dX11_eldestLock_24 : decode cX11_eldestLock 24 = .ok (.checkcast 561, 3) := by decide +kernel
theorem dX11_eldestLock_27 : decode cX11_eldestLock 27 = .ok (.astore 7, 2) := by decide +kernel
theorem dX11_eldestLock_29 : decode cX11_eldestLock 29 = .ok (.aload 7, 2) := by decide +kernel
theorem dX11_eldestLock_31 : decode cX11_eldestLock 31 = .ok (.getfield 563, 3) := by decide +kernel
theorem dX11_eldestLock_34 : decode cX11_eldestLock 34 = .ok (.aload_n 1, 1) := by decide +kernel
theorem dX11_eldestLock_35 : decode cX11_eldestLock 35 = .ok (.if_acmp .ne 27, 3) := by decide +kernel
theorem dX11_eldestLock_38 : decode cX11_eldestLock 38 = .ok (.aload 7, 2) := by decide +kernel
theorem dX11_eldestLock_40 : decode cX11_eldestLock 40 = .ok (.getfield 846, 3) := by decide +kernel
theorem dX11_eldestLock_43 : decode cX11_eldestLock 43 = .ok (.lload_n 2, 1) := by decide +kernel
theorem dX11_eldestLock_44 : decode cX11_eldestLock 44 = .ok (.lcmp, 1) := by decide +kernel
theorem dX11_eldestLock_45 : decode cX11_eldestLock 45 = .ok (.ifCond .ne 17, 3) := by decide +kernel
theorem dX11_eldestLock_48 : decode cX11_eldestLock 48 = .ok (.aload 7, 2) := by decide +kernel
theorem dX11_eldestLock_50 : decode cX11_eldestLock 50 = .ok (.getfield 849, 3) := by decide +kernel
theorem dX11_eldestLock_53 : decode cX11_eldestLock 53 = .ok (.lload 4, 2) := by decide +kernel
theorem dX11_eldestLock_55 : decode cX11_eldestLock 55 = .ok (.lcmp, 1) := by decide +kernel
theorem dX11_eldestLock_56 : decode cX11_eldestLock 56 = .ok (.ifCond .ne 6, 3) := by decide +kernel
theorem dX11_eldestLock_59 : decode cX11_eldestLock 59 = .ok (.iload 6, 2) := by decide +kernel
theorem dX11_eldestLock_61 : decode cX11_eldestLock 61 = .ok (.ireturn, 1) := by decide +kernel
theorem dX11_eldestLock_62 : decode cX11_eldestLock 62 = .ok (.iinc 6 1, 3) := by decide +kernel
theorem dX11_eldestLock_65 : decode cX11_eldestLock 65 = .ok (.goto (-62), 3) := by decide +kernel
theorem dX11_eldestLock_68 : decode cX11_eldestLock 68 = .ok (.iconst (-1), 1) := by decide +kernel
theorem dX11_eldestLock_69 : decode cX11_eldestLock 69 = .ok (.ireturn, 1) := by decide +kernel
set_option maxRecDepth 100000 in
set_option maxHeartbeats 4000000 in
theorem c_X11_eldestLock (l : Launch) (D : va_G) (t : Nat → ClassId) (G : GE) (κ : CS) (h : Nat) (a1 : Option Nat) (a2 : Int64) (a4 : Int64) (post : Int32 → CS → Prop) (hw : F_X11_eldestLock G h a1 a2 a4 post κ) (sz : Nat) : CMi l D t yX11_eldestLock cX11_eldestLock 8 (some .int) 3 78 G κ sz [.ref h, va_rf a1, .long a2, .long a4] post := by
  refine c_go (by decide) (by cases a1 <;> exact Nat.le_of_ble_eq_true rfl) ?_
  intro p e s m below meth c ls A hF hr hlk hin hAe hH hA hE hl
  unfold cB
  rw [hAe]
  clear hAe
  have hF : FX p m c cX11_eldestLock 8 s _ RX11 D t := hF
  have hx := hF.1.1
  have hb := hF.1.2.1
  have hl : lv_has ls 8 [(0, .ref h), (1, va_rf a1), (2, .long a2), (4, .long a4)] := (by have h2 := hl; clear hw; revert h2; cases a1 <;> exact id)
  unfold F_X11_eldestLock at hw
  refine lv_iconst (v := 0) hx hb dX11_eldestLock_0 (by decide) ?_
  refine lv_istore (lv' := [(6, .int 0), (0, .ref h), (1, va_rf a1), (2, .long a2), (4, .long a4)]) hx hb dX11_eldestLock_1 hl (by decide) rfl (fun ls hl => ?_)
  have hl : lv_has ls 8 [(6, .int 0), (4, .long a4), (2, .long a2), (1, va_rf a1), (0, .ref h)] := lv_sub hl [0, 4, 3, 2, 1] rfl
  refine cw_loop (β := Int32) (fun x1 => [(6, .int x1), (4, .long a4), (2, .long a2), (1, va_rf a1), (0, .ref h)]) 0 hl hw hH (fun K3 x1 κ2 ls H locs cells slots hl hw hH ih4 => ?_)
  have hl : lv_has ls 8 [(6, .int x1), (4, .long a4), (2, .long a2), (1, va_rf a1), (0, .ref h)] := hl
  refine lv_iload hx hb dX11_eldestLock_3 (lv_at hl 0 rfl) ?_
  refine lv_aload_n hx hb dX11_eldestLock_5 rfl (lv_at hl 4 rfl) ?_
  refine cw_getPr (a := h) hF hH fk_X11_55 dX11_eldestLock_6 hw (fun z5 hw => ?_)
  refine cw_cViq (q := z5) (As := []) (rest := [.int x1]) hF hH hA hE mv_X11_161 ci_Jx4a65c (by decide) hw (fun b hw sz => c_Jx4a65c_size_8abf5 l D t G _ b  _ hw sz) dX11_eldestLock_9 ⟨Nat.le_of_ble_eq_true rfl, Nat.le_of_ble_eq_true rfl⟩ rfl hl.1 (Nat.le_of_ble_eq_true rfl) rfl (fun z7 κ6 H locs cells slots hw hH => ?_)
  refine w_icmp_ge (tgt := 68) hF dX11_eldestLock_12 rfl hw (fun hw => ?_) (fun hw => ?_)
  · refine lv_iconst (v := (-1)) hx hb dX11_eldestLock_68 (by decide) ?_
    exact cw_reti hF hH ⟨rfl, rfl⟩ hr rfl hlk dX11_eldestLock_69 hw
  · refine lv_aload_n hx hb dX11_eldestLock_15 rfl (lv_at hl 4 rfl) ?_
    refine cw_getPr (a := h) hF hH fk_X11_55 dX11_eldestLock_16 hw (fun z8 hw => ?_)
    refine lv_iload hx hb dX11_eldestLock_19 (lv_at hl 0 rfl) ?_
    refine cw_cVqq (q := z8) (As := [.int x1]) (rest := []) hF hH hA hE mv_X11_164 ci_Jx4a65c (by decide) hw (fun b hw sz => c_Jx4a65c_get_915e3 l D t G _ b x1 _ hw sz) dX11_eldestLock_21 ⟨Nat.le_of_ble_eq_true rfl, Nat.le_of_ble_eq_true rfl⟩ rfl hl.1 (Nat.le_of_ble_eq_true rfl) rfl (fun z10 κ9 H locs cells slots hw hH => ?_)
    refine cw_cast (q := z10) hF hH ci_X3 (by decide) (wc_17 27 rfl) (by decide) dX11_eldestLock_24 hw (fun hw => ?_)
    refine w_astoreq (lv' := [(7, va_rf z10), (6, .int x1), (4, .long a4), (2, .long a2), (1, va_rf a1), (0, .ref h)]) hF dX11_eldestLock_27 hl (by decide) rfl (fun ls hl => ?_)
    refine w_aloadq hF dX11_eldestLock_29 (lv_at hl 0 rfl) ?_
    refine cw_getP (q := z10) hF hH fk_X11_563 dX11_eldestLock_31 hw (fun z11 hw => ?_)
    refine w_aloadq_n hF dX11_eldestLock_34 rfl (lv_at hl 4 rfl) ?_
    obtain ⟨K14, hK15, hw⟩ := jc_open hw
    refine cw_join (K := K14) 62 (fun (x12 : Unit) => [(6, .int x1), (4, .long a4), (2, .long a2), (1, va_rf a1), (0, .ref h)]) (fun (x12 : Unit) => []) hl hH (fun x12 κ13 ls H locs cells slots hl hw hH => ?_) (fun jn16 => ?_)
    · have hw := hK15 x12 κ13 hw
      have hl : lv_has ls 8 [(6, .int x1), (4, .long a4), (2, .long a2), (1, va_rf a1), (0, .ref h)] := hl
      obtain ⟨z17, ez17⟩ : ∃ z : Int32, z = x1 + 1 := ⟨_, rfl⟩
      have hw := hw z17 ez17
      refine lv_iinc (lv' := [(6, .int z17), (4, .long a4), (2, .long a2), (1, va_rf a1), (0, .ref h)]) (k := 0) (v := z17) hx hb dX11_eldestLock_62 hl rfl ez17.symm (by decide) rfl (fun ls hl => ?_)
      refine lv_goto (tgt := 3) hx hb dX11_eldestLock_65 rfl ?_
      exact ih4 z17 κ13 ls _ _ _ _ hl hw hH
    · skip
      refine cw_acmp_ne (rx := z11) (ry := a1) (tgt := 62) hF dX11_eldestLock_35 rfl hw (fun hw => ?_) (fun hw => ?_)
      · have hl : lv_has ls 8 [(6, .int x1), (4, .long a4), (2, .long a2), (1, va_rf a1), (0, .ref h)] := lv_sub hl [1, 2, 3, 4, 5] rfl
        exact jn16 () κ9 ls _ _ _ _ hl hw hH
      · refine w_aloadq hF dX11_eldestLock_38 (lv_at hl 0 rfl) ?_
        refine cw_getJ (q := z10) hF hH fk_X11_846 dX11_eldestLock_40 hw (fun z18 hw => ?_)
        refine lv_lload_n hx hb dX11_eldestLock_43 rfl (lv_at hl 3 rfl) ?_
        refine w_lif_ne (tgt := 62) hF dX11_eldestLock_44 dX11_eldestLock_45 rfl hw (fun hw => ?_) (fun hw => ?_)
        · have hl : lv_has ls 8 [(6, .int x1), (4, .long a4), (2, .long a2), (1, va_rf a1), (0, .ref h)] := lv_sub hl [1, 2, 3, 4, 5] rfl
          exact jn16 () κ9 ls _ _ _ _ hl hw hH
        · refine w_aloadq hF dX11_eldestLock_48 (lv_at hl 0 rfl) ?_
          refine cw_getJ (q := z10) hF hH fk_X11_849 dX11_eldestLock_50 hw (fun z19 hw => ?_)
          refine lv_lload hx hb dX11_eldestLock_53 (lv_at hl 2 rfl) ?_
          refine w_lif_ne (tgt := 62) hF dX11_eldestLock_55 dX11_eldestLock_56 rfl hw (fun hw => ?_) (fun hw => ?_)
          · have hl : lv_has ls 8 [(6, .int x1), (4, .long a4), (2, .long a2), (1, va_rf a1), (0, .ref h)] := lv_sub hl [1, 2, 3, 4, 5] rfl
            exact jn16 () κ9 ls _ _ _ _ hl hw hH
          · refine lv_iload hx hb dX11_eldestLock_59 (lv_at hl 1 rfl) ?_
            exact cw_reti hF hH ⟨rfl, rfl⟩ hr rfl hlk dX11_eldestLock_61 hw
set_option maxRecDepth 100000 in
def F_X11_unlockEach (G : GE) (h : Nat) (a1 : Option Nat) (a2 : Option Nat) (a3 : Int32) (post : Int32 → CS → Prop) (κ : CS) : Prop := lc (fun (K3 : Int32 → CS → Prop) (x1 : Int32) (κ2 : CS) => ((a3.toInt ≤ x1.toInt) → (h ∈ sL κ2.1 ∧ sK κ2.1 h = 1) ∧ F_X11_plainAnswer G h  (fun (z6 : Int32) (κ5 : CS) => post z6 κ5) κ2) ∧ ((x1.toInt < a3.toInt) → ∀ z7 : Int32, z7 = 24 * x1 → ∀ z8 : Int32, z8 = 88 + z7 → ∃ b : Nat, a1 = some b ∧ (b ∈ sL κ2.1 ∧ sK κ2.1 b = 8) ∧ F_X0_number G b z8 8 (fun (z10 : Int64) (κ9 : CS) => ∀ z11 : Int32, z11 = z8 + 8 → ∃ b : Nat, a1 = some b ∧ (b ∈ sL κ9.1 ∧ sK κ9.1 b = 8) ∧ F_X0_number G b z11 8 (fun (z13 : Int64) (κ12 : CS) => (h ∈ sL κ12.1 ∧ sK κ12.1 h = 1) ∧ F_X11_eldestLock G h a2 z10 z13 (fun (z15 : Int32) (κ14 : CS) => ((¬ z15.toInt = ((-1) : Int32).toInt) → (h ∈ sL κ14.1 ∧ sK κ14.1 h = 1) ∧ ∀ z16 : Option Nat, z16 = sP κ14.1 h 11 → ∃ b : Nat, z16 = some b ∧ (b ∈ sL κ14.1 ∧ sK κ14.1 b = 7) ∧ F_Jx4a65c_remove_915e3 G b z15 (fun (z18 : Option Nat) (κ17 : CS) => ∀ z19 : Int32, z19 = x1 + 1 → K3 z19 κ17) κ14) ∧ ((z15.toInt = ((-1) : Int32).toInt) → post (-1073741698) κ14)) κ12) κ9) κ2)) 0 κ
theorem dX11_unlockEach_0 : decode cX11_unlockEach 0 = .ok (.iconst 0, 1) := by decide +kernel
theorem dX11_unlockEach_1 : decode cX11_unlockEach 1 = .ok (.istore 4, 2) := by decide +kernel
theorem dX11_unlockEach_3 : decode cX11_unlockEach 3 = .ok (.iload 4, 2) := by decide +kernel
theorem dX11_unlockEach_5 : decode cX11_unlockEach 5 = .ok (.iload_n 3, 1) := by decide +kernel
theorem dX11_unlockEach_6 : decode cX11_unlockEach 6 = .ok (.if_icmp .ge 65, 3) := by decide +kernel
theorem dX11_unlockEach_9 : decode cX11_unlockEach 9 = .ok (.bipush 88, 2) := by decide +kernel
theorem dX11_unlockEach_11 : decode cX11_unlockEach 11 = .ok (.bipush 24, 2) := by decide +kernel
theorem dX11_unlockEach_13 : decode cX11_unlockEach 13 = .ok (.iload 4, 2) := by decide +kernel
theorem dX11_unlockEach_15 : decode cX11_unlockEach 15 = .ok (.imul, 1) := by decide +kernel
theorem dX11_unlockEach_16 : decode cX11_unlockEach 16 = .ok (.iadd, 1) := by decide +kernel
theorem dX11_unlockEach_17 : decode cX11_unlockEach 17 = .ok (.istore 5, 2) := by decide +kernel
theorem dX11_unlockEach_19 : decode cX11_unlockEach 19 = .ok (.aload_n 0, 1) := by decide +kernel
theorem dX11_unlockEach_20 : decode cX11_unlockEach 20 = .ok (.aload_n 2, 1) := by decide +kernel
theorem dX11_unlockEach_21 : decode cX11_unlockEach 21 = .ok (.aload_n 1, 1) := by decide +kernel
theorem dX11_unlockEach_22 : decode cX11_unlockEach 22 = .ok (.iload 5, 2) := by decide +kernel
theorem dX11_unlockEach_24 : decode cX11_unlockEach 24 = .ok (.bipush 8, 2) := by decide +kernel
theorem dX11_unlockEach_26 : decode cX11_unlockEach 26 = .ok (.invokevirtual 394, 3) := by decide +kernel
theorem dX11_unlockEach_29 : decode cX11_unlockEach 29 = .ok (.aload_n 1, 1) := by decide +kernel
theorem dX11_unlockEach_30 : decode cX11_unlockEach 30 = .ok (.iload 5, 2) := by decide +kernel
theorem dX11_unlockEach_32 : decode cX11_unlockEach 32 = .ok (.bipush 8, 2) := by decide +kernel
theorem dX11_unlockEach_34 : decode cX11_unlockEach 34 = .ok (.iadd, 1) := by decide +kernel
theorem dX11_unlockEach_35 : decode cX11_unlockEach 35 = .ok (.bipush 8, 2) := by decide +kernel
theorem dX11_unlockEach_37 : decode cX11_unlockEach 37 = .ok (.invokevirtual 394, 3) := by decide +kernel
theorem dX11_unlockEach_40 : decode cX11_unlockEach 40 = .ok (.invokevirtual 841, 3) := by decide +kernel
theorem dX11_unlockEach_43 : decode cX11_unlockEach 43 = .ok (.istore 6, 2) := by decide +kernel
theorem dX11_unlockEach_45 : decode cX11_unlockEach 45 = .ok (.iload 6, 2) := by decide +kernel
theorem dX11_unlockEach_47 : decode cX11_unlockEach 47 = .ok (.iconst (-1), 1) := by decide +kernel
theorem dX11_unlockEach_48 : decode cX11_unlockEach 48 = .ok (.if_icmp .ne 7, 3) := by decide +kernel
theorem dX11_unlockEach_51 : decode cX11_unlockEach 51 = .ok (.ldc_w 845, 3) := by decide +kernel
theorem dX11_unlockEach_54 : decode cX11_unlockEach 54 = .ok (.ireturn, 1) := by decide +kernel
theorem dX11_unlockEach_55 : decode cX11_unlockEach 55 = .ok (.aload_n 0, 1) := by decide +kernel
theorem dX11_unlockEach_56 : decode cX11_unlockEach 56 = .ok (.getfield 55, 3) := by decide +kernel
theorem dX11_unlockEach_59 : decode cX11_unlockEach 59 = .ok (.iload 6, 2) := by decide +kernel
theorem dX11_unlockEach_61 : decode cX11_unlockEach 61 = .ok (.invokevirtual 496, 3) := by decide +kernel
theorem dX11_unlockEach_64 : decode cX11_unlockEach 64 = .ok (.pop, 1) := by decide +kernel
theorem dX11_unlockEach_65 : decode cX11_unlockEach 65 = .ok (.iinc 4 1, 3) := by decide +kernel
theorem dX11_unlockEach_68 : decode cX11_unlockEach 68 = .ok (.goto (-65), 3) := by decide +kernel
theorem dX11_unlockEach_71 : decode cX11_unlockEach 71 = .ok (.aload_n 0, 1) := by decide +kernel
theorem dX11_unlockEach_72 : decode cX11_unlockEach 72 = .ok (.invokevirtual 447, 3) := by decide +kernel
theorem dX11_unlockEach_75 : decode cX11_unlockEach 75 = .ok (.ireturn, 1) := by decide +kernel
set_option maxRecDepth 100000 in
set_option maxHeartbeats 4000000 in
theorem c_X11_unlockEach (l : Launch) (D : va_G) (t : Nat → ClassId) (G : GE) (κ : CS) (h : Nat) (a1 : Option Nat) (a2 : Option Nat) (a3 : Int32) (post : Int32 → CS → Prop) (hw : F_X11_unlockEach G h a1 a2 a3 post κ) (sz : Nat) : CMi l D t yX11_unlockEach cX11_unlockEach 7 (some .int) 4 105 G κ sz [.ref h, va_rf a1, va_rf a2, .int a3] post := by
  refine c_go (by decide) (by cases a1 <;> cases a2 <;> exact Nat.le_of_ble_eq_true rfl) ?_
  intro p e s m below meth c ls A hF hr hlk hin hAe hH hA hE hl
  unfold cB
  rw [hAe]
  clear hAe
  have hF : FX p m c cX11_unlockEach 7 s _ RX11 D t := hF
  have hx := hF.1.1
  have hb := hF.1.2.1
  have hl : lv_has ls 7 [(0, .ref h), (1, va_rf a1), (2, va_rf a2), (3, .int a3)] := (by have h2 := hl; clear hw; revert h2; cases a1 <;> cases a2 <;> exact id)
  unfold F_X11_unlockEach at hw
  refine lv_iconst (v := 0) hx hb dX11_unlockEach_0 (by decide) ?_
  refine lv_istore (lv' := [(4, .int 0), (0, .ref h), (1, va_rf a1), (2, va_rf a2), (3, .int a3)]) hx hb dX11_unlockEach_1 hl (by decide) rfl (fun ls hl => ?_)
  have hl : lv_has ls 7 [(4, .int 0), (3, .int a3), (2, va_rf a2), (1, va_rf a1), (0, .ref h)] := lv_sub hl [0, 4, 3, 2, 1] rfl
  refine cw_loop (β := Int32) (fun x1 => [(4, .int x1), (3, .int a3), (2, va_rf a2), (1, va_rf a1), (0, .ref h)]) 0 hl hw hH (fun K3 x1 κ2 ls H locs cells slots hl hw hH ih4 => ?_)
  have hl : lv_has ls 7 [(4, .int x1), (3, .int a3), (2, va_rf a2), (1, va_rf a1), (0, .ref h)] := hl
  refine lv_iload hx hb dX11_unlockEach_3 (lv_at hl 0 rfl) ?_
  refine lv_iload_n hx hb dX11_unlockEach_5 rfl (lv_at hl 1 rfl) ?_
  refine w_icmp_ge (tgt := 71) hF dX11_unlockEach_6 rfl hw (fun hw => ?_) (fun hw => ?_)
  · refine lv_aload_n hx hb dX11_unlockEach_71 rfl (lv_at hl 4 rfl) ?_
    refine cw_cVi (b := h) (As := []) (rest := []) hF hH hA hE mv_X11_447 ci_X11 (by decide) (fun sz => c_X11_plainAnswer l D t G _ h  _ hw.2 sz) dX11_unlockEach_72 hw.1 ⟨Nat.le_of_ble_eq_true rfl, Nat.le_of_ble_eq_true rfl⟩ rfl hl.1 (Nat.le_of_ble_eq_true rfl) rfl (fun z6 κ5 H locs cells slots hw hH => ?_)
    exact cw_reti hF hH ⟨rfl, rfl⟩ hr rfl hlk dX11_unlockEach_75 hw
  · refine lv_bipush (v := 88) hx hb dX11_unlockEach_9 (by decide) ?_
    refine lv_bipush (v := 24) hx hb dX11_unlockEach_11 (by decide) ?_
    refine lv_iload hx hb dX11_unlockEach_13 (lv_at hl 0 rfl) ?_
    refine lv_imul hx hb dX11_unlockEach_15 ?_
    refine w_nmi hw (fun z7 hw => ?_)
    refine lv_iadd hx hb dX11_unlockEach_16 ?_
    refine w_nmi hw (fun z8 hw => ?_)
    refine lv_istore (lv' := [(5, .int z8), (4, .int x1), (3, .int a3), (2, va_rf a2), (1, va_rf a1), (0, .ref h)]) hx hb dX11_unlockEach_17 hl (by decide) rfl (fun ls hl => ?_)
    refine lv_aload_n hx hb dX11_unlockEach_19 rfl (lv_at hl 5 rfl) ?_
    refine w_aloadq_n hF dX11_unlockEach_20 rfl (lv_at hl 3 rfl) ?_
    refine w_aloadq_n hF dX11_unlockEach_21 rfl (lv_at hl 4 rfl) ?_
    refine lv_iload hx hb dX11_unlockEach_22 (lv_at hl 0 rfl) ?_
    refine lv_bipush (v := 8) hx hb dX11_unlockEach_24 (by decide) ?_
    refine cw_cVlq (q := a1) (As := [.int z8, .int 8]) (rest := [va_rf a2, .ref h]) hF hH hA hE mv_X11_394 ci_X0 (by decide) hw (fun b hw sz => c_X0_number l D t G _ b z8 8 _ hw sz) dX11_unlockEach_26 ⟨Nat.le_of_ble_eq_true rfl, Nat.le_of_ble_eq_true rfl⟩ rfl hl.1 (by simp only [List.map_cons, List.map_nil, cat_rf]; exact Nat.le_of_ble_eq_true rfl) rfl (fun z10 κ9 H locs cells slots hw hH => ?_)
    refine w_aloadq_n hF dX11_unlockEach_29 rfl (lv_at hl 4 rfl) ?_
    refine lv_iload hx hb dX11_unlockEach_30 (lv_at hl 0 rfl) ?_
    refine lv_bipush (v := 8) hx hb dX11_unlockEach_32 (by decide) ?_
    refine lv_iadd hx hb dX11_unlockEach_34 ?_
    refine w_nmi hw (fun z11 hw => ?_)
    refine lv_bipush (v := 8) hx hb dX11_unlockEach_35 (by decide) ?_
    refine cw_cVlq (q := a1) (As := [.int z11, .int 8]) (rest := [.long z10, va_rf a2, .ref h]) hF hH hA hE mv_X11_394 ci_X0 (by decide) hw (fun b hw sz => c_X0_number l D t G _ b z11 8 _ hw sz) dX11_unlockEach_37 ⟨Nat.le_of_ble_eq_true rfl, Nat.le_of_ble_eq_true rfl⟩ rfl hl.1 (by simp only [List.map_cons, List.map_nil, cat_rf]; exact Nat.le_of_ble_eq_true rfl) rfl (fun z13 κ12 H locs cells slots hw hH => ?_)
    refine cw_cVi (b := h) (As := [va_rf a2, .long z10, .long z13]) (rest := []) hF hH hA hE mv_X11_841 ci_X11 (by decide) (fun sz => c_X11_eldestLock l D t G _ h a2 z10 z13 _ hw.2 sz) dX11_unlockEach_40 hw.1 ⟨Nat.le_of_ble_eq_true rfl, Nat.le_of_ble_eq_true rfl⟩ rfl hl.1 (Nat.le_of_ble_eq_true rfl) rfl (fun z15 κ14 H locs cells slots hw hH => ?_)
    refine lv_istore (lv' := [(6, .int z15), (5, .int z8), (4, .int x1), (3, .int a3), (2, va_rf a2), (1, va_rf a1), (0, .ref h)]) hx hb dX11_unlockEach_43 hl (by decide) rfl (fun ls hl => ?_)
    refine lv_iload hx hb dX11_unlockEach_45 (lv_at hl 0 rfl) ?_
    refine lv_iconst (v := (-1)) hx hb dX11_unlockEach_47 (by decide) ?_
    refine w_icmp_ne (tgt := 55) hF dX11_unlockEach_48 rfl hw (fun hw => ?_) (fun hw => ?_)
    · refine lv_aload_n hx hb dX11_unlockEach_55 rfl (lv_at hl 6 rfl) ?_
      refine cw_getPr (a := h) hF hH fk_X11_55 dX11_unlockEach_56 hw (fun z16 hw => ?_)
      refine lv_iload hx hb dX11_unlockEach_59 (lv_at hl 0 rfl) ?_
      refine cw_cVqq (q := z16) (As := [.int z15]) (rest := []) hF hH hA hE mv_X11_496 ci_Jx4a65c (by decide) hw (fun b hw sz => c_Jx4a65c_remove_915e3 l D t G _ b z15 _ hw sz) dX11_unlockEach_61 ⟨Nat.le_of_ble_eq_true rfl, Nat.le_of_ble_eq_true rfl⟩ rfl hl.1 (Nat.le_of_ble_eq_true rfl) rfl (fun z18 κ17 H locs cells slots hw hH => ?_)
      refine lv_pop hx hb dX11_unlockEach_64 (cat_rf _) ?_
      obtain ⟨z19, ez19⟩ : ∃ z : Int32, z = x1 + 1 := ⟨_, rfl⟩
      have hw := hw z19 ez19
      refine lv_iinc (lv' := [(4, .int z19), (6, .int z15), (5, .int z8), (3, .int a3), (2, va_rf a2), (1, va_rf a1), (0, .ref h)]) (k := 2) (v := z19) hx hb dX11_unlockEach_65 hl rfl ez19.symm (by decide) rfl (fun ls hl => ?_)
      refine lv_goto (tgt := 3) hx hb dX11_unlockEach_68 rfl ?_
      have hl : lv_has ls 7 [(4, .int z19), (3, .int a3), (2, va_rf a2), (1, va_rf a1), (0, .ref h)] := lv_sub hl [0, 3, 4, 5, 6] rfl
      exact ih4 z19 κ17 ls _ _ _ _ hl hw hH
    · refine lv_ldcw (v := (-1073741698)) hx hb hF.1.2.2.2.1 (hF.1.2.2.2.2 _ (wc_32 19 rfl)) dX11_unlockEach_51 ?_
      exact cw_reti hF hH ⟨rfl, rfl⟩ hr rfl hlk dX11_unlockEach_54 hw
set_option maxRecDepth 100000 in
def F_X11_undoLocks (G : GE) (h : Nat) (a1 : Int32) (post : CS → Prop) (κ : CS) : Prop := (h ∈ sL κ.1 ∧ sK κ.1 h = 1) ∧ ∀ z1 : Option Nat, z1 = sP κ.1 h 11 → ∃ b : Nat, z1 = some b ∧ (b ∈ sL κ.1 ∧ sK κ.1 b = 7) ∧ F_Jx4a65c_size_8abf5 G b  (fun (z3 : Int32) (κ2 : CS) => ∀ z4 : Int32, z4 = z3 - 1 → lc (fun (K7 : Int32 → CS → Prop) (x5 : Int32) (κ6 : CS) => jc (fun (K11 : Unit → CS → Prop) => ((x5.toInt < a1.toInt) → K11 () κ6) ∧ ((a1.toInt ≤ x5.toInt) → ((x5.toInt < 0) → K11 () κ6) ∧ ((0 ≤ x5.toInt) → (h ∈ sL κ6.1 ∧ sK κ6.1 h = 1) ∧ ∀ z14 : Option Nat, z14 = sP κ6.1 h 11 → ∃ b : Nat, z14 = some b ∧ (b ∈ sL κ6.1 ∧ sK κ6.1 b = 7) ∧ F_Jx4a65c_remove_915e3 G b x5 (fun (z16 : Option Nat) (κ15 : CS) => ∀ z17 : Int32, z17 = x5 + (-1) → K7 z17 κ15) κ6))) (fun (x9 : Unit) (κ10 : CS) => post κ10)) z4 κ2) κ
theorem dX11_undoLocks_0 : decode cX11_undoLocks 0 = .ok (.aload_n 0, 1) := by decide +kernel
theorem dX11_undoLocks_1 : decode cX11_undoLocks 1 = .ok (.getfield 55, 3) := by decide +kernel
theorem dX11_undoLocks_4 : decode cX11_undoLocks 4 = .ok (.invokevirtual 161, 3) := by decide +kernel
theorem dX11_undoLocks_7 : decode cX11_undoLocks 7 = .ok (.iconst 1, 1) := by decide +kernel
theorem dX11_undoLocks_8 : decode cX11_undoLocks 8 = .ok (.isub, 1) := by decide +kernel
theorem dX11_undoLocks_9 : decode cX11_undoLocks 9 = .ok (.istore_n 2, 1) := by decide +kernel
theorem dX11_undoLocks_10 : decode cX11_undoLocks 10 = .ok (.iload_n 2, 1) := by decide +kernel
theorem dX11_undoLocks_11 : decode cX11_undoLocks 11 = .ok (.iload_n 1, 1) := by decide +kernel
theorem dX11_undoLocks_12 : decode cX11_undoLocks 12 = .ok (.if_icmp .lt 22, 3) := by decide +kernel
theorem dX11_undoLocks_15 : decode cX11_undoLocks 15 = .ok (.iload_n 2, 1) := by decide +kernel
theorem dX11_undoLocks_16 : decode cX11_undoLocks 16 = .ok (.ifCond .lt 18, 3) := by decide +kernel
theorem dX11_undoLocks_19 : decode cX11_undoLocks 19 = .ok (.aload_n 0, 1) := by decide +kernel
theorem dX11_undoLocks_20 : decode cX11_undoLocks 20 = .ok (.getfield 55, 3) := by decide +kernel
theorem dX11_undoLocks_23 : decode cX11_undoLocks 23 = .ok (.iload_n 2, 1) := by decide +kernel
theorem dX11_undoLocks_24 : decode cX11_undoLocks 24 = .ok (.invokevirtual 496, 3) := by decide +kernel
theorem dX11_undoLocks_27 : decode cX11_undoLocks 27 = .ok (.pop, 1) := by decide +kernel
theorem dX11_undoLocks_28 : decode cX11_undoLocks 28 = .ok (.iinc 2 (-1), 3) := by decide +kernel
theorem dX11_undoLocks_31 : decode cX11_undoLocks 31 = .ok (.goto (-21), 3) := by decide +kernel
theorem dX11_undoLocks_34 : decode cX11_undoLocks 34 = .ok (.return_, 1) := by decide +kernel
set_option maxRecDepth 100000 in
set_option maxHeartbeats 4000000 in
theorem c_X11_undoLocks (l : Launch) (D : va_G) (t : Nat → ClassId) (G : GE) (κ : CS) (h : Nat) (a1 : Int32) (post : CS → Prop) (hw : F_X11_undoLocks G h a1 post κ) (sz : Nat) : CMv l D t yX11_undoLocks cX11_undoLocks 3 3 86 G κ sz [.ref h, .int a1] post := by
  refine c_go (by decide) (Nat.le_of_ble_eq_true rfl) ?_
  intro p e s m below meth c ls A hF hr hlk hin hAe hH hA hE hl
  unfold cB
  rw [hAe]
  clear hAe
  have hF : FX p m c cX11_undoLocks 3 s _ RX11 D t := hF
  have hx := hF.1.1
  have hb := hF.1.2.1
  have hl : lv_has ls 3 [(0, .ref h), (1, .int a1)] := hl
  unfold F_X11_undoLocks at hw
  refine lv_aload_n hx hb dX11_undoLocks_0 rfl (lv_at hl 0 rfl) ?_
  refine cw_getPr (a := h) hF hH fk_X11_55 dX11_undoLocks_1 hw (fun z1 hw => ?_)
  refine cw_cViq (q := z1) (As := []) (rest := []) hF hH hA hE mv_X11_161 ci_Jx4a65c (by decide) hw (fun b hw sz => c_Jx4a65c_size_8abf5 l D t G _ b  _ hw sz) dX11_undoLocks_4 ⟨Nat.le_of_ble_eq_true rfl, Nat.le_of_ble_eq_true rfl⟩ rfl hl.1 (Nat.le_of_ble_eq_true rfl) rfl (fun z3 κ2 H locs cells slots hw hH => ?_)
  refine lv_iconst (v := 1) hx hb dX11_undoLocks_7 (by decide) ?_
  refine lv_isub hx hb dX11_undoLocks_8 ?_
  refine w_nmi hw (fun z4 hw => ?_)
  refine lv_istore_n (lv' := [(2, .int z4), (0, .ref h), (1, .int a1)]) hx hb dX11_undoLocks_9 rfl hl (by decide) rfl (fun ls hl => ?_)
  have hl : lv_has ls 3 [(2, .int z4), (1, .int a1), (0, .ref h)] := lv_sub hl [0, 2, 1] rfl
  refine cw_loop (β := Int32) (fun x5 => [(2, .int x5), (1, .int a1), (0, .ref h)]) z4 hl hw hH (fun K7 x5 κ6 ls H locs cells slots hl hw hH ih8 => ?_)
  have hl : lv_has ls 3 [(2, .int x5), (1, .int a1), (0, .ref h)] := hl
  refine lv_iload_n hx hb dX11_undoLocks_10 rfl (lv_at hl 0 rfl) ?_
  refine lv_iload_n hx hb dX11_undoLocks_11 rfl (lv_at hl 1 rfl) ?_
  obtain ⟨K11, hK12, hw⟩ := jc_open hw
  refine cw_join (K := K11) 34 (fun (x9 : Unit) => []) (fun (x9 : Unit) => []) hl hH (fun x9 κ10 ls H locs cells slots hl hw hH => ?_) (fun jn13 => ?_)
  · have hw := hK12 x9 κ10 hw
    have hl : lv_has ls 3 [] := hl
    exact cw_retv hF hH ⟨rfl, rfl⟩ hr hlk dX11_undoLocks_34 hw
  · skip
    refine w_icmp_lt (tgt := 34) hF dX11_undoLocks_12 rfl hw (fun hw => ?_) (fun hw => ?_)
    · have hl : lv_has ls 3 [] := lv_sub hl [] rfl
      exact jn13 () κ6 ls _ _ _ _ hl hw hH
    · refine lv_iload_n hx hb dX11_undoLocks_15 rfl (lv_at hl 0 rfl) ?_
      refine w_if_lt (tgt := 34) hF dX11_undoLocks_16 rfl hw (fun hw => ?_) (fun hw => ?_)
      · have hl : lv_has ls 3 [] := lv_sub hl [] rfl
        exact jn13 () κ6 ls _ _ _ _ hl hw hH
      · refine lv_aload_n hx hb dX11_undoLocks_19 rfl (lv_at hl 2 rfl) ?_
        refine cw_getPr (a := h) hF hH fk_X11_55 dX11_undoLocks_20 hw (fun z14 hw => ?_)
        refine lv_iload_n hx hb dX11_undoLocks_23 rfl (lv_at hl 0 rfl) ?_
        refine cw_cVqq (q := z14) (As := [.int x5]) (rest := []) hF hH hA hE mv_X11_496 ci_Jx4a65c (by decide) hw (fun b hw sz => c_Jx4a65c_remove_915e3 l D t G _ b x5 _ hw sz) dX11_undoLocks_24 ⟨Nat.le_of_ble_eq_true rfl, Nat.le_of_ble_eq_true rfl⟩ rfl hl.1 (Nat.le_of_ble_eq_true rfl) rfl (fun z16 κ15 H locs cells slots hw hH => ?_)
        refine lv_pop hx hb dX11_undoLocks_27 (cat_rf _) ?_
        obtain ⟨z17, ez17⟩ : ∃ z : Int32, z = x5 + (-1) := ⟨_, rfl⟩
        have hw := hw z17 ez17
        refine lv_iinc (lv' := [(2, .int z17), (1, .int a1), (0, .ref h)]) (k := 0) (v := z17) hx hb dX11_undoLocks_28 hl rfl ez17.symm (by decide) rfl (fun ls hl => ?_)
        refine lv_goto (tgt := 10) hx hb dX11_undoLocks_31 rfl ?_
        exact ih8 z17 κ15 ls _ _ _ _ hl hw hH
set_option maxRecDepth 100000 in
def F_X11_beginWaiting (G : GE) (h : Nat) (a1 : Option Nat) (post : Int32 → CS → Prop) (κ : CS) : Prop := (h ∈ sL κ.1 ∧ sK κ.1 h = 1) ∧ ∀ z1 : Option Nat, z1 = sP κ.1 h 12 → ∃ b : Nat, z1 = some b ∧ (b ∈ sL κ.1 ∧ sK κ.1 b = 7) ∧ F_Jx4a65c_size_8abf5 G b  (fun (z3 : Int32) (κ2 : CS) => ((z3.toInt < (16 : Int32).toInt) → (h ∈ sL κ2.1 ∧ sK κ2.1 h = 1) ∧ F_X11_nextSerial G h 3 (fun (z5 : Int64) (κ4 : CS) => ∃ b : Nat, a1 = some b ∧ (b ∈ sL κ4.1 ∧ sK κ4.1 b = 8) ∧ ∀ κ6 : CS, κ6 = (h_uJ κ4.1 b 16 z5, κ4.2) → (h ∈ sL κ6.1 ∧ sK κ6.1 h = 1) ∧ ∀ z7 : Option Nat, z7 = sP κ6.1 h 12 → ∃ b : Nat, z7 = some b ∧ (b ∈ sL κ6.1 ∧ sK κ6.1 b = 7) ∧ F_Jx4a65c_add_9ea2d G b a1 (fun (z9 : Int32) (κ8 : CS) => post 259 κ8) κ6) κ2) ∧ (((16 : Int32).toInt ≤ z3.toInt) → post (-1073741670) κ2)) κ
theorem dX11_beginWaiting_0 : decode cX11_beginWaiting 0 = .ok (.aload_n 0, 1) := by decide +kernel
theorem dX11_beginWaiting_1 : decode cX11_beginWaiting 1 = .ok (.getfield 58, 3) := by decide +kernel
theorem dX11_beginWaiting_4 : decode cX11_beginWaiting 4 = .ok (.invokevirtual 161, 3) := by decide +kernel
theorem dX11_beginWaiting_7 : decode cX11_beginWaiting 7 = .ok (.bipush 16, 2) := by decide +kernel
theorem dX11_beginWaiting_9 : decode cX11_beginWaiting 9 = .ok (.if_icmp .lt 7, 3) := by decide +kernel
theorem dX11_beginWaiting_12 : decode cX11_beginWaiting 12 = .ok (.ldc_w 483, 3) := by decide +kernel
theorem dX11_beginWaiting_15 : decode cX11_beginWaiting 15 = .ok (.ireturn, 1) := by decide +kernel
theorem dX11_beginWaiting_16 : decode cX11_beginWaiting 16 = .ok (.aload_n 1, 1) := by decide +kernel
theorem dX11_beginWaiting_17 : decode cX11_beginWaiting 17 = .ok (.aload_n 0, 1) := by decide +kernel
theorem dX11_beginWaiting_18 : decode cX11_beginWaiting 18 = .ok (.iconst 3, 1) := by decide +kernel
theorem dX11_beginWaiting_19 : decode cX11_beginWaiting 19 = .ok (.invokevirtual 484, 3) := by decide +kernel
theorem dX11_beginWaiting_22 : decode cX11_beginWaiting 22 = .ok (.putfield 356, 3) := by decide +kernel
theorem dX11_beginWaiting_25 : decode cX11_beginWaiting 25 = .ok (.aload_n 0, 1) := by decide +kernel
theorem dX11_beginWaiting_26 : decode cX11_beginWaiting 26 = .ok (.getfield 58, 3) := by decide +kernel
theorem dX11_beginWaiting_29 : decode cX11_beginWaiting 29 = .ok (.aload_n 1, 1) := by decide +kernel
theorem dX11_beginWaiting_30 : decode cX11_beginWaiting 30 = .ok (.invokevirtual 488, 3) := by decide +kernel
theorem dX11_beginWaiting_33 : decode cX11_beginWaiting 33 = .ok (.pop, 1) := by decide +kernel
theorem dX11_beginWaiting_34 : decode cX11_beginWaiting 34 = .ok (.sipush 259, 3) := by decide +kernel
theorem dX11_beginWaiting_37 : decode cX11_beginWaiting 37 = .ok (.ireturn, 1) := by decide +kernel
set_option maxRecDepth 100000 in
set_option maxHeartbeats 4000000 in
theorem c_X11_beginWaiting (l : Launch) (D : va_G) (t : Nat → ClassId) (G : GE) (κ : CS) (h : Nat) (a1 : Option Nat) (post : Int32 → CS → Prop) (hw : F_X11_beginWaiting G h a1 post κ) (sz : Nat) : CMi l D t yX11_beginWaiting cX11_beginWaiting 2 (some .int) 7 171 G κ sz [.ref h, va_rf a1] post := by
  refine c_go (by decide) (by cases a1 <;> exact Nat.le_of_ble_eq_true rfl) ?_
  intro p e s m below meth c ls A hF hr hlk hin hAe hH hA hE hl
  unfold cB
  rw [hAe]
  clear hAe
  have hF : FX p m c cX11_beginWaiting 2 s _ RX11 D t := hF
  have hx := hF.1.1
  have hb := hF.1.2.1
  have hl : lv_has ls 2 [(0, .ref h), (1, va_rf a1)] := (by have h2 := hl; clear hw; revert h2; cases a1 <;> exact id)
  unfold F_X11_beginWaiting at hw
  refine lv_aload_n hx hb dX11_beginWaiting_0 rfl (lv_at hl 0 rfl) ?_
  refine cw_getPr (a := h) hF hH fk_X11_58 dX11_beginWaiting_1 hw (fun z1 hw => ?_)
  refine cw_cViq (q := z1) (As := []) (rest := []) hF hH hA hE mv_X11_161 ci_Jx4a65c (by decide) hw (fun b hw sz => c_Jx4a65c_size_8abf5 l D t G _ b  _ hw sz) dX11_beginWaiting_4 ⟨Nat.le_of_ble_eq_true rfl, Nat.le_of_ble_eq_true rfl⟩ rfl hl.1 (Nat.le_of_ble_eq_true rfl) rfl (fun z3 κ2 H locs cells slots hw hH => ?_)
  refine lv_bipush (v := 16) hx hb dX11_beginWaiting_7 (by decide) ?_
  refine w_icmp_lt (tgt := 16) hF dX11_beginWaiting_9 rfl hw (fun hw => ?_) (fun hw => ?_)
  · refine w_aloadq_n hF dX11_beginWaiting_16 rfl (lv_at hl 1 rfl) ?_
    refine lv_aload_n hx hb dX11_beginWaiting_17 rfl (lv_at hl 0 rfl) ?_
    refine lv_iconst (v := 3) hx hb dX11_beginWaiting_18 (by decide) ?_
    refine cw_cVl (b := h) (As := [.int 3]) (rest := [va_rf a1]) hF hH hA hE mv_X11_484 ci_X11 (by decide) (fun sz => c_X11_nextSerial l D t G _ h 3 _ hw.2 sz) dX11_beginWaiting_19 hw.1 ⟨Nat.le_of_ble_eq_true rfl, Nat.le_of_ble_eq_true rfl⟩ rfl hl.1 (by simp only [List.map_cons, List.map_nil, cat_rf]; exact Nat.le_of_ble_eq_true rfl) rfl (fun z5 κ4 H locs cells slots hw hH => ?_)
    refine cw_putJ (q := a1) (v := z5) hF hH fk_X11_356 dX11_beginWaiting_22 rfl rfl rfl hw (fun κ6 H locs cells slots hw hH => ?_)
    refine lv_aload_n hx hb dX11_beginWaiting_25 rfl (lv_at hl 0 rfl) ?_
    refine cw_getPr (a := h) hF hH fk_X11_58 dX11_beginWaiting_26 hw (fun z7 hw => ?_)
    refine w_aloadq_n hF dX11_beginWaiting_29 rfl (lv_at hl 1 rfl) ?_
    refine cw_cViq (q := z7) (As := [va_rf a1]) (rest := []) hF hH hA hE mv_X11_488 ci_Jx4a65c (by decide) hw (fun b hw sz => c_Jx4a65c_add_9ea2d l D t G _ b a1 _ hw sz) dX11_beginWaiting_30 ⟨Nat.le_of_ble_eq_true rfl, Nat.le_of_ble_eq_true rfl⟩ rfl hl.1 (Nat.le_of_ble_eq_true rfl) rfl (fun z9 κ8 H locs cells slots hw hH => ?_)
    refine lv_pop hx hb dX11_beginWaiting_33 rfl ?_
    refine lv_sipush (v := 259) hx hb dX11_beginWaiting_34 (by decide) ?_
    exact cw_reti hF hH ⟨rfl, rfl⟩ hr rfl hlk dX11_beginWaiting_37 hw
  · refine lv_ldcw (v := (-1073741670)) hx hb hF.1.2.2.2.1 (hF.1.2.2.2.2 _ (wc_16 28 rfl)) dX11_beginWaiting_12 ?_
    exact cw_reti hF hH ⟨rfl, rfl⟩ hr rfl hlk dX11_beginWaiting_15 hw
set_option maxRecDepth 100000 in
def F_X11_lockAll (G : GE) (h : Nat) (a1 : Option Nat) (a2 : Option Nat) (a3 : Int32) (post : Int32 → CS → Prop) (κ : CS) : Prop := (h ∈ sL κ.1 ∧ sK κ.1 h = 1) ∧ ∀ z1 : Option Nat, z1 = sP κ.1 h 11 → ∃ b : Nat, z1 = some b ∧ (b ∈ sL κ.1 ∧ sK κ.1 b = 7) ∧ F_Jx4a65c_size_8abf5 G b  (fun (z3 : Int32) (κ2 : CS) => ∀ z4 : Int32, z4 = z3 + a3 → ((z4.toInt ≤ (60 : Int32).toInt) → ∃ b : Nat, a2 = some b ∧ (b ∈ sL κ2.1 ∧ sK κ2.1 b = 10) ∧ ∀ z5 : Option Nat, z5 = sP κ2.1 b 2 → (h ∈ sL κ2.1 ∧ sK κ2.1 h = 1) ∧ F_X11_breakLevelTwo G h z5 (none : Option Nat) (fun (κ6 : CS) => lc (fun (K10 : Int32 → CS → Prop) (x8 : Int32) (κ9 : CS) => ((a3.toInt ≤ x8.toInt) → (h ∈ sL κ9.1 ∧ sK κ9.1 h = 1) ∧ F_X11_plainAnswer G h  (fun (z13 : Int32) (κ12 : CS) => post z13 κ12) κ9) ∧ ((x8.toInt < a3.toInt) → ∀ z14 : Int32, z14 = 24 * x8 → ∀ z15 : Int32, z15 = 88 + z14 → ∀ z16 : Int32, z16 = z15 + 16 → ∃ b : Nat, a1 = some b ∧ (b ∈ sL κ9.1 ∧ sK κ9.1 b = 8) ∧ F_X0_number G b z16 4 (fun (z18 : Int64) (κ17 : CS) => (4 + 12 ≤ κ17.2) ∧ ∀ o19 : Nat, o19 ∉ sL κ17.1 → ∀ κ20 : CS, κ20 = (h_uN κ17.1 o19 9 0, κ17.2 - (4 + 12)) → ∃ b : Nat, a1 = some b ∧ (b ∈ sL κ20.1 ∧ sK κ20.1 b = 8) ∧ F_X0_number G b z15 8 (fun (z22 : Int64) (κ21 : CS) => ∀ z23 : Int32, z23 = z15 + 8 → ∃ b : Nat, a1 = some b ∧ (b ∈ sL κ21.1 ∧ sK κ21.1 b = 8) ∧ F_X0_number G b z23 8 (fun (z25 : Int64) (κ24 : CS) => ∀ z26 : Int64, z26 = z18 &&& 1 → jc (fun (K29 : Int32 → CS → Prop) => ((z26.toInt = (0 : Int64).toInt) → K29 0 κ24) ∧ ((¬ z26.toInt = (0 : Int64).toInt) → K29 1 κ24)) (fun (x27 : Int32) (κ28 : CS) => F_X3_init G o19 a2 z22 z25 x27 (fun (κ32 : CS) => (h ∈ sL κ32.1 ∧ sK κ32.1 h = 1) ∧ F_X11_canBe G h (some o19) (fun (z35 : Int32) (κ34 : CS) => ((¬ z35.toInt = 0) → (h ∈ sL κ34.1 ∧ sK κ34.1 h = 1) ∧ ∀ z36 : Option Nat, z36 = sP κ34.1 h 11 → ∃ b : Nat, z36 = some b ∧ (b ∈ sL κ34.1 ∧ sK κ34.1 b = 7) ∧ F_Jx4a65c_add_9ea2d G b (some o19) (fun (z38 : Int32) (κ37 : CS) => ∀ z39 : Int32, z39 = x8 + 1 → K10 z39 κ37) κ34) ∧ ((z35.toInt = 0) → (h ∈ sL κ34.1 ∧ sK κ34.1 h = 1) ∧ F_X11_undoLocks G h z3 (fun (κ40 : CS) => ∀ z42 : Int64, z42 = z18 &&& 16 → jc (fun (K45 : Int32 → CS → Prop) => jc (fun (K63 : Unit → CS → Prop) => ((¬ z42.toInt = (0 : Int64).toInt) → K63 () κ40) ∧ ((z42.toInt = (0 : Int64).toInt) → ∃ b : Nat, a1 = some b ∧ (b ∈ sL κ40.1 ∧ sK κ40.1 b = 8) ∧ F_X0_last G b  (fun (z67 : Int32) (κ66 : CS) => ((z67.toInt = 0) → K63 () κ66) ∧ ((¬ z67.toInt = 0) → K45 1 κ66)) κ40)) (fun (x61 : Unit) (κ62 : CS) => K45 0 κ62)) (fun (x43 : Int32) (κ44 : CS) => jc (fun (K50 : (Option Nat) → CS → Prop) => ((x43.toInt = 0) → K50 (none : Option Nat) κ44) ∧ ((¬ x43.toInt = 0) → K50 (some o19) κ44)) (fun (x48 : Option Nat) (κ49 : CS) => ∃ b : Nat, a1 = some b ∧ (b ∈ sL κ49.1 ∧ sK κ49.1 b = 8) ∧ ∀ κ53 : CS, κ53 = (h_uP κ49.1 b 20 x48, κ49.2) → jc (fun (K56 : Int32 → CS → Prop) => ((x43.toInt = 0) → K56 (-1073741739) κ53) ∧ ((¬ x43.toInt = 0) → (h ∈ sL κ53.1 ∧ sK κ53.1 h = 1) ∧ F_X11_beginWaiting G h a1 (fun (z60 : Int32) (κ59 : CS) => K56 z60 κ59) κ53)) (fun (x54 : Int32) (κ55 : CS) => post x54 κ55)))) κ34)) κ32) κ28)) κ21) κ20) κ9)) 0 κ6) κ2) ∧ (((60 : Int32).toInt < z4.toInt) → post (-1073741670) κ2)) κ
theorem dX11_lockAll_0 : decode cX11_lockAll 0 = .ok (.aload_n 0, 1) := by decide +kernel
theorem dX11_lockAll_1 : decode cX11_lockAll 1 = .ok (.getfield 55, 3) := by decide +kernel
theorem dX11_lockAll_4 : decode cX11_lockAll 4 = .ok (.invokevirtual 161, 3) := by decide +kernel
theorem dX11_lockAll_7 : decode cX11_lockAll 7 = .ok (.istore 4, 2) := by decide +kernel
theorem dX11_lockAll_9 : decode cX11_lockAll 9 = .ok (.iload 4, 2) := by decide +kernel
theorem dX11_lockAll_11 : decode cX11_lockAll 11 = .ok (.iload_n 3, 1) := by decide +kernel
theorem dX11_lockAll_12 : decode cX11_lockAll 12 = .ok (.iadd, 1) := by decide +kernel
theorem dX11_lockAll_13 : decode cX11_lockAll 13 = .ok (.bipush 60, 2) := by decide +kernel
theorem dX11_lockAll_15 : decode cX11_lockAll 15 = .ok (.if_icmp .le 7, 3) := by decide +kernel
theorem dX11_lockAll_18 : decode cX11_lockAll 18 = .ok (.ldc_w 483, 3) := by decide +kernel
theorem dX11_lockAll_21 : decode cX11_lockAll 21 = .ok (.ireturn, 1) := by decide +kernel
theorem dX11_lockAll_22 : decode cX11_lockAll 22 = .ok (.aload_n 0, 1) := by decide +kernel
theorem dX11_lockAll_23 : decode cX11_lockAll 23 = .ok (.aload_n 2, 1) := by decide +kernel
theorem dX11_lockAll_24 : decode cX11_lockAll 24 = .ok (.getfield 564, 3) := by decide +kernel
theorem dX11_lockAll_27 : decode cX11_lockAll 27 = .ok (.aconst_null, 1) := by decide +kernel
theorem dX11_lockAll_28 : decode cX11_lockAll 28 = .ok (.invokevirtual 744, 3) := by decide +kernel
theorem dX11_lockAll_31 : decode cX11_lockAll 31 = .ok (.iconst 0, 1) := by decide +kernel
theorem dX11_lockAll_32 : decode cX11_lockAll 32 = .ok (.istore 5, 2) := by decide +kernel
theorem dX11_lockAll_34 : decode cX11_lockAll 34 = .ok (.iload 5, 2) := by decide +kernel
theorem dX11_lockAll_36 : decode cX11_lockAll 36 = .ok (.iload_n 3, 1) := by decide +kernel
theorem dX11_lockAll_37 : decode cX11_lockAll 37 = .ok (.if_icmp .ge 156, 3) := by decide +kernel
theorem dX11_lockAll_40 : decode cX11_lockAll 40 = .ok (.bipush 88, 2) := by decide +kernel
theorem dX11_lockAll_42 : decode cX11_lockAll 42 = .ok (.bipush 24, 2) := by decide +kernel
theorem dX11_lockAll_44 : decode cX11_lockAll 44 = .ok (.iload 5, 2) := by decide +kernel
theorem dX11_lockAll_46 : decode cX11_lockAll 46 = .ok (.imul, 1) := by decide +kernel
theorem dX11_lockAll_47 : decode cX11_lockAll 47 = .ok (.iadd, 1) := by decide +kernel
theorem dX11_lockAll_48 : decode cX11_lockAll 48 = .ok (.istore 6, 2) := by decide +kernel
theorem dX11_lockAll_50 : decode cX11_lockAll 50 = .ok (.aload_n 1, 1) := by decide +kernel
theorem dX11_lockAll_51 : decode cX11_lockAll 51 = .ok (.iload 6, 2) := by decide +kernel
theorem dX11_lockAll_53 : decode cX11_lockAll 53 = .ok (.bipush 16, 2) := by decide +kernel
theorem dX11_lockAll_55 : decode cX11_lockAll 55 = .ok (.iadd, 1) := by decide +kernel
theorem dX11_lockAll_56 : decode cX11_lockAll 56 = .ok (.iconst 4, 1) := by decide +kernel
theorem dX11_lockAll_57 : decode cX11_lockAll 57 = .ok (.invokevirtual 394, 3) := by decide +kernel
theorem dX11_lockAll_60 : decode cX11_lockAll 60 = .ok (.lstore 7, 2) := by decide +kernel
theorem dX11_lockAll_62 : decode cX11_lockAll 62 = .ok (.new 561, 3) := by decide +kernel
theorem dX11_lockAll_65 : decode cX11_lockAll 65 = .ok (.dup, 1) := by decide +kernel
theorem dX11_lockAll_66 : decode cX11_lockAll 66 = .ok (.aload_n 2, 1) := by decide +kernel
theorem dX11_lockAll_67 : decode cX11_lockAll 67 = .ok (.aload_n 1, 1) := by decide +kernel
theorem dX11_lockAll_68 : decode cX11_lockAll 68 = .ok (.iload 6, 2) := by decide +kernel
theorem dX11_lockAll_70 : decode cX11_lockAll 70 = .ok (.bipush 8, 2) := by decide +kernel
theorem dX11_lockAll_72 : decode cX11_lockAll 72 = .ok (.invokevirtual 394, 3) := by decide +kernel
theorem dX11_lockAll_75 : decode cX11_lockAll 75 = .ok (.aload_n 1, 1) := by decide +kernel
theorem dX11_lockAll_76 : decode cX11_lockAll 76 = .ok (.iload 6, 2) := by decide +kernel
theorem dX11_lockAll_78 : decode cX11_lockAll 78 = .ok (.bipush 8, 2) := by decide +kernel
theorem dX11_lockAll_80 : decode cX11_lockAll 80 = .ok (.iadd, 1) := by decide +kernel
theorem dX11_lockAll_81 : decode cX11_lockAll 81 = .ok (.bipush 8, 2) := by decide +kernel
theorem dX11_lockAll_83 : decode cX11_lockAll 83 = .ok (.invokevirtual 394, 3) := by decide +kernel
theorem dX11_lockAll_86 : decode cX11_lockAll 86 = .ok (.lload 7, 2) := by decide +kernel
theorem dX11_lockAll_88 : decode cX11_lockAll 88 = .ok (.lconst 1, 1) := by decide +kernel
theorem dX11_lockAll_89 : decode cX11_lockAll 89 = .ok (.land, 1) := by decide +kernel
theorem dX11_lockAll_90 : decode cX11_lockAll 90 = .ok (.lconst 0, 1) := by decide +kernel
theorem dX11_lockAll_91 : decode cX11_lockAll 91 = .ok (.lcmp, 1) := by decide +kernel
theorem dX11_lockAll_92 : decode cX11_lockAll 92 = .ok (.ifCond .eq 7, 3) := by decide +kernel
theorem dX11_lockAll_95 : decode cX11_lockAll 95 = .ok (.iconst 1, 1) := by decide +kernel
theorem dX11_lockAll_96 : decode cX11_lockAll 96 = .ok (.goto 4, 3) := by decide +kernel
theorem dX11_lockAll_99 : decode cX11_lockAll 99 = .ok (.iconst 0, 1) := by decide +kernel
theorem dX11_lockAll_100 : decode cX11_lockAll 100 = .ok (.invokespecial 852, 3) := by decide +kernel
theorem dX11_lockAll_103 : decode cX11_lockAll 103 = .ok (.astore 9, 2) := by decide +kernel
theorem dX11_lockAll_105 : decode cX11_lockAll 105 = .ok (.aload_n 0, 1) := by decide +kernel
theorem dX11_lockAll_106 : decode cX11_lockAll 106 = .ok (.aload 9, 2) := by decide +kernel
theorem dX11_lockAll_108 : decode cX11_lockAll 108 = .ok (.invokevirtual 536, 3) := by decide +kernel
theorem dX11_lockAll_111 : decode cX11_lockAll 111 = .ok (.ifCond .ne 66, 3) := by decide +kernel
theorem dX11_lockAll_114 : decode cX11_lockAll 114 = .ok (.aload_n 0, 1) := by decide +kernel
theorem dX11_lockAll_115 : decode cX11_lockAll 115 = .ok (.iload 4, 2) := by decide +kernel
theorem dX11_lockAll_117 : decode cX11_lockAll 117 = .ok (.invokevirtual 855, 3) := by decide +kernel
theorem dX11_lockAll_120 : decode cX11_lockAll 120 = .ok (.lload 7, 2) := by decide +kernel
theorem dX11_lockAll_122 : decode cX11_lockAll 122 = .ok (.ldc2_w 623, 3) := by decide +kernel
theorem dX11_lockAll_125 : decode cX11_lockAll 125 = .ok (.land, 1) := by decide +kernel
theorem dX11_lockAll_126 : decode cX11_lockAll 126 = .ok (.lconst 0, 1) := by decide +kernel
theorem dX11_lockAll_127 : decode cX11_lockAll 127 = .ok (.lcmp, 1) := by decide +kernel
theorem dX11_lockAll_128 : decode cX11_lockAll 128 = .ok (.ifCond .ne 14, 3) := by decide +kernel
theorem dX11_lockAll_131 : decode cX11_lockAll 131 = .ok (.aload_n 1, 1) := by decide +kernel
theorem dX11_lockAll_132 : decode cX11_lockAll 132 = .ok (.invokevirtual 307, 3) := by decide +kernel
theorem dX11_lockAll_135 : decode cX11_lockAll 135 = .ok (.ifCond .eq 7, 3) := by decide +kernel
theorem dX11_lockAll_138 : decode cX11_lockAll 138 = .ok (.iconst 1, 1) := by decide +kernel
theorem dX11_lockAll_139 : decode cX11_lockAll 139 = .ok (.goto 4, 3) := by decide +kernel
theorem dX11_lockAll_142 : decode cX11_lockAll 142 = .ok (.iconst 0, 1) := by decide +kernel
theorem dX11_lockAll_143 : decode cX11_lockAll 143 = .ok (.istore 10, 2) := by decide +kernel
theorem dX11_lockAll_145 : decode cX11_lockAll 145 = .ok (.aload_n 1, 1) := by decide +kernel
theorem dX11_lockAll_146 : decode cX11_lockAll 146 = .ok (.iload 10, 2) := by decide +kernel
theorem dX11_lockAll_148 : decode cX11_lockAll 148 = .ok (.ifCond .eq 8, 3) := by decide +kernel
theorem dX11_lockAll_151 : decode cX11_lockAll 151 = .ok (.aload 9, 2) := by decide +kernel
theorem dX11_lockAll_153 : decode cX11_lockAll 153 = .ok (.goto 4, 3) := by decide +kernel
theorem dX11_lockAll_156 : decode cX11_lockAll 156 = .ok (.aconst_null, 1) := by decide +kernel
theorem dX11_lockAll_157 : decode cX11_lockAll 157 = .ok (.putfield 533, 3) := by decide +kernel
theorem dX11_lockAll_160 : decode cX11_lockAll 160 = .ok (.iload 10, 2) := by decide +kernel
theorem dX11_lockAll_162 : decode cX11_lockAll 162 = .ok (.ifCond .eq 11, 3) := by decide +kernel
theorem dX11_lockAll_165 : decode cX11_lockAll 165 = .ok (.aload_n 0, 1) := by decide +kernel
theorem dX11_lockAll_166 : decode cX11_lockAll 166 = .ok (.aload_n 1, 1) := by decide +kernel
theorem dX11_lockAll_167 : decode cX11_lockAll 167 = .ok (.invokevirtual 670, 3) := by decide +kernel
theorem dX11_lockAll_170 : decode cX11_lockAll 170 = .ok (.goto 6, 3) := by decide +kernel
theorem dX11_lockAll_173 : decode cX11_lockAll 173 = .ok (.ldc_w 858, 3) := by decide +kernel
theorem dX11_lockAll_176 : decode cX11_lockAll 176 = .ok (.ireturn, 1) := by decide +kernel
theorem dX11_lockAll_177 : decode cX11_lockAll 177 = .ok (.aload_n 0, 1) := by decide +kernel
theorem dX11_lockAll_178 : decode cX11_lockAll 178 = .ok (.getfield 55, 3) := by decide +kernel
theorem dX11_lockAll_181 : decode cX11_lockAll 181 = .ok (.aload 9, 2) := by decide +kernel
theorem dX11_lockAll_183 : decode cX11_lockAll 183 = .ok (.invokevirtual 488, 3) := by decide +kernel
theorem dX11_lockAll_186 : decode cX11_lockAll 186 = .ok (.pop, 1) := by decide +kernel
theorem dX11_lockAll_187 : decode cX11_lockAll 187 = .ok (.iinc 5 1, 3) := by decide +kernel
theorem dX11_lockAll_190 : decode cX11_lockAll 190 = .ok (.goto (-156), 3) := by decide +kernel
theorem dX11_lockAll_193 : decode cX11_lockAll 193 = .ok (.aload_n 0, 1) := by decide +kernel
theorem dX11_lockAll_194 : decode cX11_lockAll 194 = .ok (.invokevirtual 447, 3) := by decide +kernel
theorem dX11_lockAll_197 : decode cX11_lockAll 197 = .ok (.ireturn, 1) := by decide +kernel
set_option maxRecDepth 100000 in
set_option maxHeartbeats 4000000 in
theorem c_X11_lockAll (l : Launch) (D : va_G) (t : Nat → ClassId) (G : GE) (κ : CS) (h : Nat) (a1 : Option Nat) (a2 : Option Nat) (a3 : Int32) (post : Int32 → CS → Prop) (hw : F_X11_lockAll G h a1 a2 a3 post κ) (sz : Nat) : CMi l D t yX11_lockAll cX11_lockAll 11 (some .int) 8 192 G κ sz [.ref h, va_rf a1, va_rf a2, .int a3] post := by
  refine c_go (by decide) (by cases a1 <;> cases a2 <;> exact Nat.le_of_ble_eq_true rfl) ?_
  intro p e s m below meth c ls A hF hr hlk hin hAe hH hA hE hl
  unfold cB
  rw [hAe]
  clear hAe
  have hF : FX p m c cX11_lockAll 11 s _ RX11 D t := hF
  have hx := hF.1.1
  have hb := hF.1.2.1
  have hl : lv_has ls 11 [(0, .ref h), (1, va_rf a1), (2, va_rf a2), (3, .int a3)] := (by have h2 := hl; clear hw; revert h2; cases a1 <;> cases a2 <;> exact id)
  unfold F_X11_lockAll at hw
  refine lv_aload_n hx hb dX11_lockAll_0 rfl (lv_at hl 0 rfl) ?_
  refine cw_getPr (a := h) hF hH fk_X11_55 dX11_lockAll_1 hw (fun z1 hw => ?_)
  refine cw_cViq (q := z1) (As := []) (rest := []) hF hH hA hE mv_X11_161 ci_Jx4a65c (by decide) hw (fun b hw sz => c_Jx4a65c_size_8abf5 l D t G _ b  _ hw sz) dX11_lockAll_4 ⟨Nat.le_of_ble_eq_true rfl, Nat.le_of_ble_eq_true rfl⟩ rfl hl.1 (Nat.le_of_ble_eq_true rfl) rfl (fun z3 κ2 H locs cells slots hw hH => ?_)
  refine lv_istore (lv' := [(4, .int z3), (0, .ref h), (1, va_rf a1), (2, va_rf a2), (3, .int a3)]) hx hb dX11_lockAll_7 hl (by decide) rfl (fun ls hl => ?_)
  refine lv_iload hx hb dX11_lockAll_9 (lv_at hl 0 rfl) ?_
  refine lv_iload_n hx hb dX11_lockAll_11 rfl (lv_at hl 4 rfl) ?_
  refine lv_iadd hx hb dX11_lockAll_12 ?_
  refine w_nmi hw (fun z4 hw => ?_)
  refine lv_bipush (v := 60) hx hb dX11_lockAll_13 (by decide) ?_
  refine w_icmp_le (tgt := 22) hF dX11_lockAll_15 rfl hw (fun hw => ?_) (fun hw => ?_)
  · refine lv_aload_n hx hb dX11_lockAll_22 rfl (lv_at hl 1 rfl) ?_
    refine w_aloadq_n hF dX11_lockAll_23 rfl (lv_at hl 3 rfl) ?_
    refine cw_getP (q := a2) hF hH fk_X11_564 dX11_lockAll_24 hw (fun z5 hw => ?_)
    refine cw_null dX11_lockAll_27 hF ?_
    refine cw_cVv (b := h) (As := [va_rf z5, va_rf (none : Option Nat)]) (rest := []) hF hH hA hE mv_X11_744 ci_X11 (by decide) (fun sz => c_X11_breakLevelTwo l D t G _ h z5 (none : Option Nat) _ hw.2 sz) dX11_lockAll_28 hw.1 ⟨Nat.le_of_ble_eq_true rfl, Nat.le_of_ble_eq_true rfl⟩ rfl hl.1 (Nat.le_of_ble_eq_true rfl) rfl (fun κ6 H locs cells slots hw hH => ?_)
    refine lv_iconst (v := 0) hx hb dX11_lockAll_31 (by decide) ?_
    refine lv_istore (lv' := [(5, .int 0), (4, .int z3), (0, .ref h), (1, va_rf a1), (2, va_rf a2), (3, .int a3)]) hx hb dX11_lockAll_32 hl (by decide) rfl (fun ls hl => ?_)
    have hl : lv_has ls 11 [(5, .int 0), (4, .int z3), (3, .int a3), (2, va_rf a2), (1, va_rf a1), (0, .ref h)] := lv_sub hl [0, 1, 5, 4, 3, 2] rfl
    refine cw_loop (β := Int32) (fun x8 => [(5, .int x8), (4, .int z3), (3, .int a3), (2, va_rf a2), (1, va_rf a1), (0, .ref h)]) 0 hl hw hH (fun K10 x8 κ9 ls H locs cells slots hl hw hH ih11 => ?_)
    have hl : lv_has ls 11 [(5, .int x8), (4, .int z3), (3, .int a3), (2, va_rf a2), (1, va_rf a1), (0, .ref h)] := hl
    refine lv_iload hx hb dX11_lockAll_34 (lv_at hl 0 rfl) ?_
    refine lv_iload_n hx hb dX11_lockAll_36 rfl (lv_at hl 2 rfl) ?_
    refine w_icmp_ge (tgt := 193) hF dX11_lockAll_37 rfl hw (fun hw => ?_) (fun hw => ?_)
    · refine lv_aload_n hx hb dX11_lockAll_193 rfl (lv_at hl 5 rfl) ?_
      refine cw_cVi (b := h) (As := []) (rest := []) hF hH hA hE mv_X11_447 ci_X11 (by decide) (fun sz => c_X11_plainAnswer l D t G _ h  _ hw.2 sz) dX11_lockAll_194 hw.1 ⟨Nat.le_of_ble_eq_true rfl, Nat.le_of_ble_eq_true rfl⟩ rfl hl.1 (Nat.le_of_ble_eq_true rfl) rfl (fun z13 κ12 H locs cells slots hw hH => ?_)
      exact cw_reti hF hH ⟨rfl, rfl⟩ hr rfl hlk dX11_lockAll_197 hw
    · refine lv_bipush (v := 88) hx hb dX11_lockAll_40 (by decide) ?_
      refine lv_bipush (v := 24) hx hb dX11_lockAll_42 (by decide) ?_
      refine lv_iload hx hb dX11_lockAll_44 (lv_at hl 0 rfl) ?_
      refine lv_imul hx hb dX11_lockAll_46 ?_
      refine w_nmi hw (fun z14 hw => ?_)
      refine lv_iadd hx hb dX11_lockAll_47 ?_
      refine w_nmi hw (fun z15 hw => ?_)
      refine lv_istore (lv' := [(6, .int z15), (5, .int x8), (4, .int z3), (3, .int a3), (2, va_rf a2), (1, va_rf a1), (0, .ref h)]) hx hb dX11_lockAll_48 hl (by decide) rfl (fun ls hl => ?_)
      refine w_aloadq_n hF dX11_lockAll_50 rfl (lv_at hl 5 rfl) ?_
      refine lv_iload hx hb dX11_lockAll_51 (lv_at hl 0 rfl) ?_
      refine lv_bipush (v := 16) hx hb dX11_lockAll_53 (by decide) ?_
      refine lv_iadd hx hb dX11_lockAll_55 ?_
      refine w_nmi hw (fun z16 hw => ?_)
      refine lv_iconst (v := 4) hx hb dX11_lockAll_56 (by decide) ?_
      refine cw_cVlq (q := a1) (As := [.int z16, .int 4]) (rest := []) hF hH hA hE mv_X11_394 ci_X0 (by decide) hw (fun b hw sz => c_X0_number l D t G _ b z16 4 _ hw sz) dX11_lockAll_57 ⟨Nat.le_of_ble_eq_true rfl, Nat.le_of_ble_eq_true rfl⟩ rfl hl.1 (Nat.le_of_ble_eq_true rfl) rfl (fun z18 κ17 H locs cells slots hw hH => ?_)
      refine lv_lstore (lv' := [(7, .long z18), (6, .int z15), (5, .int x8), (4, .int z3), (3, .int a3), (2, va_rf a2), (1, va_rf a1), (0, .ref h)]) hx hb dX11_lockAll_60 hl (by decide) rfl (fun ls hl => ?_)
      refine cw_new hF hH hA ci_X3 (by decide) rfl df_X3 dX11_lockAll_62 (wc_17 27 rfl) (wc_32 22 rfl) (wc_8 15 rfl) hw (fun o19 κ20 H locs cells slots hw hH => ?_)
      refine lv_dup hx hb dX11_lockAll_65 rfl ?_
      refine w_aloadq_n hF dX11_lockAll_66 rfl (lv_at hl 5 rfl) ?_
      refine w_aloadq_n hF dX11_lockAll_67 rfl (lv_at hl 6 rfl) ?_
      refine lv_iload hx hb dX11_lockAll_68 (lv_at hl 1 rfl) ?_
      refine lv_bipush (v := 8) hx hb dX11_lockAll_70 (by decide) ?_
      refine cw_cVlq (q := a1) (As := [.int z15, .int 8]) (rest := [va_rf a2, .ref o19, .ref o19]) hF hH hA hE mv_X11_394 ci_X0 (by decide) hw (fun b hw sz => c_X0_number l D t G _ b z15 8 _ hw sz) dX11_lockAll_72 ⟨Nat.le_of_ble_eq_true rfl, Nat.le_of_ble_eq_true rfl⟩ rfl hl.1 (by simp only [List.map_cons, List.map_nil, cat_rf]; exact Nat.le_of_ble_eq_true rfl) rfl (fun z22 κ21 H locs cells slots hw hH => ?_)
      refine w_aloadq_n hF dX11_lockAll_75 rfl (lv_at hl 6 rfl) ?_
      refine lv_iload hx hb dX11_lockAll_76 (lv_at hl 1 rfl) ?_
      refine lv_bipush (v := 8) hx hb dX11_lockAll_78 (by decide) ?_
      refine lv_iadd hx hb dX11_lockAll_80 ?_
      refine w_nmi hw (fun z23 hw => ?_)
      refine lv_bipush (v := 8) hx hb dX11_lockAll_81 (by decide) ?_
      refine cw_cVlq (q := a1) (As := [.int z23, .int 8]) (rest := [.long z22, va_rf a2, .ref o19, .ref o19]) hF hH hA hE mv_X11_394 ci_X0 (by decide) hw (fun b hw sz => c_X0_number l D t G _ b z23 8 _ hw sz) dX11_lockAll_83 ⟨Nat.le_of_ble_eq_true rfl, Nat.le_of_ble_eq_true rfl⟩ rfl hl.1 (by simp only [List.map_cons, List.map_nil, cat_rf]; exact Nat.le_of_ble_eq_true rfl) rfl (fun z25 κ24 H locs cells slots hw hH => ?_)
      refine lv_lload hx hb dX11_lockAll_86 (lv_at hl 0 rfl) ?_
      refine lv_lconst (v := 1) hx hb dX11_lockAll_88 (by decide) ?_
      refine lv_land hx hb dX11_lockAll_89 ?_
      refine w_nml hw (fun z26 hw => ?_)
      refine lv_lconst (v := 0) hx hb dX11_lockAll_90 (by decide) ?_
      obtain ⟨K29, hK30, hw⟩ := jc_open hw
      refine cw_join (K := K29) 100 (fun (x27 : Int32) => [(7, .long z18), (5, .int x8), (4, .int z3), (3, .int a3), (2, va_rf a2), (1, va_rf a1), (0, .ref h)]) (fun (x27 : Int32) => [.int x27, .long z25, .long z22, va_rf a2, .ref o19, .ref o19]) hl hH (fun x27 κ28 ls H locs cells slots hl hw hH => ?_) (fun jn31 => ?_)
      · have hw := hK30 x27 κ28 hw
        have hl : lv_has ls 11 [(7, .long z18), (5, .int x8), (4, .int z3), (3, .int a3), (2, va_rf a2), (1, va_rf a1), (0, .ref h)] := hl
        refine cw_cI (b := o19) (As := [va_rf a2, .long z22, .long z25, .int x27]) (rest := [.ref o19]) hF hH hA hE mi_X11_852 (fun sz => c_X3_init l D t G _ o19 a2 z22 z25 x27 _ hw sz) dX11_lockAll_100 ⟨Nat.le_of_ble_eq_true rfl, Nat.le_of_ble_eq_true rfl⟩ rfl hl.1 (Nat.le_of_ble_eq_true rfl) rfl (fun κ32 H locs cells slots hw hH => ?_)
        refine lv_astore (lv' := [(9, .ref o19), (7, .long z18), (5, .int x8), (4, .int z3), (3, .int a3), (2, va_rf a2), (1, va_rf a1), (0, .ref h)]) hx hb dX11_lockAll_103 hl (by decide) rfl (fun ls hl => ?_)
        refine lv_aload_n hx hb dX11_lockAll_105 rfl (lv_at hl 7 rfl) ?_
        refine lv_aload hx hb dX11_lockAll_106 (lv_at hl 0 rfl) ?_
        refine cw_cVi (b := h) (As := [.ref o19]) (rest := []) hF hH hA hE mv_X11_536 ci_X11 (by decide) (fun sz => c_X11_canBe l D t G _ h (some o19) _ hw.2 sz) dX11_lockAll_108 hw.1 ⟨Nat.le_of_ble_eq_true rfl, Nat.le_of_ble_eq_true rfl⟩ rfl hl.1 (Nat.le_of_ble_eq_true rfl) rfl (fun z35 κ34 H locs cells slots hw hH => ?_)
        refine w_if_ne (tgt := 177) hF dX11_lockAll_111 rfl hw (fun hw => ?_) (fun hw => ?_)
        · refine lv_aload_n hx hb dX11_lockAll_177 rfl (lv_at hl 7 rfl) ?_
          refine cw_getPr (a := h) hF hH fk_X11_55 dX11_lockAll_178 hw (fun z36 hw => ?_)
          refine lv_aload hx hb dX11_lockAll_181 (lv_at hl 0 rfl) ?_
          refine cw_cViq (q := z36) (As := [.ref o19]) (rest := []) hF hH hA hE mv_X11_488 ci_Jx4a65c (by decide) hw (fun b hw sz => c_Jx4a65c_add_9ea2d l D t G _ b (some o19) _ hw sz) dX11_lockAll_183 ⟨Nat.le_of_ble_eq_true rfl, Nat.le_of_ble_eq_true rfl⟩ rfl hl.1 (Nat.le_of_ble_eq_true rfl) rfl (fun z38 κ37 H locs cells slots hw hH => ?_)
          refine lv_pop hx hb dX11_lockAll_186 rfl ?_
          obtain ⟨z39, ez39⟩ : ∃ z : Int32, z = x8 + 1 := ⟨_, rfl⟩
          have hw := hw z39 ez39
          refine lv_iinc (lv' := [(5, .int z39), (9, .ref o19), (7, .long z18), (4, .int z3), (3, .int a3), (2, va_rf a2), (1, va_rf a1), (0, .ref h)]) (k := 2) (v := z39) hx hb dX11_lockAll_187 hl rfl ez39.symm (by decide) rfl (fun ls hl => ?_)
          refine lv_goto (tgt := 34) hx hb dX11_lockAll_190 rfl ?_
          have hl : lv_has ls 11 [(5, .int z39), (4, .int z3), (3, .int a3), (2, va_rf a2), (1, va_rf a1), (0, .ref h)] := lv_sub hl [0, 3, 4, 5, 6, 7] rfl
          exact ih11 z39 κ37 ls _ _ _ _ hl hw hH
        · refine lv_aload_n hx hb dX11_lockAll_114 rfl (lv_at hl 7 rfl) ?_
          refine lv_iload hx hb dX11_lockAll_115 (lv_at hl 3 rfl) ?_
          refine cw_cVv (b := h) (As := [.int z3]) (rest := []) hF hH hA hE mv_X11_855 ci_X11 (by decide) (fun sz => c_X11_undoLocks l D t G _ h z3 _ hw.2 sz) dX11_lockAll_117 hw.1 ⟨Nat.le_of_ble_eq_true rfl, Nat.le_of_ble_eq_true rfl⟩ rfl hl.1 (Nat.le_of_ble_eq_true rfl) rfl (fun κ40 H locs cells slots hw hH => ?_)
          refine lv_lload hx hb dX11_lockAll_120 (lv_at hl 1 rfl) ?_
          refine lv_ldc2 (v := 16) hx hb hF.1.2.2.2.1 (hF.1.2.2.2.2 _ (wc_31 14 rfl)) dX11_lockAll_122 ?_
          refine lv_land hx hb dX11_lockAll_125 ?_
          refine w_nml hw (fun z42 hw => ?_)
          refine lv_lconst (v := 0) hx hb dX11_lockAll_126 (by decide) ?_
          obtain ⟨K45, hK46, hw⟩ := jc_open hw
          refine cw_join (K := K45) 143 (fun (x43 : Int32) => [(9, .ref o19), (1, va_rf a1), (0, .ref h)]) (fun (x43 : Int32) => [.int x43]) hl hH (fun x43 κ44 ls H locs cells slots hl hw hH => ?_) (fun jn47 => ?_)
          · have hw := hK46 x43 κ44 hw
            have hl : lv_has ls 11 [(9, .ref o19), (1, va_rf a1), (0, .ref h)] := hl
            refine lv_istore (lv' := [(10, .int x43), (9, .ref o19), (1, va_rf a1), (0, .ref h)]) hx hb dX11_lockAll_143 hl (by decide) rfl (fun ls hl => ?_)
            refine w_aloadq_n hF dX11_lockAll_145 rfl (lv_at hl 2 rfl) ?_
            refine lv_iload hx hb dX11_lockAll_146 (lv_at hl 0 rfl) ?_
            obtain ⟨K50, hK51, hw⟩ := jc_open hw
            refine cw_join (K := K50) 157 (fun (x48 : Option Nat) => [(10, .int x43), (1, va_rf a1), (0, .ref h)]) (fun (x48 : Option Nat) => [va_rf x48, va_rf a1]) hl hH (fun x48 κ49 ls H locs cells slots hl hw hH => ?_) (fun jn52 => ?_)
            · have hw := hK51 x48 κ49 hw
              have hl : lv_has ls 11 [(10, .int x43), (1, va_rf a1), (0, .ref h)] := hl
              refine cw_putP (q := a1) (v := x48) hF hH fk_X11_533 dX11_lockAll_157 rfl rfl hw (fun κ53 H locs cells slots hw hH => ?_)
              refine lv_iload hx hb dX11_lockAll_160 (lv_at hl 0 rfl) ?_
              obtain ⟨K56, hK57, hw⟩ := jc_open hw
              refine cw_join (K := K56) 176 (fun (x54 : Int32) => []) (fun (x54 : Int32) => [.int x54]) hl hH (fun x54 κ55 ls H locs cells slots hl hw hH => ?_) (fun jn58 => ?_)
              · have hw := hK57 x54 κ55 hw
                have hl : lv_has ls 11 [] := hl
                exact cw_reti hF hH ⟨rfl, rfl⟩ hr rfl hlk dX11_lockAll_176 hw
              · skip
                refine w_if_eq (tgt := 173) hF dX11_lockAll_162 rfl hw (fun hw => ?_) (fun hw => ?_)
                · refine lv_ldcw (v := (-1073741739)) hx hb hF.1.2.2.2.1 (hF.1.2.2.2.2 _ (wc_32 29 rfl)) dX11_lockAll_173 ?_
                  have hl : lv_has ls 11 [] := lv_sub hl [] rfl
                  exact jn58 (-1073741739) κ53 ls _ _ _ _ hl hw hH
                · refine lv_aload_n hx hb dX11_lockAll_165 rfl (lv_at hl 2 rfl) ?_
                  refine w_aloadq_n hF dX11_lockAll_166 rfl (lv_at hl 1 rfl) ?_
                  refine cw_cVi (b := h) (As := [va_rf a1]) (rest := []) hF hH hA hE mv_X11_670 ci_X11 (by decide) (fun sz => c_X11_beginWaiting l D t G _ h a1 _ hw.2 sz) dX11_lockAll_167 hw.1 ⟨Nat.le_of_ble_eq_true rfl, Nat.le_of_ble_eq_true rfl⟩ rfl hl.1 (Nat.le_of_ble_eq_true rfl) rfl (fun z60 κ59 H locs cells slots hw hH => ?_)
                  refine lv_goto (tgt := 176) hx hb dX11_lockAll_170 rfl ?_
                  have hl : lv_has ls 11 [] := lv_sub hl [] rfl
                  exact jn58 z60 κ59 ls _ _ _ _ hl hw hH
            · skip
              refine w_if_eq (tgt := 156) hF dX11_lockAll_148 rfl hw (fun hw => ?_) (fun hw => ?_)
              · refine cw_null dX11_lockAll_156 hF ?_
                have hl : lv_has ls 11 [(10, .int x43), (1, va_rf a1), (0, .ref h)] := lv_sub hl [0, 2, 3] rfl
                exact jn52 (none : Option Nat) κ44 ls _ _ _ _ hl hw hH
              · refine lv_aload hx hb dX11_lockAll_151 (lv_at hl 1 rfl) ?_
                refine lv_goto (tgt := 157) hx hb dX11_lockAll_153 rfl ?_
                have hl : lv_has ls 11 [(10, .int x43), (1, va_rf a1), (0, .ref h)] := lv_sub hl [0, 2, 3] rfl
                exact jn52 (some o19) κ44 ls _ _ _ _ hl hw hH
          · skip
            obtain ⟨K63, hK64, hw⟩ := jc_open hw
            refine cw_join (K := K63) 142 (fun (x61 : Unit) => [(9, .ref o19), (1, va_rf a1), (0, .ref h)]) (fun (x61 : Unit) => []) hl hH (fun x61 κ62 ls H locs cells slots hl hw hH => ?_) (fun jn65 => ?_)
            · have hw := hK64 x61 κ62 hw
              have hl : lv_has ls 11 [(9, .ref o19), (1, va_rf a1), (0, .ref h)] := hl
              refine lv_iconst (v := 0) hx hb dX11_lockAll_142 (by decide) ?_
              exact jn47 0 κ62 ls _ _ _ _ hl hw hH
            · skip
              refine w_lif_ne (tgt := 142) hF dX11_lockAll_127 dX11_lockAll_128 rfl hw (fun hw => ?_) (fun hw => ?_)
              · have hl : lv_has ls 11 [(9, .ref o19), (1, va_rf a1), (0, .ref h)] := lv_sub hl [0, 6, 7] rfl
                exact jn65 () κ40 ls _ _ _ _ hl hw hH
              · refine w_aloadq_n hF dX11_lockAll_131 rfl (lv_at hl 6 rfl) ?_
                refine cw_cViq (q := a1) (As := []) (rest := []) hF hH hA hE mv_X11_307 ci_X0 (by decide) hw (fun b hw sz => c_X0_last l D t G _ b  _ hw sz) dX11_lockAll_132 ⟨Nat.le_of_ble_eq_true rfl, Nat.le_of_ble_eq_true rfl⟩ rfl hl.1 (Nat.le_of_ble_eq_true rfl) rfl (fun z67 κ66 H locs cells slots hw hH => ?_)
                refine w_if_eq (tgt := 142) hF dX11_lockAll_135 rfl hw (fun hw => ?_) (fun hw => ?_)
                · have hl : lv_has ls 11 [(9, .ref o19), (1, va_rf a1), (0, .ref h)] := lv_sub hl [0, 6, 7] rfl
                  exact jn65 () κ66 ls _ _ _ _ hl hw hH
                · refine lv_iconst (v := 1) hx hb dX11_lockAll_138 (by decide) ?_
                  refine lv_goto (tgt := 143) hx hb dX11_lockAll_139 rfl ?_
                  have hl : lv_has ls 11 [(9, .ref o19), (1, va_rf a1), (0, .ref h)] := lv_sub hl [0, 6, 7] rfl
                  exact jn47 1 κ66 ls _ _ _ _ hl hw hH
      · skip
        refine w_lif_eq (tgt := 99) hF dX11_lockAll_91 dX11_lockAll_92 rfl hw (fun hw => ?_) (fun hw => ?_)
        · refine lv_iconst (v := 0) hx hb dX11_lockAll_99 (by decide) ?_
          have hl : lv_has ls 11 [(7, .long z18), (5, .int x8), (4, .int z3), (3, .int a3), (2, va_rf a2), (1, va_rf a1), (0, .ref h)] := lv_sub hl [0, 2, 3, 4, 5, 6, 7] rfl
          exact jn31 0 κ24 ls _ _ _ _ hl hw hH
        · refine lv_iconst (v := 1) hx hb dX11_lockAll_95 (by decide) ?_
          refine lv_goto (tgt := 100) hx hb dX11_lockAll_96 rfl ?_
          have hl : lv_has ls 11 [(7, .long z18), (5, .int x8), (4, .int z3), (3, .int a3), (2, va_rf a2), (1, va_rf a1), (0, .ref h)] := lv_sub hl [0, 2, 3, 4, 5, 6, 7] rfl
          exact jn31 1 κ24 ls _ _ _ _ hl hw hH
  · refine lv_ldcw (v := (-1073741670)) hx hb hF.1.2.2.2.1 (hF.1.2.2.2.2 _ (wc_16 28 rfl)) dX11_lockAll_18 ?_
    exact cw_reti hF hH ⟨rfl, rfl⟩ hr rfl hlk dX11_lockAll_21 hw

/-! the class, lifted: 5 -/
set_option maxRecDepth 100000 in
def F_X11_feed (G : GE) (h : Nat) (a1 : Int32) (a2 : Int32) (a3 : Int32) (a4 : Int32) (a5 : Int32) (post : Int32 → CS → Prop) (κ : CS) : Prop := (h ∈ sL κ.1 ∧ sK κ.1 h = 1) ∧ ∀ z1 : Option Nat, z1 = sP κ.1 h 0 → ∃ b : Nat, z1 = some b ∧ (b ∈ sL κ.1 ∧ sK κ.1 b = 2) ∧ ∀ z2 : Int32, z2 = sI κ.1 b 1 → ∀ z3 : Int32, z3 = z2 + 20 → ((z3.toInt ≤ (8000 : Int32).toInt) → (h ∈ sL κ.1 ∧ sK κ.1 h = 1) ∧ ∀ z4 : Option Nat, z4 = sP κ.1 h 0 → ∃ b : Nat, z4 = some b ∧ (b ∈ sL κ.1 ∧ sK κ.1 b = 2) ∧ F_X6_addHighestFirst G b a1 (fun (κ5 : CS) => (h ∈ sL κ5.1 ∧ sK κ5.1 h = 1) ∧ ∀ z7 : Option Nat, z7 = sP κ5.1 h 0 → ∃ b : Nat, z7 = some b ∧ (b ∈ sL κ5.1 ∧ sK κ5.1 b = 2) ∧ F_X6_addHighestFirst G b a2 (fun (κ8 : CS) => (h ∈ sL κ8.1 ∧ sK κ8.1 h = 1) ∧ ∀ z10 : Option Nat, z10 = sP κ8.1 h 0 → ∃ b : Nat, z10 = some b ∧ (b ∈ sL κ8.1 ∧ sK κ8.1 b = 2) ∧ F_X6_addHighestFirst G b a3 (fun (κ11 : CS) => (h ∈ sL κ11.1 ∧ sK κ11.1 h = 1) ∧ ∀ z13 : Option Nat, z13 = sP κ11.1 h 0 → ∃ b : Nat, z13 = some b ∧ (b ∈ sL κ11.1 ∧ sK κ11.1 b = 2) ∧ F_X6_addHighestFirst G b a4 (fun (κ14 : CS) => (h ∈ sL κ14.1 ∧ sK κ14.1 h = 1) ∧ ∀ z16 : Option Nat, z16 = sP κ14.1 h 0 → ∃ b : Nat, z16 = some b ∧ (b ∈ sL κ14.1 ∧ sK κ14.1 b = 2) ∧ F_X6_addHighestFirst G b a5 (fun (κ17 : CS) => (h ∈ sL κ17.1 ∧ sK κ17.1 h = 1) ∧ ∀ z19 : Option Nat, z19 = sP κ17.1 h 0 → ∃ b : Nat, z19 = some b ∧ (b ∈ sL κ17.1 ∧ sK κ17.1 b = 2) ∧ ∀ z20 : Int32, z20 = sI κ17.1 b 1 → post z20 κ17) κ14) κ11) κ8) κ5) κ) ∧ (((8000 : Int32).toInt < z3.toInt) → post (-1) κ)
theorem dX11_feed_0 : decode cX11_feed 0 = .ok (.aload_n 0, 1) := by decide +kernel
theorem dX11_feed_1 : decode cX11_feed 1 = .ok (.getfield 10, 3) := by decide +kernel
theorem dX11_feed_4 : decode cX11_feed 4 = .ok (.getfield 85, 3) := by decide +kernel
theorem dX11_feed_7 : decode cX11_feed 7 = .ok (.bipush 20, 2) := by decide +kernel
theorem dX11_feed_9 : decode cX11_feed 9 = .ok (.iadd, 1) := by decide +kernel
theorem dX11_feed_10 : decode cX11_feed 10 = .ok (.sipush 8000, 3) := by decide +kernel
theorem dX11_feed_13 : decode cX11_feed 13 = .ok (.if_icmp .le 5, 3) := by decide +kernel
theorem dX11_feed_16 : decode cX11_feed 16 = .ok (.iconst (-1), 1) := by decide +kernel
theorem dX11_feed_17 : decode cX11_feed 17 = .ok (.ireturn, 1) := by decide +kernel
theorem dX11_feed_18 : decode cX11_feed 18 = .ok (.aload_n 0, 1) := by decide +kernel
theorem dX11_feed_19 : decode cX11_feed 19 = .ok (.getfield 10, 3) := by decide +kernel
theorem dX11_feed_22 : decode cX11_feed 22 = .ok (.iload_n 1, 1) := by decide +kernel
theorem dX11_feed_23 : decode cX11_feed 23 = .ok (.invokevirtual 89, 3) := by decide +kernel
theorem dX11_feed_26 : decode cX11_feed 26 = .ok (.aload_n 0, 1) := by decide +kernel
theorem dX11_feed_27 : decode cX11_feed 27 = .ok (.getfield 10, 3) := by decide +kernel
theorem dX11_feed_30 : decode cX11_feed 30 = .ok (.iload_n 2, 1) := by decide +kernel
theorem dX11_feed_31 : decode cX11_feed 31 = .ok (.invokevirtual 89, 3) := by decide +kernel
theorem dX11_feed_34 : decode cX11_feed 34 = .ok (.aload_n 0, 1) := by decide +kernel
theorem dX11_feed_35 : decode cX11_feed 35 = .ok (.getfield 10, 3) := by decide +kernel
theorem dX11_feed_38 : decode cX11_feed 38 = .ok (.iload_n 3, 1) := by decide +kernel
theorem dX11_feed_39 : decode cX11_feed 39 = .ok (.invokevirtual 89, 3) := by decide +kernel
theorem dX11_feed_42 : decode cX11_feed 42 = .ok (.aload_n 0, 1) := by decide +kernel
theorem dX11_feed_43 : decode cX11_feed 43 = .ok (.getfield 10, 3) := by decide +kernel
theorem dX11_feed_46 : decode cX11_feed 46 = .ok (.iload 4, 2) := by decide +kernel
theorem dX11_feed_48 : decode cX11_feed 48 = .ok (.invokevirtual 89, 3) := by decide +kernel
theorem dX11_feed_51 : decode cX11_feed 51 = .ok (.aload_n 0, 1) := by decide +kernel
theorem dX11_feed_52 : decode cX11_feed 52 = .ok (.getfield 10, 3) := by decide +kernel
theorem dX11_feed_55 : decode cX11_feed 55 = .ok (.iload 5, 2) := by decide +kernel
theorem dX11_feed_57 : decode cX11_feed 57 = .ok (.invokevirtual 89, 3) := by decide +kernel
theorem dX11_feed_60 : decode cX11_feed 60 = .ok (.aload_n 0, 1) := by decide +kernel
theorem dX11_feed_61 : decode cX11_feed 61 = .ok (.getfield 10, 3) := by decide +kernel
theorem dX11_feed_64 : decode cX11_feed 64 = .ok (.getfield 85, 3) := by decide +kernel
theorem dX11_feed_67 : decode cX11_feed 67 = .ok (.ireturn, 1) := by decide +kernel
set_option maxRecDepth 100000 in
set_option maxHeartbeats 4000000 in
theorem c_X11_feed (l : Launch) (D : va_G) (t : Nat → ClassId) (G : GE) (κ : CS) (h : Nat) (a1 : Int32) (a2 : Int32) (a3 : Int32) (a4 : Int32) (a5 : Int32) (post : Int32 → CS → Prop) (hw : F_X11_feed G h a1 a2 a3 a4 a5 post κ) (sz : Nat) : CMi l D t yX11_feed cX11_feed 6 (some .int) 4 104 G κ sz [.ref h, .int a1, .int a2, .int a3, .int a4, .int a5] post := by
  refine c_go (by decide) (Nat.le_of_ble_eq_true rfl) ?_
  intro p e s m below meth c ls A hF hr hlk hin hAe hH hA hE hl
  unfold cB
  rw [hAe]
  clear hAe
  have hF : FX p m c cX11_feed 6 s _ RX11 D t := hF
  have hx := hF.1.1
  have hb := hF.1.2.1
  have hl : lv_has ls 6 [(0, .ref h), (1, .int a1), (2, .int a2), (3, .int a3), (4, .int a4), (5, .int a5)] := hl
  unfold F_X11_feed at hw
  refine lv_aload_n hx hb dX11_feed_0 rfl (lv_at hl 0 rfl) ?_
  refine cw_getPr (a := h) hF hH fk_X11_10 dX11_feed_1 hw (fun z1 hw => ?_)
  refine cw_getI (q := z1) hF hH fk_X11_85 dX11_feed_4 hw (fun z2 hw => ?_)
  refine lv_bipush (v := 20) hx hb dX11_feed_7 (by decide) ?_
  refine lv_iadd hx hb dX11_feed_9 ?_
  refine w_nmi hw (fun z3 hw => ?_)
  refine lv_sipush (v := 8000) hx hb dX11_feed_10 (by decide) ?_
  refine w_icmp_le (tgt := 18) hF dX11_feed_13 rfl hw (fun hw => ?_) (fun hw => ?_)
  · refine lv_aload_n hx hb dX11_feed_18 rfl (lv_at hl 0 rfl) ?_
    refine cw_getPr (a := h) hF hH fk_X11_10 dX11_feed_19 hw (fun z4 hw => ?_)
    refine lv_iload_n hx hb dX11_feed_22 rfl (lv_at hl 1 rfl) ?_
    refine cw_cVvq (q := z4) (As := [.int a1]) (rest := []) hF hH hA hE mv_X11_89 ci_X6 (by decide) hw (fun b hw sz => c_X6_addHighestFirst l D t G _ b a1 _ hw sz) dX11_feed_23 ⟨Nat.le_of_ble_eq_true rfl, Nat.le_of_ble_eq_true rfl⟩ rfl hl.1 (Nat.le_of_ble_eq_true rfl) rfl (fun κ5 H locs cells slots hw hH => ?_)
    refine lv_aload_n hx hb dX11_feed_26 rfl (lv_at hl 0 rfl) ?_
    refine cw_getPr (a := h) hF hH fk_X11_10 dX11_feed_27 hw (fun z7 hw => ?_)
    refine lv_iload_n hx hb dX11_feed_30 rfl (lv_at hl 2 rfl) ?_
    refine cw_cVvq (q := z7) (As := [.int a2]) (rest := []) hF hH hA hE mv_X11_89 ci_X6 (by decide) hw (fun b hw sz => c_X6_addHighestFirst l D t G _ b a2 _ hw sz) dX11_feed_31 ⟨Nat.le_of_ble_eq_true rfl, Nat.le_of_ble_eq_true rfl⟩ rfl hl.1 (Nat.le_of_ble_eq_true rfl) rfl (fun κ8 H locs cells slots hw hH => ?_)
    refine lv_aload_n hx hb dX11_feed_34 rfl (lv_at hl 0 rfl) ?_
    refine cw_getPr (a := h) hF hH fk_X11_10 dX11_feed_35 hw (fun z10 hw => ?_)
    refine lv_iload_n hx hb dX11_feed_38 rfl (lv_at hl 3 rfl) ?_
    refine cw_cVvq (q := z10) (As := [.int a3]) (rest := []) hF hH hA hE mv_X11_89 ci_X6 (by decide) hw (fun b hw sz => c_X6_addHighestFirst l D t G _ b a3 _ hw sz) dX11_feed_39 ⟨Nat.le_of_ble_eq_true rfl, Nat.le_of_ble_eq_true rfl⟩ rfl hl.1 (Nat.le_of_ble_eq_true rfl) rfl (fun κ11 H locs cells slots hw hH => ?_)
    refine lv_aload_n hx hb dX11_feed_42 rfl (lv_at hl 0 rfl) ?_
    refine cw_getPr (a := h) hF hH fk_X11_10 dX11_feed_43 hw (fun z13 hw => ?_)
    refine lv_iload hx hb dX11_feed_46 (lv_at hl 4 rfl) ?_
    refine cw_cVvq (q := z13) (As := [.int a4]) (rest := []) hF hH hA hE mv_X11_89 ci_X6 (by decide) hw (fun b hw sz => c_X6_addHighestFirst l D t G _ b a4 _ hw sz) dX11_feed_48 ⟨Nat.le_of_ble_eq_true rfl, Nat.le_of_ble_eq_true rfl⟩ rfl hl.1 (Nat.le_of_ble_eq_true rfl) rfl (fun κ14 H locs cells slots hw hH => ?_)
    refine lv_aload_n hx hb dX11_feed_51 rfl (lv_at hl 0 rfl) ?_
    refine cw_getPr (a := h) hF hH fk_X11_10 dX11_feed_52 hw (fun z16 hw => ?_)
    refine lv_iload hx hb dX11_feed_55 (lv_at hl 5 rfl) ?_
    refine cw_cVvq (q := z16) (As := [.int a5]) (rest := []) hF hH hA hE mv_X11_89 ci_X6 (by decide) hw (fun b hw sz => c_X6_addHighestFirst l D t G _ b a5 _ hw sz) dX11_feed_57 ⟨Nat.le_of_ble_eq_true rfl, Nat.le_of_ble_eq_true rfl⟩ rfl hl.1 (Nat.le_of_ble_eq_true rfl) rfl (fun κ17 H locs cells slots hw hH => ?_)
    refine lv_aload_n hx hb dX11_feed_60 rfl (lv_at hl 0 rfl) ?_
    refine cw_getPr (a := h) hF hH fk_X11_10 dX11_feed_61 hw (fun z19 hw => ?_)
    refine cw_getI (q := z19) hF hH fk_X11_85 dX11_feed_64 hw (fun z20 hw => ?_)
    exact cw_reti hF hH ⟨rfl, rfl⟩ hr rfl hlk dX11_feed_67 hw
  · refine lv_iconst (v := (-1)) hx hb dX11_feed_16 (by decide) ?_
    exact cw_reti hF hH ⟨rfl, rfl⟩ hr rfl hlk dX11_feed_17 hw
set_option maxRecDepth 100000 in
def F_X11_cut (G : GE) (h : Nat) (a1 : Int32) (post : Int32 → CS → Prop) (κ : CS) : Prop := jc (fun (K3 : Unit → CS → Prop) => ((a1.toInt < 0) → K3 () κ) ∧ ((0 ≤ a1.toInt) → (h ∈ sL κ.1 ∧ sK κ.1 h = 1) ∧ ∀ z6 : Option Nat, z6 = sP κ.1 h 0 → ∃ b : Nat, z6 = some b ∧ (b ∈ sL κ.1 ∧ sK κ.1 b = 2) ∧ ∀ z7 : Int32, z7 = sI κ.1 b 1 → ((a1.toInt ≤ z7.toInt) → (h ∈ sL κ.1 ∧ sK κ.1 h = 1) ∧ ∀ z8 : Option Nat, z8 = sP κ.1 h 0 → ∃ b : Nat, z8 = some b ∧ (b ∈ sL κ.1 ∧ sK κ.1 b = 2) ∧ ∀ z9 : Int32, z9 = sI κ.1 b 1 → ∀ z10 : Int32, z10 = z9 - a1 → (h ∈ sL κ.1 ∧ sK κ.1 h = 1) ∧ ∀ z11 : Option Nat, z11 = sP κ.1 h 0 → ∃ b : Nat, z11 = some b ∧ (b ∈ sL κ.1 ∧ sK κ.1 b = 2) ∧ ∀ κ12 : CS, κ12 = (h_uI κ.1 b 1 a1, κ.2) → post z10 κ12) ∧ ((z7.toInt < a1.toInt) → K3 () κ))) (fun (x1 : Unit) (κ2 : CS) => post (-1) κ2)
theorem dX11_cut_0 : decode cX11_cut 0 = .ok (.iload_n 1, 1) := by decide +kernel
theorem dX11_cut_1 : decode cX11_cut 1 = .ok (.ifCond .lt 14, 3) := by decide +kernel
theorem dX11_cut_4 : decode cX11_cut 4 = .ok (.iload_n 1, 1) := by decide +kernel
theorem dX11_cut_5 : decode cX11_cut 5 = .ok (.aload_n 0, 1) := by decide +kernel
theorem dX11_cut_6 : decode cX11_cut 6 = .ok (.getfield 10, 3) := by decide +kernel
theorem dX11_cut_9 : decode cX11_cut 9 = .ok (.getfield 85, 3) := by decide +kernel
theorem dX11_cut_12 : decode cX11_cut 12 = .ok (.if_icmp .le 5, 3) := by decide +kernel
theorem dX11_cut_15 : decode cX11_cut 15 = .ok (.iconst (-1), 1) := by decide +kernel
theorem dX11_cut_16 : decode cX11_cut 16 = .ok (.ireturn, 1) := by decide +kernel
theorem dX11_cut_17 : decode cX11_cut 17 = .ok (.aload_n 0, 1) := by decide +kernel
theorem dX11_cut_18 : decode cX11_cut 18 = .ok (.getfield 10, 3) := by decide +kernel
theorem dX11_cut_21 : decode cX11_cut 21 = .ok (.getfield 85, 3) := by decide +kernel
theorem dX11_cut_24 : decode cX11_cut 24 = .ok (.iload_n 1, 1) := by decide +kernel
theorem dX11_cut_25 : decode cX11_cut 25 = .ok (.isub, 1) := by decide +kernel
theorem dX11_cut_26 : decode cX11_cut 26 = .ok (.istore_n 2, 1) := by decide +kernel
theorem dX11_cut_27 : decode cX11_cut 27 = .ok (.aload_n 0, 1) := by decide +kernel
theorem dX11_cut_28 : decode cX11_cut 28 = .ok (.getfield 10, 3) := by decide +kernel
theorem dX11_cut_31 : decode cX11_cut 31 = .ok (.iload_n 1, 1) := by decide +kernel
theorem dX11_cut_32 : decode cX11_cut 32 = .ok (.putfield 85, 3) := by decide +kernel
theorem dX11_cut_35 : decode cX11_cut 35 = .ok (.iload_n 2, 1) := by decide +kernel
theorem dX11_cut_36 : decode cX11_cut 36 = .ok (.ireturn, 1) := by decide +kernel
set_option maxRecDepth 100000 in
set_option maxHeartbeats 4000000 in
theorem c_X11_cut (l : Launch) (D : va_G) (t : Nat → ClassId) (G : GE) (κ : CS) (h : Nat) (a1 : Int32) (post : Int32 → CS → Prop) (hw : F_X11_cut G h a1 post κ) (sz : Nat) : CMi l D t yX11_cut cX11_cut 3 (some .int) 0 14 G κ sz [.ref h, .int a1] post := by
  refine c_go (by decide) (Nat.le_of_ble_eq_true rfl) ?_
  intro p e s m below meth c ls A hF hr hlk hin hAe hH hA hE hl
  unfold cB
  rw [hAe]
  clear hAe
  have hF : FX p m c cX11_cut 3 s _ RX11 D t := hF
  have hx := hF.1.1
  have hb := hF.1.2.1
  have hl : lv_has ls 3 [(0, .ref h), (1, .int a1)] := hl
  unfold F_X11_cut at hw
  refine lv_iload_n hx hb dX11_cut_0 rfl (lv_at hl 1 rfl) ?_
  obtain ⟨K3, hK4, hw⟩ := jc_open hw
  refine cw_join (K := K3) 15 (fun (x1 : Unit) => []) (fun (x1 : Unit) => []) hl hH (fun x1 κ2 ls H locs cells slots hl hw hH => ?_) (fun jn5 => ?_)
  · have hw := hK4 x1 κ2 hw
    have hl : lv_has ls 3 [] := hl
    refine lv_iconst (v := (-1)) hx hb dX11_cut_15 (by decide) ?_
    exact cw_reti hF hH ⟨rfl, rfl⟩ hr rfl hlk dX11_cut_16 hw
  · skip
    refine w_if_lt (tgt := 15) hF dX11_cut_1 rfl hw (fun hw => ?_) (fun hw => ?_)
    · have hl : lv_has ls 3 [] := lv_sub hl [] rfl
      exact jn5 () κ ls _ _ _ _ hl hw hH
    · refine lv_iload_n hx hb dX11_cut_4 rfl (lv_at hl 1 rfl) ?_
      refine lv_aload_n hx hb dX11_cut_5 rfl (lv_at hl 0 rfl) ?_
      refine cw_getPr (a := h) hF hH fk_X11_10 dX11_cut_6 hw (fun z6 hw => ?_)
      refine cw_getI (q := z6) hF hH fk_X11_85 dX11_cut_9 hw (fun z7 hw => ?_)
      refine w_icmp_le (tgt := 17) hF dX11_cut_12 rfl hw (fun hw => ?_) (fun hw => ?_)
      · refine lv_aload_n hx hb dX11_cut_17 rfl (lv_at hl 0 rfl) ?_
        refine cw_getPr (a := h) hF hH fk_X11_10 dX11_cut_18 hw (fun z8 hw => ?_)
        refine cw_getI (q := z8) hF hH fk_X11_85 dX11_cut_21 hw (fun z9 hw => ?_)
        refine lv_iload_n hx hb dX11_cut_24 rfl (lv_at hl 1 rfl) ?_
        refine lv_isub hx hb dX11_cut_25 ?_
        refine w_nmi hw (fun z10 hw => ?_)
        refine lv_istore_n (lv' := [(2, .int z10), (0, .ref h), (1, .int a1)]) hx hb dX11_cut_26 rfl hl (by decide) rfl (fun ls hl => ?_)
        refine lv_aload_n hx hb dX11_cut_27 rfl (lv_at hl 1 rfl) ?_
        refine cw_getPr (a := h) hF hH fk_X11_10 dX11_cut_28 hw (fun z11 hw => ?_)
        refine lv_iload_n hx hb dX11_cut_31 rfl (lv_at hl 2 rfl) ?_
        refine cw_putI (q := z11) (v := a1) hF hH fk_X11_85 dX11_cut_32 rfl rfl rfl hw (fun κ12 H locs cells slots hw hH => ?_)
        refine lv_iload_n hx hb dX11_cut_35 rfl (lv_at hl 0 rfl) ?_
        exact cw_reti hF hH ⟨rfl, rfl⟩ hr rfl hlk dX11_cut_36 hw
      · have hl : lv_has ls 3 [] := lv_sub hl [] rfl
        exact jn5 () κ ls _ _ _ _ hl hw hH
set_option maxRecDepth 100000 in
def F_X11_tapeIsShareName (G : GE) (h : Nat) (post : Int32 → CS → Prop) (κ : CS) : Prop := (h ∈ sL κ.1 ∧ sK κ.1 h = 1) ∧ ∀ z1 : Option Nat, z1 = sP κ.1 h 0 → ∃ b : Nat, z1 = some b ∧ (b ∈ sL κ.1 ∧ sK κ.1 b = 2) ∧ ∀ z2 : Int32, z2 = sI κ.1 b 1 → jc (fun (K5 : Unit → CS → Prop) => ((z2.toInt < (1 : Int32).toInt) → K5 () κ) ∧ (((1 : Int32).toInt ≤ z2.toInt) → (h ∈ sL κ.1 ∧ sK κ.1 h = 1) ∧ ∀ z8 : Option Nat, z8 = sP κ.1 h 0 → ∃ b : Nat, z8 = some b ∧ (b ∈ sL κ.1 ∧ sK κ.1 b = 2) ∧ ∀ z9 : Int32, z9 = sI κ.1 b 1 → ((z9.toInt ≤ (12 : Int32).toInt) → lc (fun (K12 : Int32 → CS → Prop) (x10 : Int32) (κ11 : CS) => (h ∈ sL κ11.1 ∧ sK κ11.1 h = 1) ∧ ∀ z14 : Option Nat, z14 = sP κ11.1 h 0 → ∃ b : Nat, z14 = some b ∧ (b ∈ sL κ11.1 ∧ sK κ11.1 b = 2) ∧ ∀ z15 : Int32, z15 = sI κ11.1 b 1 → ((z15.toInt ≤ x10.toInt) → (0 ≤ (1 : Int32).toInt ∧ (1 : Int32).toInt ≤ 1) ∧ post 1 κ11) ∧ ((x10.toInt < z15.toInt) → (h ∈ sL κ11.1 ∧ sK κ11.1 h = 1) ∧ ∀ z16 : Option Nat, z16 = sP κ11.1 h 0 → ∃ b : Nat, z16 = some b ∧ (b ∈ sL κ11.1 ∧ sK κ11.1 b = 2) ∧ F_X6_number G b x10 1 (fun (z18 : Int64) (κ17 : CS) => jc (fun (K21 : Unit → CS → Prop) => ((z18.toInt < (33 : Int64).toInt) → K21 () κ17) ∧ (((33 : Int64).toInt ≤ z18.toInt) → (((126 : Int64).toInt < z18.toInt) → K21 () κ17) ∧ ((z18.toInt ≤ (126 : Int64).toInt) → ((¬ z18.toInt = (92 : Int64).toInt) → ∀ z24 : Int32, z24 = x10 + 1 → K12 z24 κ17) ∧ ((z18.toInt = (92 : Int64).toInt) → K21 () κ17)))) (fun (x19 : Unit) (κ20 : CS) => (0 ≤ (0 : Int32).toInt ∧ (0 : Int32).toInt ≤ 1) ∧ post 0 κ20)) κ11)) 0 κ) ∧ (((12 : Int32).toInt < z9.toInt) → K5 () κ))) (fun (x3 : Unit) (κ4 : CS) => (0 ≤ (0 : Int32).toInt ∧ (0 : Int32).toInt ≤ 1) ∧ post 0 κ4)
theorem dX11_tapeIsShareName_0 : decode cX11_tapeIsShareName 0 = .ok (.aload_n 0, 1) := by decide +kernel
theorem dX11_tapeIsShareName_1 : decode cX11_tapeIsShareName 1 = .ok (.getfield 10, 3) := by decide +kernel
theorem dX11_tapeIsShareName_4 : decode cX11_tapeIsShareName 4 = .ok (.getfield 85, 3) := by decide +kernel
theorem dX11_tapeIsShareName_7 : decode cX11_tapeIsShareName 7 = .ok (.iconst 1, 1) := by decide +kernel
theorem dX11_tapeIsShareName_8 : decode cX11_tapeIsShareName 8 = .ok (.if_icmp .lt 15, 3) := by decide +kernel
theorem dX11_tapeIsShareName_11 : decode cX11_tapeIsShareName 11 = .ok (.aload_n 0, 1) := by decide +kernel
theorem dX11_tapeIsShareName_12 : decode cX11_tapeIsShareName 12 = .ok (.getfield 10, 3) := by decide +kernel
theorem dX11_tapeIsShareName_15 : decode cX11_tapeIsShareName 15 = .ok (.getfield 85, 3) := by decide +kernel
theorem dX11_tapeIsShareName_18 : decode cX11_tapeIsShareName 18 = .ok (.bipush 12, 2) := by decide +kernel
theorem dX11_tapeIsShareName_20 : decode cX11_tapeIsShareName 20 = .ok (.if_icmp .le 5, 3) := by decide +kernel
theorem dX11_tapeIsShareName_23 : decode cX11_tapeIsShareName 23 = .ok (.iconst 0, 1) := by decide +kernel
theorem dX11_tapeIsShareName_24 : decode cX11_tapeIsShareName 24 = .ok (.ireturn, 1) := by decide +kernel
theorem dX11_tapeIsShareName_25 : decode cX11_tapeIsShareName 25 = .ok (.iconst 0, 1) := by decide +kernel
theorem dX11_tapeIsShareName_26 : decode cX11_tapeIsShareName 26 = .ok (.istore_n 1, 1) := by decide +kernel
theorem dX11_tapeIsShareName_27 : decode cX11_tapeIsShareName 27 = .ok (.iload_n 1, 1) := by decide +kernel
theorem dX11_tapeIsShareName_28 : decode cX11_tapeIsShareName 28 = .ok (.aload_n 0, 1) := by decide +kernel
theorem dX11_tapeIsShareName_29 : decode cX11_tapeIsShareName 29 = .ok (.getfield 10, 3) := by decide +kernel
theorem dX11_tapeIsShareName_32 : decode cX11_tapeIsShareName 32 = .ok (.getfield 85, 3) := by decide +kernel
theorem dX11_tapeIsShareName_35 : decode cX11_tapeIsShareName 35 = .ok (.if_icmp .ge 45, 3) := by decide +kernel
theorem dX11_tapeIsShareName_38 : decode cX11_tapeIsShareName 38 = .ok (.aload_n 0, 1) := by decide +kernel
theorem dX11_tapeIsShareName_39 : decode cX11_tapeIsShareName 39 = .ok (.getfield 10, 3) := by decide +kernel
theorem dX11_tapeIsShareName_42 : decode cX11_tapeIsShareName 42 = .ok (.iload_n 1, 1) := by decide +kernel
theorem dX11_tapeIsShareName_43 : decode cX11_tapeIsShareName 43 = .ok (.iconst 1, 1) := by decide +kernel
theorem dX11_tapeIsShareName_44 : decode cX11_tapeIsShareName 44 = .ok (.invokevirtual 204, 3) := by decide +kernel
theorem dX11_tapeIsShareName_47 : decode cX11_tapeIsShareName 47 = .ok (.lstore_n 2, 1) := by decide +kernel
theorem dX11_tapeIsShareName_48 : decode cX11_tapeIsShareName 48 = .ok (.lload_n 2, 1) := by decide +kernel
theorem dX11_tapeIsShareName_49 : decode cX11_tapeIsShareName 49 = .ok (.ldc2_w 208, 3) := by decide +kernel
theorem dX11_tapeIsShareName_52 : decode cX11_tapeIsShareName 52 = .ok (.lcmp, 1) := by decide +kernel
theorem dX11_tapeIsShareName_53 : decode cX11_tapeIsShareName 53 = .ok (.ifCond .lt 19, 3) := by decide +kernel
theorem dX11_tapeIsShareName_56 : decode cX11_tapeIsShareName 56 = .ok (.lload_n 2, 1) := by decide +kernel
theorem dX11_tapeIsShareName_57 : decode cX11_tapeIsShareName 57 = .ok (.ldc2_w 210, 3) := by decide +kernel
theorem dX11_tapeIsShareName_60 : decode cX11_tapeIsShareName 60 = .ok (.lcmp, 1) := by decide +kernel
theorem dX11_tapeIsShareName_61 : decode cX11_tapeIsShareName 61 = .ok (.ifCond .gt 11, 3) := by decide +kernel
theorem dX11_tapeIsShareName_64 : decode cX11_tapeIsShareName 64 = .ok (.lload_n 2, 1) := by decide +kernel
theorem dX11_tapeIsShareName_65 : decode cX11_tapeIsShareName 65 = .ok (.ldc2_w 212, 3) := by decide +kernel
theorem dX11_tapeIsShareName_68 : decode cX11_tapeIsShareName 68 = .ok (.lcmp, 1) := by decide +kernel
theorem dX11_tapeIsShareName_69 : decode cX11_tapeIsShareName 69 = .ok (.ifCond .ne 5, 3) := by decide +kernel
theorem dX11_tapeIsShareName_72 : decode cX11_tapeIsShareName 72 = .ok (.iconst 0, 1) := by decide +kernel
theorem dX11_tapeIsShareName_73 : decode cX11_tapeIsShareName 73 = .ok (.ireturn, 1) := by decide +kernel
theorem dX11_tapeIsShareName_74 : decode cX11_tapeIsShareName 74 = .ok (.iinc 1 1, 3) := by decide +kernel
theorem dX11_tapeIsShareName_77 : decode cX11_tapeIsShareName 77 = .ok (.goto (-50), 3) := by decide +kernel
theorem dX11_tapeIsShareName_80 : decode cX11_tapeIsShareName 80 = .ok (.iconst 1, 1) := by decide +kernel
theorem dX11_tapeIsShareName_81 : decode cX11_tapeIsShareName 81 = .ok (.ireturn, 1) := by decide +kernel
set_option maxRecDepth 100000 in
set_option maxHeartbeats 4000000 in
theorem c_X11_tapeIsShareName (l : Launch) (D : va_G) (t : Nat → ClassId) (G : GE) (κ : CS) (h : Nat) (post : Int32 → CS → Prop) (hw : F_X11_tapeIsShareName G h post κ) (sz : Nat) : CMi l D t yX11_tapeIsShareName cX11_tapeIsShareName 4 (some .boolean) 1 40 G κ sz [.ref h] post := by
  refine c_go (by decide) (Nat.le_of_ble_eq_true rfl) ?_
  intro p e s m below meth c ls A hF hr hlk hin hAe hH hA hE hl
  unfold cB
  rw [hAe]
  clear hAe
  have hF : FX p m c cX11_tapeIsShareName 4 s _ RX11 D t := hF
  have hx := hF.1.1
  have hb := hF.1.2.1
  have hl : lv_has ls 4 [(0, .ref h)] := hl
  unfold F_X11_tapeIsShareName at hw
  refine lv_aload_n hx hb dX11_tapeIsShareName_0 rfl (lv_at hl 0 rfl) ?_
  refine cw_getPr (a := h) hF hH fk_X11_10 dX11_tapeIsShareName_1 hw (fun z1 hw => ?_)
  refine cw_getI (q := z1) hF hH fk_X11_85 dX11_tapeIsShareName_4 hw (fun z2 hw => ?_)
  refine lv_iconst (v := 1) hx hb dX11_tapeIsShareName_7 (by decide) ?_
  obtain ⟨K5, hK6, hw⟩ := jc_open hw
  refine cw_join (K := K5) 23 (fun (x3 : Unit) => []) (fun (x3 : Unit) => []) hl hH (fun x3 κ4 ls H locs cells slots hl hw hH => ?_) (fun jn7 => ?_)
  · have hw := hK6 x3 κ4 hw
    have hl : lv_has ls 4 [] := hl
    refine lv_iconst (v := 0) hx hb dX11_tapeIsShareName_23 (by decide) ?_
    exact cw_retz hF hH ⟨rfl, rfl⟩ hr hlk dX11_tapeIsShareName_24 hw
  · skip
    refine w_icmp_lt (tgt := 23) hF dX11_tapeIsShareName_8 rfl hw (fun hw => ?_) (fun hw => ?_)
    · have hl : lv_has ls 4 [] := lv_sub hl [] rfl
      exact jn7 () κ ls _ _ _ _ hl hw hH
    · refine lv_aload_n hx hb dX11_tapeIsShareName_11 rfl (lv_at hl 0 rfl) ?_
      refine cw_getPr (a := h) hF hH fk_X11_10 dX11_tapeIsShareName_12 hw (fun z8 hw => ?_)
      refine cw_getI (q := z8) hF hH fk_X11_85 dX11_tapeIsShareName_15 hw (fun z9 hw => ?_)
      refine lv_bipush (v := 12) hx hb dX11_tapeIsShareName_18 (by decide) ?_
      refine w_icmp_le (tgt := 25) hF dX11_tapeIsShareName_20 rfl hw (fun hw => ?_) (fun hw => ?_)
      · refine lv_iconst (v := 0) hx hb dX11_tapeIsShareName_25 (by decide) ?_
        refine lv_istore_n (lv' := [(1, .int 0), (0, .ref h)]) hx hb dX11_tapeIsShareName_26 rfl hl (by decide) rfl (fun ls hl => ?_)
        refine cw_loop (β := Int32) (fun x10 => [(1, .int x10), (0, .ref h)]) 0 hl hw hH (fun K12 x10 κ11 ls H locs cells slots hl hw hH ih13 => ?_)
        have hl : lv_has ls 4 [(1, .int x10), (0, .ref h)] := hl
        refine lv_iload_n hx hb dX11_tapeIsShareName_27 rfl (lv_at hl 0 rfl) ?_
        refine lv_aload_n hx hb dX11_tapeIsShareName_28 rfl (lv_at hl 1 rfl) ?_
        refine cw_getPr (a := h) hF hH fk_X11_10 dX11_tapeIsShareName_29 hw (fun z14 hw => ?_)
        refine cw_getI (q := z14) hF hH fk_X11_85 dX11_tapeIsShareName_32 hw (fun z15 hw => ?_)
        refine w_icmp_ge (tgt := 80) hF dX11_tapeIsShareName_35 rfl hw (fun hw => ?_) (fun hw => ?_)
        · refine lv_iconst (v := 1) hx hb dX11_tapeIsShareName_80 (by decide) ?_
          exact cw_retz hF hH ⟨rfl, rfl⟩ hr hlk dX11_tapeIsShareName_81 hw
        · refine lv_aload_n hx hb dX11_tapeIsShareName_38 rfl (lv_at hl 1 rfl) ?_
          refine cw_getPr (a := h) hF hH fk_X11_10 dX11_tapeIsShareName_39 hw (fun z16 hw => ?_)
          refine lv_iload_n hx hb dX11_tapeIsShareName_42 rfl (lv_at hl 0 rfl) ?_
          refine lv_iconst (v := 1) hx hb dX11_tapeIsShareName_43 (by decide) ?_
          refine cw_cVlq (q := z16) (As := [.int x10, .int 1]) (rest := []) hF hH hA hE mv_X11_204 ci_X6 (by decide) hw (fun b hw sz => c_X6_number l D t G _ b x10 1 _ hw sz) dX11_tapeIsShareName_44 ⟨Nat.le_of_ble_eq_true rfl, Nat.le_of_ble_eq_true rfl⟩ rfl hl.1 (Nat.le_of_ble_eq_true rfl) rfl (fun z18 κ17 H locs cells slots hw hH => ?_)
          refine lv_lstore_n (lv' := [(2, .long z18), (1, .int x10), (0, .ref h)]) hx hb dX11_tapeIsShareName_47 rfl hl (by decide) rfl (fun ls hl => ?_)
          refine lv_lload_n hx hb dX11_tapeIsShareName_48 rfl (lv_at hl 0 rfl) ?_
          refine lv_ldc2 (v := 33) hx hb hF.1.2.2.2.1 (hF.1.2.2.2.2 _ (wc_12 24 rfl)) dX11_tapeIsShareName_49 ?_
          obtain ⟨K21, hK22, hw⟩ := jc_open hw
          refine cw_join (K := K21) 72 (fun (x19 : Unit) => []) (fun (x19 : Unit) => []) hl hH (fun x19 κ20 ls H locs cells slots hl hw hH => ?_) (fun jn23 => ?_)
          · have hw := hK22 x19 κ20 hw
            have hl : lv_has ls 4 [] := hl
            refine lv_iconst (v := 0) hx hb dX11_tapeIsShareName_72 (by decide) ?_
            exact cw_retz hF hH ⟨rfl, rfl⟩ hr hlk dX11_tapeIsShareName_73 hw
          · skip
            refine w_lif_lt (tgt := 72) hF dX11_tapeIsShareName_52 dX11_tapeIsShareName_53 rfl hw (fun hw => ?_) (fun hw => ?_)
            · have hl : lv_has ls 4 [] := lv_sub hl [] rfl
              exact jn23 () κ17 ls _ _ _ _ hl hw hH
            · refine lv_lload_n hx hb dX11_tapeIsShareName_56 rfl (lv_at hl 0 rfl) ?_
              refine lv_ldc2 (v := 126) hx hb hF.1.2.2.2.1 (hF.1.2.2.2.2 _ (wc_12 25 rfl)) dX11_tapeIsShareName_57 ?_
              refine w_lif_gt (tgt := 72) hF dX11_tapeIsShareName_60 dX11_tapeIsShareName_61 rfl hw (fun hw => ?_) (fun hw => ?_)
              · have hl : lv_has ls 4 [] := lv_sub hl [] rfl
                exact jn23 () κ17 ls _ _ _ _ hl hw hH
              · refine lv_lload_n hx hb dX11_tapeIsShareName_64 rfl (lv_at hl 0 rfl) ?_
                refine lv_ldc2 (v := 92) hx hb hF.1.2.2.2.1 (hF.1.2.2.2.2 _ (wc_12 26 rfl)) dX11_tapeIsShareName_65 ?_
                refine w_lif_ne (tgt := 74) hF dX11_tapeIsShareName_68 dX11_tapeIsShareName_69 rfl hw (fun hw => ?_) (fun hw => ?_)
                · obtain ⟨z24, ez24⟩ : ∃ z : Int32, z = x10 + 1 := ⟨_, rfl⟩
                  have hw := hw z24 ez24
                  refine lv_iinc (lv' := [(1, .int z24), (2, .long z18), (0, .ref h)]) (k := 1) (v := z24) hx hb dX11_tapeIsShareName_74 hl rfl ez24.symm (by decide) rfl (fun ls hl => ?_)
                  refine lv_goto (tgt := 27) hx hb dX11_tapeIsShareName_77 rfl ?_
                  have hl : lv_has ls 4 [(1, .int z24), (0, .ref h)] := lv_sub hl [0, 2] rfl
                  exact ih13 z24 κ17 ls _ _ _ _ hl hw hH
                · have hl : lv_has ls 4 [] := lv_sub hl [] rfl
                  exact jn23 () κ17 ls _ _ _ _ hl hw hH
      · have hl : lv_has ls 4 [] := lv_sub hl [] rfl
        exact jn7 () κ ls _ _ _ _ hl hw hH
set_option maxRecDepth 100000 in
def F_X11_rootNamed (G : GE) (h : Nat) (a1 : Option Nat) (a2 : Int32) (a3 : Int32) (a4 : Int32) (post : Option Nat → CS → Prop) (κ : CS) : Prop := lc (fun (K3 : Int32 → CS → Prop) (x1 : Int32) (κ2 : CS) => (h ∈ sL κ2.1 ∧ sK κ2.1 h = 1) ∧ ∀ z5 : Option Nat, z5 = sP κ2.1 h 2 → ∃ n : Nat, AL G κ2 z5 n ∧ ∀ z6 : Int32, z6 = nI n → ((z6.toInt ≤ x1.toInt) → post (none : Option Nat) κ2) ∧ ((x1.toInt < z6.toInt) → (h ∈ sL κ2.1 ∧ sK κ2.1 h = 1) ∧ ∀ z7 : Option Nat, z7 = sP κ2.1 h 3 → (h ∈ sL κ2.1 ∧ sK κ2.1 h = 1) ∧ ∀ z8 : Option Nat, z8 = sP κ2.1 h 2 → ∃ b : Nat, z8 = some b ∧ (b ∈ sL κ2.1 ∧ sK κ2.1 b = 21) ∧ (0 ≤ x1.toInt ∧ x1.toInt < (sN κ2.1 b : Int)) ∧ ∀ z9 : Int32, z9 = sI κ2.1 b x1.toInt.toNat → ∃ b : Nat, z7 = some b ∧ (b ∈ sL κ2.1 ∧ sK κ2.1 b = 6) ∧ F_X9_node G b z9 (fun (z11 : Option Nat) (κ10 : CS) => jc (fun (K14 : Unit → CS → Prop) => ((z11 = none) → K14 () κ10) ∧ ((¬ z11 = none) → ∃ b : Nat, z11 = some b ∧ (b ∈ sL κ10.1 ∧ sK κ10.1 b = 5) ∧ ∀ z18 : Int32, z18 = sI κ10.1 b 6 → ((¬ z18.toInt = a4.toInt) → K14 () κ10) ∧ ((z18.toInt = a4.toInt) → lc (fun (K21 : (Int32 × Int32) → CS → Prop) (x19 : Int32 × Int32) (κ20 : CS) => jc (fun (K25 : Unit → CS → Prop) => ((a4.toInt ≤ x19.1.toInt) → K25 () κ20) ∧ ((x19.1.toInt < a4.toInt) → ∃ b : Nat, z11 = some b ∧ (b ∈ sL κ20.1 ∧ sK κ20.1 b = 5) ∧ ∀ z28 : Option Nat, z28 = sP κ20.1 b 5 → ∃ n : Nat, AL G κ20 z28 n ∧ ∀ z29 : Int32, z29 = nI n → ((z29.toInt ≤ x19.1.toInt) → K25 () κ20) ∧ ((x19.1.toInt < z29.toInt) → jc (fun (K32 : Int32 → CS → Prop) => jc (fun (K38 : Unit → CS → Prop) => ((x19.2.toInt = 0) → K38 () κ20) ∧ ((¬ x19.2.toInt = 0) → ∀ z41 : Int32, z41 = x19.1 * a3 → ∀ z42 : Int32, z42 = a2 + z41 → ∃ b : Nat, a1 = some b ∧ (b ∈ sL κ20.1 ∧ sK κ20.1 b = 2) ∧ F_X6_number G b z42 a3 (fun (z44 : Int64) (κ43 : CS) => ∀ z45 : Int32, z45 = (z44 : Int64).toInt32 → F_X11_upper G z45 (fun (z47 : Int32) (κ46 : CS) => ∃ b : Nat, z11 = some b ∧ (b ∈ sL κ46.1 ∧ sK κ46.1 b = 5) ∧ ∀ z48 : Option Nat, z48 = sP κ46.1 b 5 → ∃ (f : Nat → Int32) (n : Nat), BA G κ46 z48 f n ∧ (0 ≤ x19.1.toInt ∧ x19.1.toInt < (n : Int)) ∧ ∀ z49 : Int32, z49 = f x19.1.toInt.toNat → F_X11_upper G z49 (fun (z51 : Int32) (κ50 : CS) => ((¬ z47.toInt = z51.toInt) → K38 () κ50) ∧ ((z47.toInt = z51.toInt) → K32 1 κ50)) κ46) κ43) κ20)) (fun (x36 : Unit) (κ37 : CS) => K32 0 κ37)) (fun (x30 : Int32) (κ31 : CS) => ∀ z35 : Int32, z35 = x19.1 + 1 → K21 (z35, x30) κ31)))) (fun (x23 : Unit) (κ24 : CS) => ((x19.2.toInt = 0) → K14 () κ24) ∧ ((¬ x19.2.toInt = 0) → post z11 κ24))) (0, 1) κ10))) (fun (x12 : Unit) (κ13 : CS) => ∀ z17 : Int32, z17 = x1 + 1 → K3 z17 κ13)) κ2)) 0 κ
theorem dX11_rootNamed_0 : decode cX11_rootNamed 0 = .ok (.iconst 0, 1) := by decide +kernel
theorem dX11_rootNamed_1 : decode cX11_rootNamed 1 = .ok (.istore 5, 2) := by decide +kernel
theorem dX11_rootNamed_3 : decode cX11_rootNamed 3 = .ok (.iload 5, 2) := by decide +kernel
theorem dX11_rootNamed_5 : decode cX11_rootNamed 5 = .ok (.aload_n 0, 1) := by decide +kernel
theorem dX11_rootNamed_6 : decode cX11_rootNamed 6 = .ok (.getfield 22, 3) := by decide +kernel
theorem dX11_rootNamed_9 : decode cX11_rootNamed 9 = .ok (.arraylength, 1) := by decide +kernel
theorem dX11_rootNamed_10 : decode cX11_rootNamed 10 = .ok (.if_icmp .ge 119, 3) := by decide +kernel
theorem dX11_rootNamed_13 : decode cX11_rootNamed 13 = .ok (.aload_n 0, 1) := by decide +kernel
theorem dX11_rootNamed_14 : decode cX11_rootNamed 14 = .ok (.getfield 29, 3) := by decide +kernel
theorem dX11_rootNamed_17 : decode cX11_rootNamed 17 = .ok (.aload_n 0, 1) := by decide +kernel
theorem dX11_rootNamed_18 : decode cX11_rootNamed 18 = .ok (.getfield 22, 3) := by decide +kernel
theorem dX11_rootNamed_21 : decode cX11_rootNamed 21 = .ok (.iload 5, 2) := by decide +kernel
theorem dX11_rootNamed_23 : decode cX11_rootNamed 23 = .ok (.iaload, 1) := by decide +kernel
theorem dX11_rootNamed_24 : decode cX11_rootNamed 24 = .ok (.invokevirtual 214, 3) := by decide +kernel
theorem dX11_rootNamed_27 : decode cX11_rootNamed 27 = .ok (.astore 6, 2) := by decide +kernel
theorem dX11_rootNamed_29 : decode cX11_rootNamed 29 = .ok (.aload 6, 2) := by decide +kernel
theorem dX11_rootNamed_31 : decode cX11_rootNamed 31 = .ok (.ifnull 92, 3) := by decide +kernel
theorem dX11_rootNamed_34 : decode cX11_rootNamed 34 = .ok (.aload 6, 2) := by decide +kernel
theorem dX11_rootNamed_36 : decode cX11_rootNamed 36 = .ok (.getfield 218, 3) := by decide +kernel
theorem dX11_rootNamed_39 : decode cX11_rootNamed 39 = .ok (.iload 4, 2) := by decide +kernel
theorem dX11_rootNamed_41 : decode cX11_rootNamed 41 = .ok (.if_icmp .ne 82, 3) := by decide +kernel
theorem dX11_rootNamed_44 : decode cX11_rootNamed 44 = .ok (.iconst 1, 1) := by decide +kernel
theorem dX11_rootNamed_45 : decode cX11_rootNamed 45 = .ok (.istore 7, 2) := by decide +kernel
theorem dX11_rootNamed_47 : decode cX11_rootNamed 47 = .ok (.iconst 0, 1) := by decide +kernel
theorem dX11_rootNamed_48 : decode cX11_rootNamed 48 = .ok (.istore 8, 2) := by decide +kernel
theorem dX11_rootNamed_50 : decode cX11_rootNamed 50 = .ok (.iload 8, 2) := by decide +kernel
theorem dX11_rootNamed_52 : decode cX11_rootNamed 52 = .ok (.iload 4, 2) := by decide +kernel
theorem dX11_rootNamed_54 : decode cX11_rootNamed 54 = .ok (.if_icmp .ge 61, 3) := by decide +kernel
theorem dX11_rootNamed_57 : decode cX11_rootNamed 57 = .ok (.iload 8, 2) := by decide +kernel
theorem dX11_rootNamed_59 : decode cX11_rootNamed 59 = .ok (.aload 6, 2) := by decide +kernel
theorem dX11_rootNamed_61 : decode cX11_rootNamed 61 = .ok (.getfield 223, 3) := by decide +kernel
theorem dX11_rootNamed_64 : decode cX11_rootNamed 64 = .ok (.arraylength, 1) := by decide +kernel
theorem dX11_rootNamed_65 : decode cX11_rootNamed 65 = .ok (.if_icmp .ge 50, 3) := by decide +kernel
theorem dX11_rootNamed_68 : decode cX11_rootNamed 68 = .ok (.iload 7, 2) := by decide +kernel
theorem dX11_rootNamed_70 : decode cX11_rootNamed 70 = .ok (.ifCond .eq 36, 3) := by decide +kernel
theorem dX11_rootNamed_73 : decode cX11_rootNamed 73 = .ok (.aload_n 1, 1) := by decide +kernel
theorem dX11_rootNamed_74 : decode cX11_rootNamed 74 = .ok (.iload_n 2, 1) := by decide +kernel
theorem dX11_rootNamed_75 : decode cX11_rootNamed 75 = .ok (.iload 8, 2) := by decide +kernel
theorem dX11_rootNamed_77 : decode cX11_rootNamed 77 = .ok (.iload_n 3, 1) := by decide +kernel
theorem dX11_rootNamed_78 : decode cX11_rootNamed 78 = .ok (.imul, 1) := by decide +kernel
theorem dX11_rootNamed_79 : decode cX11_rootNamed 79 = .ok (.iadd, 1) := by decide +kernel
theorem dX11_rootNamed_80 : decode cX11_rootNamed 80 = .ok (.iload_n 3, 1) := by decide +kernel
theorem dX11_rootNamed_81 : decode cX11_rootNamed 81 = .ok (.invokevirtual 204, 3) := by decide +kernel
theorem dX11_rootNamed_84 : decode cX11_rootNamed 84 = .ok (.l2i, 1) := by decide +kernel
theorem dX11_rootNamed_85 : decode cX11_rootNamed 85 = .ok (.invokestatic 226, 3) := by decide +kernel
theorem dX11_rootNamed_88 : decode cX11_rootNamed 88 = .ok (.aload 6, 2) := by decide +kernel
theorem dX11_rootNamed_90 : decode cX11_rootNamed 90 = .ok (.getfield 223, 3) := by decide +kernel
theorem dX11_rootNamed_93 : decode cX11_rootNamed 93 = .ok (.iload 8, 2) := by decide +kernel
theorem dX11_rootNamed_95 : decode cX11_rootNamed 95 = .ok (.baload, 1) := by decide +kernel
theorem dX11_rootNamed_96 : decode cX11_rootNamed 96 = .ok (.invokestatic 226, 3) := by decide +kernel
theorem dX11_rootNamed_99 : decode cX11_rootNamed 99 = .ok (.if_icmp .ne 7, 3) := by decide +kernel
theorem dX11_rootNamed_102 : decode cX11_rootNamed 102 = .ok (.iconst 1, 1) := by decide +kernel
theorem dX11_rootNamed_103 : decode cX11_rootNamed 103 = .ok (.goto 4, 3) := by decide +kernel
theorem dX11_rootNamed_106 : decode cX11_rootNamed 106 = .ok (.iconst 0, 1) := by decide +kernel
theorem dX11_rootNamed_107 : decode cX11_rootNamed 107 = .ok (.istore 7, 2) := by decide +kernel
theorem dX11_rootNamed_109 : decode cX11_rootNamed 109 = .ok (.iinc 8 1, 3) := by decide +kernel
theorem dX11_rootNamed_112 : decode cX11_rootNamed 112 = .ok (.goto (-62), 3) := by decide +kernel
theorem dX11_rootNamed_115 : decode cX11_rootNamed 115 = .ok (.iload 7, 2) := by decide +kernel
theorem dX11_rootNamed_117 : decode cX11_rootNamed 117 = .ok (.ifCond .eq 6, 3) := by decide +kernel
theorem dX11_rootNamed_120 : decode cX11_rootNamed 120 = .ok (.aload 6, 2) := by decide +kernel
theorem dX11_rootNamed_122 : decode cX11_rootNamed 122 = .ok (.areturn, 1) := by decide +kernel
theorem dX11_rootNamed_123 : decode cX11_rootNamed 123 = .ok (.iinc 5 1, 3) := by decide +kernel
theorem dX11_rootNamed_126 : decode cX11_rootNamed 126 = .ok (.goto (-123), 3) := by decide +kernel
theorem dX11_rootNamed_129 : decode cX11_rootNamed 129 = .ok (.aconst_null, 1) := by decide +kernel
theorem dX11_rootNamed_130 : decode cX11_rootNamed 130 = .ok (.areturn, 1) := by decide +kernel
set_option maxRecDepth 100000 in
set_option maxHeartbeats 4000000 in
theorem c_X11_rootNamed (l : Launch) (D : va_G) (t : Nat → ClassId) (G : GE) (κ : CS) (h : Nat) (a1 : Option Nat) (a2 : Int32) (a3 : Int32) (a4 : Int32) (post : Option Nat → CS → Prop) (hw : F_X11_rootNamed G h a1 a2 a3 a4 post κ) (sz : Nat) : CMq l D t yX11_rootNamed cX11_rootNamed 9 (some (.object "ShareHouse$Node")) 1 40 G κ sz [.ref h, va_rf a1, .int a2, .int a3, .int a4] post := by
  refine c_go (by decide) (by cases a1 <;> exact Nat.le_of_ble_eq_true rfl) ?_
  intro p e s m below meth c ls A hF hr hlk hin hAe hH hA hE hl
  unfold cB
  rw [hAe]
  clear hAe
  have hF : FX p m c cX11_rootNamed 9 s _ RX11 D t := hF
  have hx := hF.1.1
  have hb := hF.1.2.1
  have hl : lv_has ls 9 [(0, .ref h), (1, va_rf a1), (2, .int a2), (3, .int a3), (4, .int a4)] := (by have h2 := hl; clear hw; revert h2; cases a1 <;> exact id)
  unfold F_X11_rootNamed at hw
  refine lv_iconst (v := 0) hx hb dX11_rootNamed_0 (by decide) ?_
  refine lv_istore (lv' := [(5, .int 0), (0, .ref h), (1, va_rf a1), (2, .int a2), (3, .int a3), (4, .int a4)]) hx hb dX11_rootNamed_1 hl (by decide) rfl (fun ls hl => ?_)
  have hl : lv_has ls 9 [(5, .int 0), (4, .int a4), (3, .int a3), (2, .int a2), (1, va_rf a1), (0, .ref h)] := lv_sub hl [0, 5, 4, 3, 2, 1] rfl
  refine cw_loop (β := Int32) (fun x1 => [(5, .int x1), (4, .int a4), (3, .int a3), (2, .int a2), (1, va_rf a1), (0, .ref h)]) 0 hl hw hH (fun K3 x1 κ2 ls H locs cells slots hl hw hH ih4 => ?_)
  have hl : lv_has ls 9 [(5, .int x1), (4, .int a4), (3, .int a3), (2, .int a2), (1, va_rf a1), (0, .ref h)] := hl
  refine lv_iload hx hb dX11_rootNamed_3 (lv_at hl 0 rfl) ?_
  refine lv_aload_n hx hb dX11_rootNamed_5 rfl (lv_at hl 5 rfl) ?_
  refine cw_getPr (a := h) hF hH fk_X11_22 dX11_rootNamed_6 hw (fun z5 hw => ?_)
  refine cw_alen (q := z5) hF hH hE dX11_rootNamed_9 hw (fun z6 hw => ?_)
  refine w_icmp_ge (tgt := 129) hF dX11_rootNamed_10 rfl hw (fun hw => ?_) (fun hw => ?_)
  · refine cw_null dX11_rootNamed_129 hF ?_
    exact cw_retq (v := (none : Option Nat)) hF hH ⟨rfl, rfl⟩ hr (by first | exact Or.inl ⟨_, rfl⟩ | exact Or.inr ⟨_, rfl⟩) hlk dX11_rootNamed_130 hw
  · refine lv_aload_n hx hb dX11_rootNamed_13 rfl (lv_at hl 5 rfl) ?_
    refine cw_getPr (a := h) hF hH fk_X11_29 dX11_rootNamed_14 hw (fun z7 hw => ?_)
    refine lv_aload_n hx hb dX11_rootNamed_17 rfl (lv_at hl 5 rfl) ?_
    refine cw_getPr (a := h) hF hH fk_X11_22 dX11_rootNamed_18 hw (fun z8 hw => ?_)
    refine lv_iload hx hb dX11_rootNamed_21 (lv_at hl 0 rfl) ?_
    refine cw_iald (q := z8) hF hH dX11_rootNamed_23 hw (fun z9 hw => ?_)
    refine cw_cVqq (q := z7) (As := [.int z9]) (rest := []) hF hH hA hE mv_X11_214 ci_X9 (by decide) hw (fun b hw sz => c_X9_node l D t G _ b z9 _ hw sz) dX11_rootNamed_24 ⟨Nat.le_of_ble_eq_true rfl, Nat.le_of_ble_eq_true rfl⟩ rfl hl.1 (Nat.le_of_ble_eq_true rfl) rfl (fun z11 κ10 H locs cells slots hw hH => ?_)
    refine w_astoreq (lv' := [(6, va_rf z11), (5, .int x1), (4, .int a4), (3, .int a3), (2, .int a2), (1, va_rf a1), (0, .ref h)]) hF dX11_rootNamed_27 hl (by decide) rfl (fun ls hl => ?_)
    refine w_aloadq hF dX11_rootNamed_29 (lv_at hl 0 rfl) ?_
    obtain ⟨K14, hK15, hw⟩ := jc_open hw
    refine cw_join (K := K14) 123 (fun (x12 : Unit) => [(5, .int x1), (4, .int a4), (3, .int a3), (2, .int a2), (1, va_rf a1), (0, .ref h)]) (fun (x12 : Unit) => []) hl hH (fun x12 κ13 ls H locs cells slots hl hw hH => ?_) (fun jn16 => ?_)
    · have hw := hK15 x12 κ13 hw
      have hl : lv_has ls 9 [(5, .int x1), (4, .int a4), (3, .int a3), (2, .int a2), (1, va_rf a1), (0, .ref h)] := hl
      obtain ⟨z17, ez17⟩ : ∃ z : Int32, z = x1 + 1 := ⟨_, rfl⟩
      have hw := hw z17 ez17
      refine lv_iinc (lv' := [(5, .int z17), (4, .int a4), (3, .int a3), (2, .int a2), (1, va_rf a1), (0, .ref h)]) (k := 0) (v := z17) hx hb dX11_rootNamed_123 hl rfl ez17.symm (by decide) rfl (fun ls hl => ?_)
      refine lv_goto (tgt := 3) hx hb dX11_rootNamed_126 rfl ?_
      exact ih4 z17 κ13 ls _ _ _ _ hl hw hH
    · skip
      refine cw_ifnull (q := z11) (tgt := 123) hF dX11_rootNamed_31 rfl hw (fun hw => ?_) (fun hw => ?_)
      · have hl : lv_has ls 9 [(5, .int x1), (4, .int a4), (3, .int a3), (2, .int a2), (1, va_rf a1), (0, .ref h)] := lv_sub hl [1, 2, 3, 4, 5, 6] rfl
        exact jn16 () κ10 ls _ _ _ _ hl hw hH
      · refine w_aloadq hF dX11_rootNamed_34 (lv_at hl 0 rfl) ?_
        refine cw_getI (q := z11) hF hH fk_X11_218 dX11_rootNamed_36 hw (fun z18 hw => ?_)
        refine lv_iload hx hb dX11_rootNamed_39 (lv_at hl 2 rfl) ?_
        refine w_icmp_ne (tgt := 123) hF dX11_rootNamed_41 rfl hw (fun hw => ?_) (fun hw => ?_)
        · have hl : lv_has ls 9 [(5, .int x1), (4, .int a4), (3, .int a3), (2, .int a2), (1, va_rf a1), (0, .ref h)] := lv_sub hl [1, 2, 3, 4, 5, 6] rfl
          exact jn16 () κ10 ls _ _ _ _ hl hw hH
        · refine lv_iconst (v := 1) hx hb dX11_rootNamed_44 (by decide) ?_
          refine lv_istore (lv' := [(7, .int 1), (6, va_rf z11), (5, .int x1), (4, .int a4), (3, .int a3), (2, .int a2), (1, va_rf a1), (0, .ref h)]) hx hb dX11_rootNamed_45 hl (by decide) (by generalize z11 = y; cases y <;> rfl) (fun ls hl => ?_)
          refine lv_iconst (v := 0) hx hb dX11_rootNamed_47 (by decide) ?_
          refine lv_istore (lv' := [(8, .int 0), (7, .int 1), (6, va_rf z11), (5, .int x1), (4, .int a4), (3, .int a3), (2, .int a2), (1, va_rf a1), (0, .ref h)]) hx hb dX11_rootNamed_48 hl (by decide) rfl (fun ls hl => ?_)
          refine cw_loop (β := Int32 × Int32) (fun x19 => [(8, .int x19.1), (7, .int x19.2), (6, va_rf z11), (5, .int x1), (4, .int a4), (3, .int a3), (2, .int a2), (1, va_rf a1), (0, .ref h)]) (0, 1) hl hw hH (fun K21 x19 κ20 ls H locs cells slots hl hw hH ih22 => ?_)
          have hl : lv_has ls 9 [(8, .int x19.1), (7, .int x19.2), (6, va_rf z11), (5, .int x1), (4, .int a4), (3, .int a3), (2, .int a2), (1, va_rf a1), (0, .ref h)] := hl
          refine lv_iload hx hb dX11_rootNamed_50 (lv_at hl 0 rfl) ?_
          refine lv_iload hx hb dX11_rootNamed_52 (lv_at hl 4 rfl) ?_
          obtain ⟨K25, hK26, hw⟩ := jc_open hw
          refine cw_join (K := K25) 115 (fun (x23 : Unit) => [(7, .int x19.2), (6, va_rf z11), (5, .int x1), (4, .int a4), (3, .int a3), (2, .int a2), (1, va_rf a1), (0, .ref h)]) (fun (x23 : Unit) => []) hl hH (fun x23 κ24 ls H locs cells slots hl hw hH => ?_) (fun jn27 => ?_)
          · have hw := hK26 x23 κ24 hw
            have hl : lv_has ls 9 [(7, .int x19.2), (6, va_rf z11), (5, .int x1), (4, .int a4), (3, .int a3), (2, .int a2), (1, va_rf a1), (0, .ref h)] := hl
            refine lv_iload hx hb dX11_rootNamed_115 (lv_at hl 0 rfl) ?_
            refine w_if_eq (tgt := 123) hF dX11_rootNamed_117 rfl hw (fun hw => ?_) (fun hw => ?_)
            · have hl : lv_has ls 9 [(5, .int x1), (4, .int a4), (3, .int a3), (2, .int a2), (1, va_rf a1), (0, .ref h)] := lv_sub hl [2, 3, 4, 5, 6, 7] rfl
              exact jn16 () κ24 ls _ _ _ _ hl hw hH
            · refine w_aloadq hF dX11_rootNamed_120 (lv_at hl 1 rfl) ?_
              exact cw_retq (v := z11) hF hH ⟨rfl, rfl⟩ hr (by first | exact Or.inl ⟨_, rfl⟩ | exact Or.inr ⟨_, rfl⟩) hlk dX11_rootNamed_122 hw
          · skip
            refine w_icmp_ge (tgt := 115) hF dX11_rootNamed_54 rfl hw (fun hw => ?_) (fun hw => ?_)
            · have hl : lv_has ls 9 [(7, .int x19.2), (6, va_rf z11), (5, .int x1), (4, .int a4), (3, .int a3), (2, .int a2), (1, va_rf a1), (0, .ref h)] := lv_sub hl [1, 2, 3, 4, 5, 6, 7, 8] rfl
              exact jn27 () κ20 ls _ _ _ _ hl hw hH
            · refine lv_iload hx hb dX11_rootNamed_57 (lv_at hl 0 rfl) ?_
              refine w_aloadq hF dX11_rootNamed_59 (lv_at hl 2 rfl) ?_
              refine cw_getP (q := z11) hF hH fk_X11_223 dX11_rootNamed_61 hw (fun z28 hw => ?_)
              refine cw_alen (q := z28) hF hH hE dX11_rootNamed_64 hw (fun z29 hw => ?_)
              refine w_icmp_ge (tgt := 115) hF dX11_rootNamed_65 rfl hw (fun hw => ?_) (fun hw => ?_)
              · have hl : lv_has ls 9 [(7, .int x19.2), (6, va_rf z11), (5, .int x1), (4, .int a4), (3, .int a3), (2, .int a2), (1, va_rf a1), (0, .ref h)] := lv_sub hl [1, 2, 3, 4, 5, 6, 7, 8] rfl
                exact jn27 () κ20 ls _ _ _ _ hl hw hH
              · refine lv_iload hx hb dX11_rootNamed_68 (lv_at hl 1 rfl) ?_
                obtain ⟨K32, hK33, hw⟩ := jc_open hw
                refine cw_join (K := K32) 107 (fun (x30 : Int32) => [(8, .int x19.1), (6, va_rf z11), (5, .int x1), (4, .int a4), (3, .int a3), (2, .int a2), (1, va_rf a1), (0, .ref h)]) (fun (x30 : Int32) => [.int x30]) hl hH (fun x30 κ31 ls H locs cells slots hl hw hH => ?_) (fun jn34 => ?_)
                · have hw := hK33 x30 κ31 hw
                  have hl : lv_has ls 9 [(8, .int x19.1), (6, va_rf z11), (5, .int x1), (4, .int a4), (3, .int a3), (2, .int a2), (1, va_rf a1), (0, .ref h)] := hl
                  refine lv_istore (lv' := [(7, .int x30), (8, .int x19.1), (6, va_rf z11), (5, .int x1), (4, .int a4), (3, .int a3), (2, .int a2), (1, va_rf a1), (0, .ref h)]) hx hb dX11_rootNamed_107 hl (by decide) (by generalize z11 = y; cases y <;> rfl) (fun ls hl => ?_)
                  obtain ⟨z35, ez35⟩ : ∃ z : Int32, z = x19.1 + 1 := ⟨_, rfl⟩
                  have hw := hw z35 ez35
                  refine lv_iinc (lv' := [(8, .int z35), (7, .int x30), (6, va_rf z11), (5, .int x1), (4, .int a4), (3, .int a3), (2, .int a2), (1, va_rf a1), (0, .ref h)]) (k := 1) (v := z35) hx hb dX11_rootNamed_109 hl rfl ez35.symm (by decide) rfl (fun ls hl => ?_)
                  refine lv_goto (tgt := 50) hx hb dX11_rootNamed_112 rfl ?_
                  exact ih22 (z35, x30) κ31 ls _ _ _ _ hl hw hH
                · skip
                  obtain ⟨K38, hK39, hw⟩ := jc_open hw
                  refine cw_join (K := K38) 106 (fun (x36 : Unit) => [(8, .int x19.1), (6, va_rf z11), (5, .int x1), (4, .int a4), (3, .int a3), (2, .int a2), (1, va_rf a1), (0, .ref h)]) (fun (x36 : Unit) => []) hl hH (fun x36 κ37 ls H locs cells slots hl hw hH => ?_) (fun jn40 => ?_)
                  · have hw := hK39 x36 κ37 hw
                    have hl : lv_has ls 9 [(8, .int x19.1), (6, va_rf z11), (5, .int x1), (4, .int a4), (3, .int a3), (2, .int a2), (1, va_rf a1), (0, .ref h)] := hl
                    refine lv_iconst (v := 0) hx hb dX11_rootNamed_106 (by decide) ?_
                    exact jn34 0 κ37 ls _ _ _ _ hl hw hH
                  · skip
                    refine w_if_eq (tgt := 106) hF dX11_rootNamed_70 rfl hw (fun hw => ?_) (fun hw => ?_)
                    · have hl : lv_has ls 9 [(8, .int x19.1), (6, va_rf z11), (5, .int x1), (4, .int a4), (3, .int a3), (2, .int a2), (1, va_rf a1), (0, .ref h)] := lv_sub hl [0, 2, 3, 4, 5, 6, 7, 8] rfl
                      exact jn40 () κ20 ls _ _ _ _ hl hw hH
                    · refine w_aloadq_n hF dX11_rootNamed_73 rfl (lv_at hl 7 rfl) ?_
                      refine lv_iload_n hx hb dX11_rootNamed_74 rfl (lv_at hl 6 rfl) ?_
                      refine lv_iload hx hb dX11_rootNamed_75 (lv_at hl 0 rfl) ?_
                      refine lv_iload_n hx hb dX11_rootNamed_77 rfl (lv_at hl 5 rfl) ?_
                      refine lv_imul hx hb dX11_rootNamed_78 ?_
                      refine w_nmi hw (fun z41 hw => ?_)
                      refine lv_iadd hx hb dX11_rootNamed_79 ?_
                      refine w_nmi hw (fun z42 hw => ?_)
                      refine lv_iload_n hx hb dX11_rootNamed_80 rfl (lv_at hl 5 rfl) ?_
                      refine cw_cVlq (q := a1) (As := [.int z42, .int a3]) (rest := []) hF hH hA hE mv_X11_204 ci_X6 (by decide) hw (fun b hw sz => c_X6_number l D t G _ b z42 a3 _ hw sz) dX11_rootNamed_81 ⟨Nat.le_of_ble_eq_true rfl, Nat.le_of_ble_eq_true rfl⟩ rfl hl.1 (Nat.le_of_ble_eq_true rfl) rfl (fun z44 κ43 H locs cells slots hw hH => ?_)
                      refine lv_l2i hx hb dX11_rootNamed_84 rfl ?_
                      refine w_nmi hw (fun z45 hw => ?_)
                      refine cw_cSi (As := [.int z45]) (rest := []) hF hH hA hE ms_X11_226 (fun sz => c_X11_upper l D t G _ z45 _ hw sz) dX11_rootNamed_85 ⟨Nat.le_of_ble_eq_true rfl, Nat.le_of_ble_eq_true rfl⟩ rfl hl.1 (Nat.le_of_ble_eq_true rfl) rfl (fun z47 κ46 H locs cells slots hw hH => ?_)
                      refine w_aloadq hF dX11_rootNamed_88 (lv_at hl 2 rfl) ?_
                      refine cw_getP (q := z11) hF hH fk_X11_223 dX11_rootNamed_90 hw (fun z48 hw => ?_)
                      refine lv_iload hx hb dX11_rootNamed_93 (lv_at hl 0 rfl) ?_
                      refine cw_bald (q := z48) hF hH hE dX11_rootNamed_95 hw (fun z49 hw => ?_)
                      refine cw_cSi (As := [.int z49]) (rest := [.int z47]) hF hH hA hE ms_X11_226 (fun sz => c_X11_upper l D t G _ z49 _ hw sz) dX11_rootNamed_96 ⟨Nat.le_of_ble_eq_true rfl, Nat.le_of_ble_eq_true rfl⟩ rfl hl.1 (Nat.le_of_ble_eq_true rfl) rfl (fun z51 κ50 H locs cells slots hw hH => ?_)
                      refine w_icmp_ne (tgt := 106) hF dX11_rootNamed_99 rfl hw (fun hw => ?_) (fun hw => ?_)
                      · have hl : lv_has ls 9 [(8, .int x19.1), (6, va_rf z11), (5, .int x1), (4, .int a4), (3, .int a3), (2, .int a2), (1, va_rf a1), (0, .ref h)] := lv_sub hl [0, 2, 3, 4, 5, 6, 7, 8] rfl
                        exact jn40 () κ50 ls _ _ _ _ hl hw hH
                      · refine lv_iconst (v := 1) hx hb dX11_rootNamed_102 (by decide) ?_
                        refine lv_goto (tgt := 107) hx hb dX11_rootNamed_103 rfl ?_
                        have hl : lv_has ls 9 [(8, .int x19.1), (6, va_rf z11), (5, .int x1), (4, .int a4), (3, .int a3), (2, .int a2), (1, va_rf a1), (0, .ref h)] := lv_sub hl [0, 2, 3, 4, 5, 6, 7, 8] rfl
                        exact jn34 1 κ50 ls _ _ _ _ hl hw hH
set_option maxRecDepth 100000 in
def F_X11_comeToDisk (G : GE) (h : Nat) (post : CS → Prop) (κ : CS) : Prop := lc (fun (K3 : Int32 → CS → Prop) (x1 : Int32) (κ2 : CS) => (h ∈ sL κ2.1 ∧ sK κ2.1 h = 1) ∧ ∀ z5 : Int32, z5 = sI κ2.1 h 6 → jc (fun (K8 : Unit → CS → Prop) => ((z5.toInt ≤ x1.toInt) → K8 () κ2) ∧ ((x1.toInt < z5.toInt) → (h ∈ sL κ2.1 ∧ sK κ2.1 h = 1) ∧ ∀ z12 : Option Nat, z12 = sP κ2.1 h 5 → ∃ n : Nat, AL G κ2 z12 n ∧ ∀ z13 : Int32, z13 = nI n → ((z13.toInt ≤ x1.toInt) → K8 () κ2) ∧ ((x1.toInt < z13.toInt) → (h ∈ sL κ2.1 ∧ sK κ2.1 h = 1) ∧ ∀ z14 : Option Nat, z14 = sP κ2.1 h 4 → (h ∈ sL κ2.1 ∧ sK κ2.1 h = 1) ∧ ∀ z15 : Option Nat, z15 = sP κ2.1 h 5 → ∃ b : Nat, z15 = some b ∧ (b ∈ sL κ2.1 ∧ 24 ≤ sK κ2.1 b ∧ sK κ2.1 b < 28) ∧ (0 ≤ x1.toInt ∧ x1.toInt < (sN κ2.1 b : Int)) ∧ ∀ z16 : Option Nat, z16 = sP κ2.1 b x1.toInt.toNat → ∃ b : Nat, z14 = some b ∧ (b ∈ sL κ2.1 ∧ sK κ2.1 b = 6) ∧ F_X9_apply G b z16 (fun (κ17 : CS) => ∀ z19 : Int32, z19 = x1 + 1 → K3 z19 κ17) κ2))) (fun (x6 : Unit) (κ7 : CS) => (h ∈ sL κ7.1 ∧ sK κ7.1 h = 1) ∧ ∀ κ11 : CS, κ11 = (h_uI κ7.1 h 6 0, κ7.2) → post κ11)) 0 κ
theorem dX11_comeToDisk_0 : decode cX11_comeToDisk 0 = .ok (.iconst 0, 1) := by decide +kernel
theorem dX11_comeToDisk_1 : decode cX11_comeToDisk 1 = .ok (.istore_n 1, 1) := by decide +kernel
theorem dX11_comeToDisk_2 : decode cX11_comeToDisk 2 = .ok (.iload_n 1, 1) := by decide +kernel
theorem dX11_comeToDisk_3 : decode cX11_comeToDisk 3 = .ok (.aload_n 0, 1) := by decide +kernel
theorem dX11_comeToDisk_4 : decode cX11_comeToDisk 4 = .ok (.getfield 182, 3) := by decide +kernel
theorem dX11_comeToDisk_7 : decode cX11_comeToDisk 7 = .ok (.if_icmp .ge 31, 3) := by decide +kernel
theorem dX11_comeToDisk_10 : decode cX11_comeToDisk 10 = .ok (.iload_n 1, 1) := by decide +kernel
theorem dX11_comeToDisk_11 : decode cX11_comeToDisk 11 = .ok (.aload_n 0, 1) := by decide +kernel
theorem dX11_comeToDisk_12 : decode cX11_comeToDisk 12 = .ok (.getfield 38, 3) := by decide +kernel
theorem dX11_comeToDisk_15 : decode cX11_comeToDisk 15 = .ok (.arraylength, 1) := by decide +kernel
theorem dX11_comeToDisk_16 : decode cX11_comeToDisk 16 = .ok (.if_icmp .ge 22, 3) := by decide +kernel
theorem dX11_comeToDisk_19 : decode cX11_comeToDisk 19 = .ok (.aload_n 0, 1) := by decide +kernel
theorem dX11_comeToDisk_20 : decode cX11_comeToDisk 20 = .ok (.getfield 33, 3) := by decide +kernel
theorem dX11_comeToDisk_23 : decode cX11_comeToDisk 23 = .ok (.aload_n 0, 1) := by decide +kernel
theorem dX11_comeToDisk_24 : decode cX11_comeToDisk 24 = .ok (.getfield 38, 3) := by decide +kernel
theorem dX11_comeToDisk_27 : decode cX11_comeToDisk 27 = .ok (.iload_n 1, 1) := by decide +kernel
theorem dX11_comeToDisk_28 : decode cX11_comeToDisk 28 = .ok (.aaload, 1) := by decide +kernel
theorem dX11_comeToDisk_29 : decode cX11_comeToDisk 29 = .ok (.invokevirtual 244, 3) := by decide +kernel
theorem dX11_comeToDisk_32 : decode cX11_comeToDisk 32 = .ok (.iinc 1 1, 3) := by decide +kernel
theorem dX11_comeToDisk_35 : decode cX11_comeToDisk 35 = .ok (.goto (-33), 3) := by decide +kernel
theorem dX11_comeToDisk_38 : decode cX11_comeToDisk 38 = .ok (.aload_n 0, 1) := by decide +kernel
theorem dX11_comeToDisk_39 : decode cX11_comeToDisk 39 = .ok (.iconst 0, 1) := by decide +kernel
theorem dX11_comeToDisk_40 : decode cX11_comeToDisk 40 = .ok (.putfield 182, 3) := by decide +kernel
theorem dX11_comeToDisk_43 : decode cX11_comeToDisk 43 = .ok (.return_, 1) := by decide +kernel
set_option maxRecDepth 100000 in
set_option maxHeartbeats 4000000 in
theorem c_X11_comeToDisk (l : Launch) (D : va_G) (t : Nat → ClassId) (G : GE) (κ : CS) (h : Nat) (post : CS → Prop) (hw : F_X11_comeToDisk G h post κ) (sz : Nat) : CMv l D t yX11_comeToDisk cX11_comeToDisk 2 3 86 G κ sz [.ref h] post := by
  refine c_go (by decide) (Nat.le_of_ble_eq_true rfl) ?_
  intro p e s m below meth c ls A hF hr hlk hin hAe hH hA hE hl
  unfold cB
  rw [hAe]
  clear hAe
  have hF : FX p m c cX11_comeToDisk 2 s _ RX11 D t := hF
  have hx := hF.1.1
  have hb := hF.1.2.1
  have hl : lv_has ls 2 [(0, .ref h)] := hl
  unfold F_X11_comeToDisk at hw
  refine lv_iconst (v := 0) hx hb dX11_comeToDisk_0 (by decide) ?_
  refine lv_istore_n (lv' := [(1, .int 0), (0, .ref h)]) hx hb dX11_comeToDisk_1 rfl hl (by decide) rfl (fun ls hl => ?_)
  refine cw_loop (β := Int32) (fun x1 => [(1, .int x1), (0, .ref h)]) 0 hl hw hH (fun K3 x1 κ2 ls H locs cells slots hl hw hH ih4 => ?_)
  have hl : lv_has ls 2 [(1, .int x1), (0, .ref h)] := hl
  refine lv_iload_n hx hb dX11_comeToDisk_2 rfl (lv_at hl 0 rfl) ?_
  refine lv_aload_n hx hb dX11_comeToDisk_3 rfl (lv_at hl 1 rfl) ?_
  refine cw_getIr (a := h) hF hH fk_X11_182 dX11_comeToDisk_4 hw (fun z5 hw => ?_)
  obtain ⟨K8, hK9, hw⟩ := jc_open hw
  refine cw_join (K := K8) 38 (fun (x6 : Unit) => [(0, .ref h)]) (fun (x6 : Unit) => []) hl hH (fun x6 κ7 ls H locs cells slots hl hw hH => ?_) (fun jn10 => ?_)
  · have hw := hK9 x6 κ7 hw
    have hl : lv_has ls 2 [(0, .ref h)] := hl
    refine lv_aload_n hx hb dX11_comeToDisk_38 rfl (lv_at hl 0 rfl) ?_
    refine lv_iconst (v := 0) hx hb dX11_comeToDisk_39 (by decide) ?_
    refine cw_putIr (a := h) (v := 0) hF hH fk_X11_182 dX11_comeToDisk_40 rfl rfl rfl hw (fun κ11 H locs cells slots hw hH => ?_)
    exact cw_retv hF hH ⟨rfl, rfl⟩ hr hlk dX11_comeToDisk_43 hw
  · skip
    refine w_icmp_ge (tgt := 38) hF dX11_comeToDisk_7 rfl hw (fun hw => ?_) (fun hw => ?_)
    · have hl : lv_has ls 2 [(0, .ref h)] := lv_sub hl [1] rfl
      exact jn10 () κ2 ls _ _ _ _ hl hw hH
    · refine lv_iload_n hx hb dX11_comeToDisk_10 rfl (lv_at hl 0 rfl) ?_
      refine lv_aload_n hx hb dX11_comeToDisk_11 rfl (lv_at hl 1 rfl) ?_
      refine cw_getPr (a := h) hF hH fk_X11_38 dX11_comeToDisk_12 hw (fun z12 hw => ?_)
      refine cw_alen (q := z12) hF hH hE dX11_comeToDisk_15 hw (fun z13 hw => ?_)
      refine w_icmp_ge (tgt := 38) hF dX11_comeToDisk_16 rfl hw (fun hw => ?_) (fun hw => ?_)
      · have hl : lv_has ls 2 [(0, .ref h)] := lv_sub hl [1] rfl
        exact jn10 () κ2 ls _ _ _ _ hl hw hH
      · refine lv_aload_n hx hb dX11_comeToDisk_19 rfl (lv_at hl 1 rfl) ?_
        refine cw_getPr (a := h) hF hH fk_X11_33 dX11_comeToDisk_20 hw (fun z14 hw => ?_)
        refine lv_aload_n hx hb dX11_comeToDisk_23 rfl (lv_at hl 1 rfl) ?_
        refine cw_getPr (a := h) hF hH fk_X11_38 dX11_comeToDisk_24 hw (fun z15 hw => ?_)
        refine lv_iload_n hx hb dX11_comeToDisk_27 rfl (lv_at hl 0 rfl) ?_
        refine cw_aald (q := z15) hF hH dX11_comeToDisk_28 hw (fun z16 hw => ?_)
        refine cw_cVvq (q := z14) (As := [va_rf z16]) (rest := []) hF hH hA hE mv_X11_244 ci_X9 (by decide) hw (fun b hw sz => c_X9_apply l D t G _ b z16 _ hw sz) dX11_comeToDisk_29 ⟨Nat.le_of_ble_eq_true rfl, Nat.le_of_ble_eq_true rfl⟩ rfl hl.1 (Nat.le_of_ble_eq_true rfl) rfl (fun κ17 H locs cells slots hw hH => ?_)
        obtain ⟨z19, ez19⟩ : ∃ z : Int32, z = x1 + 1 := ⟨_, rfl⟩
        have hw := hw z19 ez19
        refine lv_iinc (lv' := [(1, .int z19), (0, .ref h)]) (k := 0) (v := z19) hx hb dX11_comeToDisk_32 hl rfl ez19.symm (by decide) rfl (fun ls hl => ?_)
        refine lv_goto (tgt := 2) hx hb dX11_comeToDisk_35 rfl ?_
        exact ih4 z19 κ17 ls _ _ _ _ hl hw hH
set_option maxRecDepth 100000 in
def F_X11_nextChange (G : GE) (h : Nat) (a1 : Int32) (a2 : Option Nat) (post : Option Nat → CS → Prop) (κ : CS) : Prop := (h ∈ sL κ.1 ∧ sK κ.1 h = 1) ∧ ∀ z1 : Int32, z1 = sI κ.1 h 6 → jc (fun (K4 : Unit → CS → Prop) => jc (fun (K14 : Unit → CS → Prop) => ((z1.toInt < 0) → K14 () κ) ∧ ((0 ≤ z1.toInt) → (h ∈ sL κ.1 ∧ sK κ.1 h = 1) ∧ ∀ z19 : Int32, z19 = sI κ.1 h 6 → (h ∈ sL κ.1 ∧ sK κ.1 h = 1) ∧ ∀ z20 : Option Nat, z20 = sP κ.1 h 5 → ∃ n : Nat, AL G κ z20 n ∧ ∀ z21 : Int32, z21 = nI n → ((z19.toInt < z21.toInt) → K4 () κ) ∧ ((z21.toInt ≤ z19.toInt) → K14 () κ))) (fun (x12 : Unit) (κ13 : CS) => (h ∈ sL κ13.1 ∧ sK κ13.1 h = 1) ∧ F_X11_comeToDisk G h  (fun (κ17 : CS) => K4 () κ17) κ13)) (fun (x2 : Unit) (κ3 : CS) => (h ∈ sL κ3.1 ∧ sK κ3.1 h = 1) ∧ ∀ z7 : Option Nat, z7 = sP κ3.1 h 5 → (h ∈ sL κ3.1 ∧ sK κ3.1 h = 1) ∧ ∀ z8 : Int32, z8 = sI κ3.1 h 6 → ∃ b : Nat, z7 = some b ∧ (b ∈ sL κ3.1 ∧ 24 ≤ sK κ3.1 b ∧ sK κ3.1 b < 28) ∧ (0 ≤ z8.toInt ∧ z8.toInt < (sN κ3.1 b : Int)) ∧ ∀ z9 : Option Nat, z9 = sP κ3.1 b z8.toInt.toNat → ∃ b : Nat, z9 = some b ∧ (b ∈ sL κ3.1 ∧ sK κ3.1 b = 4) ∧ F_X1_fill G b a1 a2 (fun (κ10 : CS) => post z9 κ10) κ3)
theorem dX11_nextChange_0 : decode cX11_nextChange 0 = .ok (.aload_n 0, 1) := by decide +kernel
theorem dX11_nextChange_1 : decode cX11_nextChange 1 = .ok (.getfield 182, 3) := by decide +kernel
theorem dX11_nextChange_4 : decode cX11_nextChange 4 = .ok (.ifCond .lt 15, 3) := by decide +kernel
theorem dX11_nextChange_7 : decode cX11_nextChange 7 = .ok (.aload_n 0, 1) := by decide +kernel
theorem dX11_nextChange_8 : decode cX11_nextChange 8 = .ok (.getfield 182, 3) := by decide +kernel
theorem dX11_nextChange_11 : decode cX11_nextChange 11 = .ok (.aload_n 0, 1) := by decide +kernel
theorem dX11_nextChange_12 : decode cX11_nextChange 12 = .ok (.getfield 38, 3) := by decide +kernel
theorem dX11_nextChange_15 : decode cX11_nextChange 15 = .ok (.arraylength, 1) := by decide +kernel
theorem dX11_nextChange_16 : decode cX11_nextChange 16 = .ok (.if_icmp .lt 7, 3) := by decide +kernel
theorem dX11_nextChange_19 : decode cX11_nextChange 19 = .ok (.aload_n 0, 1) := by decide +kernel
theorem dX11_nextChange_20 : decode cX11_nextChange 20 = .ok (.invokevirtual 185, 3) := by decide +kernel
theorem dX11_nextChange_23 : decode cX11_nextChange 23 = .ok (.aload_n 0, 1) := by decide +kernel
theorem dX11_nextChange_24 : decode cX11_nextChange 24 = .ok (.getfield 38, 3) := by decide +kernel
theorem dX11_nextChange_27 : decode cX11_nextChange 27 = .ok (.aload_n 0, 1) := by decide +kernel
theorem dX11_nextChange_28 : decode cX11_nextChange 28 = .ok (.getfield 182, 3) := by decide +kernel
theorem dX11_nextChange_31 : decode cX11_nextChange 31 = .ok (.aaload, 1) := by decide +kernel
theorem dX11_nextChange_32 : decode cX11_nextChange 32 = .ok (.astore_n 3, 1) := by decide +kernel
theorem dX11_nextChange_33 : decode cX11_nextChange 33 = .ok (.aload_n 3, 1) := by decide +kernel
theorem dX11_nextChange_34 : decode cX11_nextChange 34 = .ok (.iload_n 1, 1) := by decide +kernel
theorem dX11_nextChange_35 : decode cX11_nextChange 35 = .ok (.aload_n 2, 1) := by decide +kernel
theorem dX11_nextChange_36 : decode cX11_nextChange 36 = .ok (.invokevirtual 250, 3) := by decide +kernel
theorem dX11_nextChange_39 : decode cX11_nextChange 39 = .ok (.aload_n 3, 1) := by decide +kernel
theorem dX11_nextChange_40 : decode cX11_nextChange 40 = .ok (.areturn, 1) := by decide +kernel
set_option maxRecDepth 100000 in
set_option maxHeartbeats 4000000 in
theorem c_X11_nextChange (l : Launch) (D : va_G) (t : Nat → ClassId) (G : GE) (κ : CS) (h : Nat) (a1 : Int32) (a2 : Option Nat) (post : Option Nat → CS → Prop) (hw : F_X11_nextChange G h a1 a2 post κ) (sz : Nat) : CMq l D t yX11_nextChange cX11_nextChange 4 (some (.object "ShareHouse$Change")) 4 107 G κ sz [.ref h, .int a1, va_rf a2] post := by
  refine c_go (by decide) (by cases a2 <;> exact Nat.le_of_ble_eq_true rfl) ?_
  intro p e s m below meth c ls A hF hr hlk hin hAe hH hA hE hl
  unfold cB
  rw [hAe]
  clear hAe
  have hF : FX p m c cX11_nextChange 4 s _ RX11 D t := hF
  have hx := hF.1.1
  have hb := hF.1.2.1
  have hl : lv_has ls 4 [(0, .ref h), (1, .int a1), (2, va_rf a2)] := (by have h2 := hl; clear hw; revert h2; cases a2 <;> exact id)
  unfold F_X11_nextChange at hw
  refine lv_aload_n hx hb dX11_nextChange_0 rfl (lv_at hl 0 rfl) ?_
  refine cw_getIr (a := h) hF hH fk_X11_182 dX11_nextChange_1 hw (fun z1 hw => ?_)
  obtain ⟨K4, hK5, hw⟩ := jc_open hw
  refine cw_join (K := K4) 23 (fun (x2 : Unit) => [(2, va_rf a2), (1, .int a1), (0, .ref h)]) (fun (x2 : Unit) => []) hl hH (fun x2 κ3 ls H locs cells slots hl hw hH => ?_) (fun jn6 => ?_)
  · have hw := hK5 x2 κ3 hw
    have hl : lv_has ls 4 [(2, va_rf a2), (1, .int a1), (0, .ref h)] := hl
    refine lv_aload_n hx hb dX11_nextChange_23 rfl (lv_at hl 2 rfl) ?_
    refine cw_getPr (a := h) hF hH fk_X11_38 dX11_nextChange_24 hw (fun z7 hw => ?_)
    refine lv_aload_n hx hb dX11_nextChange_27 rfl (lv_at hl 2 rfl) ?_
    refine cw_getIr (a := h) hF hH fk_X11_182 dX11_nextChange_28 hw (fun z8 hw => ?_)
    refine cw_aald (q := z7) hF hH dX11_nextChange_31 hw (fun z9 hw => ?_)
    refine w_astoreq_n (lv' := [(3, va_rf z9), (2, va_rf a2), (1, .int a1), (0, .ref h)]) hF dX11_nextChange_32 rfl hl (by decide) (by generalize a2 = y; cases y <;> rfl) (fun ls hl => ?_)
    refine w_aloadq_n hF dX11_nextChange_33 rfl (lv_at hl 0 rfl) ?_
    refine lv_iload_n hx hb dX11_nextChange_34 rfl (lv_at hl 2 rfl) ?_
    refine w_aloadq_n hF dX11_nextChange_35 rfl (lv_at hl 1 rfl) ?_
    refine cw_cVvq (q := z9) (As := [.int a1, va_rf a2]) (rest := []) hF hH hA hE mv_X11_250 ci_X1 (by decide) hw (fun b hw sz => c_X1_fill l D t G _ b a1 a2 _ hw sz) dX11_nextChange_36 ⟨Nat.le_of_ble_eq_true rfl, Nat.le_of_ble_eq_true rfl⟩ rfl hl.1 (Nat.le_of_ble_eq_true rfl) rfl (fun κ10 H locs cells slots hw hH => ?_)
    refine w_aloadq_n hF dX11_nextChange_39 rfl (lv_at hl 0 rfl) ?_
    exact cw_retq (v := z9) hF hH ⟨rfl, rfl⟩ hr (by first | exact Or.inl ⟨_, rfl⟩ | exact Or.inr ⟨_, rfl⟩) hlk dX11_nextChange_40 hw
  · skip
    obtain ⟨K14, hK15, hw⟩ := jc_open hw
    refine cw_join (K := K14) 19 (fun (x12 : Unit) => [(2, va_rf a2), (1, .int a1), (0, .ref h)]) (fun (x12 : Unit) => []) hl hH (fun x12 κ13 ls H locs cells slots hl hw hH => ?_) (fun jn16 => ?_)
    · have hw := hK15 x12 κ13 hw
      have hl : lv_has ls 4 [(2, va_rf a2), (1, .int a1), (0, .ref h)] := hl
      refine lv_aload_n hx hb dX11_nextChange_19 rfl (lv_at hl 2 rfl) ?_
      refine cw_cVv (b := h) (As := []) (rest := []) hF hH hA hE mv_X11_185 ci_X11 (by decide) (fun sz => c_X11_comeToDisk l D t G _ h  _ hw.2 sz) dX11_nextChange_20 hw.1 ⟨Nat.le_of_ble_eq_true rfl, Nat.le_of_ble_eq_true rfl⟩ rfl hl.1 (Nat.le_of_ble_eq_true rfl) rfl (fun κ17 H locs cells slots hw hH => ?_)
      exact jn6 () κ17 ls _ _ _ _ hl hw hH
    · skip
      refine w_if_lt (tgt := 19) hF dX11_nextChange_4 rfl hw (fun hw => ?_) (fun hw => ?_)
      · have hl : lv_has ls 4 [(2, va_rf a2), (1, .int a1), (0, .ref h)] := lv_sub hl [2, 1, 0] rfl
        exact jn16 () κ ls _ _ _ _ hl hw hH
      · refine lv_aload_n hx hb dX11_nextChange_7 rfl (lv_at hl 0 rfl) ?_
        refine cw_getIr (a := h) hF hH fk_X11_182 dX11_nextChange_8 hw (fun z19 hw => ?_)
        refine lv_aload_n hx hb dX11_nextChange_11 rfl (lv_at hl 0 rfl) ?_
        refine cw_getPr (a := h) hF hH fk_X11_38 dX11_nextChange_12 hw (fun z20 hw => ?_)
        refine cw_alen (q := z20) hF hH hE dX11_nextChange_15 hw (fun z21 hw => ?_)
        refine w_icmp_lt (tgt := 23) hF dX11_nextChange_16 rfl hw (fun hw => ?_) (fun hw => ?_)
        · have hl : lv_has ls 4 [(2, va_rf a2), (1, .int a1), (0, .ref h)] := lv_sub hl [2, 1, 0] rfl
          exact jn6 () κ ls _ _ _ _ hl hw hH
        · have hl : lv_has ls 4 [(2, va_rf a2), (1, .int a1), (0, .ref h)] := lv_sub hl [2, 1, 0] rfl
          exact jn16 () κ ls _ _ _ _ hl hw hH
set_option maxRecDepth 100000 in
def F_X11_makeRoot (G : GE) (h : Nat) (post : Int32 → CS → Prop) (κ : CS) : Prop := (h ∈ sL κ.1 ∧ sK κ.1 h = 1) ∧ F_X11_comeToDisk G h  (fun (κ1 : CS) => (h ∈ sL κ1.1 ∧ sK κ1.1 h = 1) ∧ ∀ z3 : Option Nat, z3 = sP κ1.1 h 3 → ∃ b : Nat, z3 = some b ∧ (b ∈ sL κ1.1 ∧ sK κ1.1 b = 6) ∧ F_X9_free G b  (fun (z5 : Option Nat) (κ4 : CS) => ((¬ z5 = none) → (h ∈ sL κ4.1 ∧ sK κ4.1 h = 1) ∧ F_X11_nextChange G h 0 z5 (fun (z7 : Option Nat) (κ6 : CS) => (h ∈ sL κ6.1 ∧ sK κ6.1 h = 1) ∧ ∀ z8 : Int64, z8 = sJ κ6.1 h 7 → ∃ b : Nat, z7 = some b ∧ (b ∈ sL κ6.1 ∧ sK κ6.1 b = 4) ∧ F_X1_beginNode G b (-1) 1 0 z8 (fun (κ9 : CS) => (h ∈ sL κ9.1 ∧ sK κ9.1 h = 1) ∧ ∀ z11 : Option Nat, z11 = sP κ9.1 h 0 → ∃ b : Nat, z11 = some b ∧ (b ∈ sL κ9.1 ∧ sK κ9.1 b = 2) ∧ ∀ z12 : Int32, z12 = sI κ9.1 b 1 → ∃ b : Nat, z7 = some b ∧ (b ∈ sL κ9.1 ∧ sK κ9.1 b = 4) ∧ ∀ z13 : Option Nat, z13 = sP κ9.1 b 4 → ∃ n : Nat, AL G κ9 z13 n ∧ ∀ z14 : Int32, z14 = nI n → ∀ z16 : Int32, z16.toInt = min z12.toInt z14.toInt → ∃ b : Nat, z7 = some b ∧ (b ∈ sL κ9.1 ∧ sK κ9.1 b = 4) ∧ ∀ κ17 : CS, κ17 = (h_uI κ9.1 b 5 z16, κ9.2) → lc (fun (K20 : Int32 → CS → Prop) (x18 : Int32) (κ19 : CS) => ∃ b : Nat, z7 = some b ∧ (b ∈ sL κ19.1 ∧ sK κ19.1 b = 4) ∧ ∀ z22 : Int32, z22 = sI κ19.1 b 5 → ((z22.toInt ≤ x18.toInt) → (h ∈ sL κ19.1 ∧ sK κ19.1 h = 1) ∧ ∀ z23 : Option Nat, z23 = sP κ19.1 h 3 → ∃ b : Nat, z23 = some b ∧ (b ∈ sL κ19.1 ∧ sK κ19.1 b = 6) ∧ F_X9_apply G b z7 (fun (κ24 : CS) => (h ∈ sL κ24.1 ∧ sK κ24.1 h = 1) ∧ ∀ z26 : Option Nat, z26 = sP κ24.1 h 4 → ∃ b : Nat, z26 = some b ∧ (b ∈ sL κ24.1 ∧ sK κ24.1 b = 6) ∧ F_X9_apply G b z7 (fun (κ27 : CS) => ∃ b : Nat, z5 = some b ∧ (b ∈ sL κ27.1 ∧ sK κ27.1 b = 5) ∧ ∀ z29 : Int32, z29 = sI κ27.1 b 0 → post z29 κ27) κ24) κ19) ∧ ((x18.toInt < z22.toInt) → ∃ b : Nat, z7 = some b ∧ (b ∈ sL κ19.1 ∧ sK κ19.1 b = 4) ∧ ∀ z30 : Option Nat, z30 = sP κ19.1 b 4 → (h ∈ sL κ19.1 ∧ sK κ19.1 h = 1) ∧ ∀ z31 : Option Nat, z31 = sP κ19.1 h 0 → ∃ b : Nat, z31 = some b ∧ (b ∈ sL κ19.1 ∧ sK κ19.1 b = 2) ∧ F_X6_number G b x18 1 (fun (z33 : Int64) (κ32 : CS) => ∀ z34 : Int32, z34 = (z33 : Int64).toInt32 → ∀ z35 : Int32, z35 = (z34 : Int32).toInt8.toInt32 → ∃ b : Nat, z30 = some b ∧ (b ∈ sL κ32.1 ∧ sK κ32.1 b = 20) ∧ (0 ≤ x18.toInt ∧ x18.toInt < (sN κ32.1 b : Int)) ∧ ∀ κ36 : CS, κ36 = (h_uI κ32.1 b x18.toInt.toNat (vp_nar .byte z35), κ32.2) → ∀ z37 : Int32, z37 = x18 + 1 → K20 z37 κ36) κ19)) 0 κ17) κ6) κ4) ∧ ((z5 = none) → post (-1) κ4)) κ1) κ
theorem dX11_makeRoot_0 : decode cX11_makeRoot 0 = .ok (.aload_n 0, 1) := by decide +kernel
theorem dX11_makeRoot_1 : decode cX11_makeRoot 1 = .ok (.invokevirtual 185, 3) := by decide +kernel
theorem dX11_makeRoot_4 : decode cX11_makeRoot 4 = .ok (.aload_n 0, 1) := by decide +kernel
theorem dX11_makeRoot_5 : decode cX11_makeRoot 5 = .ok (.getfield 29, 3) := by decide +kernel
theorem dX11_makeRoot_8 : decode cX11_makeRoot 8 = .ok (.invokevirtual 230, 3) := by decide +kernel
theorem dX11_makeRoot_11 : decode cX11_makeRoot 11 = .ok (.astore_n 1, 1) := by decide +kernel
theorem dX11_makeRoot_12 : decode cX11_makeRoot 12 = .ok (.aload_n 1, 1) := by decide +kernel
theorem dX11_makeRoot_13 : decode cX11_makeRoot 13 = .ok (.ifnonnull 5, 3) := by decide +kernel
theorem dX11_makeRoot_16 : decode cX11_makeRoot 16 = .ok (.iconst (-1), 1) := by decide +kernel
theorem dX11_makeRoot_17 : decode cX11_makeRoot 17 = .ok (.ireturn, 1) := by decide +kernel
theorem dX11_makeRoot_18 : decode cX11_makeRoot 18 = .ok (.aload_n 0, 1) := by decide +kernel
theorem dX11_makeRoot_19 : decode cX11_makeRoot 19 = .ok (.iconst 0, 1) := by decide +kernel
theorem dX11_makeRoot_20 : decode cX11_makeRoot 20 = .ok (.aload_n 1, 1) := by decide +kernel
theorem dX11_makeRoot_21 : decode cX11_makeRoot 21 = .ok (.invokevirtual 234, 3) := by decide +kernel
theorem dX11_makeRoot_24 : decode cX11_makeRoot 24 = .ok (.astore_n 2, 1) := by decide +kernel
theorem dX11_makeRoot_25 : decode cX11_makeRoot 25 = .ok (.aload_n 2, 1) := by decide +kernel
theorem dX11_makeRoot_26 : decode cX11_makeRoot 26 = .ok (.iconst (-1), 1) := by decide +kernel
theorem dX11_makeRoot_27 : decode cX11_makeRoot 27 = .ok (.iconst 1, 1) := by decide +kernel
theorem dX11_makeRoot_28 : decode cX11_makeRoot 28 = .ok (.iconst 0, 1) := by decide +kernel
theorem dX11_makeRoot_29 : decode cX11_makeRoot 29 = .ok (.aload_n 0, 1) := by decide +kernel
theorem dX11_makeRoot_30 : decode cX11_makeRoot 30 = .ok (.getfield 157, 3) := by decide +kernel
theorem dX11_makeRoot_33 : decode cX11_makeRoot 33 = .ok (.invokevirtual 238, 3) := by decide +kernel
theorem dX11_makeRoot_36 : decode cX11_makeRoot 36 = .ok (.aload_n 2, 1) := by decide +kernel
theorem dX11_makeRoot_37 : decode cX11_makeRoot 37 = .ok (.aload_n 0, 1) := by decide +kernel
theorem dX11_makeRoot_38 : decode cX11_makeRoot 38 = .ok (.getfield 10, 3) := by decide +kernel
theorem dX11_makeRoot_41 : decode cX11_makeRoot 41 = .ok (.getfield 85, 3) := by decide +kernel
theorem dX11_makeRoot_44 : decode cX11_makeRoot 44 = .ok (.aload_n 2, 1) := by decide +kernel
theorem dX11_makeRoot_45 : decode cX11_makeRoot 45 = .ok (.getfield 242, 3) := by decide +kernel
theorem dX11_makeRoot_48 : decode cX11_makeRoot 48 = .ok (.arraylength, 1) := by decide +kernel
theorem dX11_makeRoot_49 : decode cX11_makeRoot 49 = .ok (.invokestatic 130, 3) := by decide +kernel
theorem dX11_makeRoot_52 : decode cX11_makeRoot 52 = .ok (.putfield 243, 3) := by decide +kernel
theorem dX11_makeRoot_55 : decode cX11_makeRoot 55 = .ok (.iconst 0, 1) := by decide +kernel
theorem dX11_makeRoot_56 : decode cX11_makeRoot 56 = .ok (.istore_n 3, 1) := by decide +kernel
theorem dX11_makeRoot_57 : decode cX11_makeRoot 57 = .ok (.iload_n 3, 1) := by decide +kernel
theorem dX11_makeRoot_58 : decode cX11_makeRoot 58 = .ok (.aload_n 2, 1) := by decide +kernel
theorem dX11_makeRoot_59 : decode cX11_makeRoot 59 = .ok (.getfield 243, 3) := by decide +kernel
theorem dX11_makeRoot_62 : decode cX11_makeRoot 62 = .ok (.if_icmp .ge 26, 3) := by decide +kernel
theorem dX11_makeRoot_65 : decode cX11_makeRoot 65 = .ok (.aload_n 2, 1) := by decide +kernel
theorem dX11_makeRoot_66 : decode cX11_makeRoot 66 = .ok (.getfield 242, 3) := by decide +kernel
theorem dX11_makeRoot_69 : decode cX11_makeRoot 69 = .ok (.iload_n 3, 1) := by decide +kernel
theorem dX11_makeRoot_70 : decode cX11_makeRoot 70 = .ok (.aload_n 0, 1) := by decide +kernel
theorem dX11_makeRoot_71 : decode cX11_makeRoot 71 = .ok (.getfield 10, 3) := by decide +kernel
theorem dX11_makeRoot_74 : decode cX11_makeRoot 74 = .ok (.iload_n 3, 1) := by decide +kernel
theorem dX11_makeRoot_75 : decode cX11_makeRoot 75 = .ok (.iconst 1, 1) := by decide +kernel
theorem dX11_makeRoot_76 : decode cX11_makeRoot 76 = .ok (.invokevirtual 204, 3) := by decide +kernel
theorem dX11_makeRoot_79 : decode cX11_makeRoot 79 = .ok (.l2i, 1) := by decide +kernel
theorem dX11_makeRoot_80 : decode cX11_makeRoot 80 = .ok (.i2b, 1) := by decide +kernel
theorem dX11_makeRoot_81 : decode cX11_makeRoot 81 = .ok (.bastore, 1) := by decide +kernel
theorem dX11_makeRoot_82 : decode cX11_makeRoot 82 = .ok (.iinc 3 1, 3) := by decide +kernel
theorem dX11_makeRoot_85 : decode cX11_makeRoot 85 = .ok (.goto (-28), 3) := by decide +kernel
theorem dX11_makeRoot_88 : decode cX11_makeRoot 88 = .ok (.aload_n 0, 1) := by decide +kernel
theorem dX11_makeRoot_89 : decode cX11_makeRoot 89 = .ok (.getfield 29, 3) := by decide +kernel
theorem dX11_makeRoot_92 : decode cX11_makeRoot 92 = .ok (.aload_n 2, 1) := by decide +kernel
theorem dX11_makeRoot_93 : decode cX11_makeRoot 93 = .ok (.invokevirtual 244, 3) := by decide +kernel
theorem dX11_makeRoot_96 : decode cX11_makeRoot 96 = .ok (.aload_n 0, 1) := by decide +kernel
theorem dX11_makeRoot_97 : decode cX11_makeRoot 97 = .ok (.getfield 33, 3) := by decide +kernel
theorem dX11_makeRoot_100 : decode cX11_makeRoot 100 = .ok (.aload_n 2, 1) := by decide +kernel
theorem dX11_makeRoot_101 : decode cX11_makeRoot 101 = .ok (.invokevirtual 244, 3) := by decide +kernel
theorem dX11_makeRoot_104 : decode cX11_makeRoot 104 = .ok (.aload_n 1, 1) := by decide +kernel
theorem dX11_makeRoot_105 : decode cX11_makeRoot 105 = .ok (.getfield 248, 3) := by decide +kernel
theorem dX11_makeRoot_108 : decode cX11_makeRoot 108 = .ok (.ireturn, 1) := by decide +kernel
set_option maxRecDepth 100000 in
set_option maxHeartbeats 4000000 in
theorem c_X11_makeRoot (l : Launch) (D : va_G) (t : Nat → ClassId) (G : GE) (κ : CS) (h : Nat) (post : Int32 → CS → Prop) (hw : F_X11_makeRoot G h post κ) (sz : Nat) : CMi l D t yX11_makeRoot cX11_makeRoot 4 (some .int) 5 130 G κ sz [.ref h] post := by
  refine c_go (by decide) (Nat.le_of_ble_eq_true rfl) ?_
  intro p e s m below meth c ls A hF hr hlk hin hAe hH hA hE hl
  unfold cB
  rw [hAe]
  clear hAe
  have hF : FX p m c cX11_makeRoot 4 s _ RX11 D t := hF
  have hx := hF.1.1
  have hb := hF.1.2.1
  have hl : lv_has ls 4 [(0, .ref h)] := hl
  unfold F_X11_makeRoot at hw
  refine lv_aload_n hx hb dX11_makeRoot_0 rfl (lv_at hl 0 rfl) ?_
  refine cw_cVv (b := h) (As := []) (rest := []) hF hH hA hE mv_X11_185 ci_X11 (by decide) (fun sz => c_X11_comeToDisk l D t G _ h  _ hw.2 sz) dX11_makeRoot_1 hw.1 ⟨Nat.le_of_ble_eq_true rfl, Nat.le_of_ble_eq_true rfl⟩ rfl hl.1 (Nat.le_of_ble_eq_true rfl) rfl (fun κ1 H locs cells slots hw hH => ?_)
  refine lv_aload_n hx hb dX11_makeRoot_4 rfl (lv_at hl 0 rfl) ?_
  refine cw_getPr (a := h) hF hH fk_X11_29 dX11_makeRoot_5 hw (fun z3 hw => ?_)
  refine cw_cVqq (q := z3) (As := []) (rest := []) hF hH hA hE mv_X11_230 ci_X9 (by decide) hw (fun b hw sz => c_X9_free l D t G _ b  _ hw sz) dX11_makeRoot_8 ⟨Nat.le_of_ble_eq_true rfl, Nat.le_of_ble_eq_true rfl⟩ rfl hl.1 (Nat.le_of_ble_eq_true rfl) rfl (fun z5 κ4 H locs cells slots hw hH => ?_)
  refine w_astoreq_n (lv' := [(1, va_rf z5), (0, .ref h)]) hF dX11_makeRoot_11 rfl hl (by decide) rfl (fun ls hl => ?_)
  refine w_aloadq_n hF dX11_makeRoot_12 rfl (lv_at hl 0 rfl) ?_
  refine cw_ifnonnull (q := z5) (tgt := 18) hF dX11_makeRoot_13 rfl hw (fun hw => ?_) (fun hw => ?_)
  · refine lv_aload_n hx hb dX11_makeRoot_18 rfl (lv_at hl 1 rfl) ?_
    refine lv_iconst (v := 0) hx hb dX11_makeRoot_19 (by decide) ?_
    refine w_aloadq_n hF dX11_makeRoot_20 rfl (lv_at hl 0 rfl) ?_
    refine cw_cVq (b := h) (As := [.int 0, va_rf z5]) (rest := []) hF hH hA hE mv_X11_234 ci_X11 (by decide) (fun sz => c_X11_nextChange l D t G _ h 0 z5 _ hw.2 sz) dX11_makeRoot_21 hw.1 ⟨Nat.le_of_ble_eq_true rfl, Nat.le_of_ble_eq_true rfl⟩ rfl hl.1 (Nat.le_of_ble_eq_true rfl) rfl (fun z7 κ6 H locs cells slots hw hH => ?_)
    refine w_astoreq_n (lv' := [(2, va_rf z7), (1, va_rf z5), (0, .ref h)]) hF dX11_makeRoot_24 rfl hl (by decide) (by generalize z5 = y; cases y <;> rfl) (fun ls hl => ?_)
    refine w_aloadq_n hF dX11_makeRoot_25 rfl (lv_at hl 0 rfl) ?_
    refine lv_iconst (v := (-1)) hx hb dX11_makeRoot_26 (by decide) ?_
    refine lv_iconst (v := 1) hx hb dX11_makeRoot_27 (by decide) ?_
    refine lv_iconst (v := 0) hx hb dX11_makeRoot_28 (by decide) ?_
    refine lv_aload_n hx hb dX11_makeRoot_29 rfl (lv_at hl 2 rfl) ?_
    refine cw_getJr (a := h) hF hH fk_X11_157 dX11_makeRoot_30 hw (fun z8 hw => ?_)
    refine cw_cVvq (q := z7) (As := [.int (-1), .int 1, .int 0, .long z8]) (rest := []) hF hH hA hE mv_X11_238 ci_X1 (by decide) hw (fun b hw sz => c_X1_beginNode l D t G _ b (-1) 1 0 z8 _ hw sz) dX11_makeRoot_33 ⟨Nat.le_of_ble_eq_true rfl, Nat.le_of_ble_eq_true rfl⟩ rfl hl.1 (Nat.le_of_ble_eq_true rfl) rfl (fun κ9 H locs cells slots hw hH => ?_)
    refine w_aloadq_n hF dX11_makeRoot_36 rfl (lv_at hl 0 rfl) ?_
    refine lv_aload_n hx hb dX11_makeRoot_37 rfl (lv_at hl 2 rfl) ?_
    refine cw_getPr (a := h) hF hH fk_X11_10 dX11_makeRoot_38 hw (fun z11 hw => ?_)
    refine cw_getI (q := z11) hF hH fk_X11_85 dX11_makeRoot_41 hw (fun z12 hw => ?_)
    refine w_aloadq_n hF dX11_makeRoot_44 rfl (lv_at hl 0 rfl) ?_
    refine cw_getP (q := z7) hF hH fk_X11_242 dX11_makeRoot_45 hw (fun z13 hw => ?_)
    refine cw_alen (q := z13) hF hH hE dX11_makeRoot_48 hw (fun z14 hw => ?_)
    refine cw_mmin hF hH hl.1 (wc_15 33 rfl) (wc_10 25 rfl) (wc_5 5 rfl) (wc_10 24 rfl) (Nat.le_of_ble_eq_true rfl) (by simp only [List.map_cons, List.map_nil, cat_rf]; exact Nat.le_of_ble_eq_true rfl) dX11_makeRoot_49 hw (fun z16 hw => ?_)
    refine cw_putI (q := z7) (v := z16) hF hH fk_X11_243 dX11_makeRoot_52 rfl rfl rfl hw (fun κ17 H locs cells slots hw hH => ?_)
    refine lv_iconst (v := 0) hx hb dX11_makeRoot_55 (by decide) ?_
    refine lv_istore_n (lv' := [(3, .int 0), (2, va_rf z7), (1, va_rf z5), (0, .ref h)]) hx hb dX11_makeRoot_56 rfl hl (by decide) (by generalize z7 = y; cases y <;> rfl) (fun ls hl => ?_)
    refine cw_loop (β := Int32) (fun x18 => [(3, .int x18), (2, va_rf z7), (1, va_rf z5), (0, .ref h)]) 0 hl hw hH (fun K20 x18 κ19 ls H locs cells slots hl hw hH ih21 => ?_)
    have hl : lv_has ls 4 [(3, .int x18), (2, va_rf z7), (1, va_rf z5), (0, .ref h)] := hl
    refine lv_iload_n hx hb dX11_makeRoot_57 rfl (lv_at hl 0 rfl) ?_
    refine w_aloadq_n hF dX11_makeRoot_58 rfl (lv_at hl 1 rfl) ?_
    refine cw_getI (q := z7) hF hH fk_X11_243 dX11_makeRoot_59 hw (fun z22 hw => ?_)
    refine w_icmp_ge (tgt := 88) hF dX11_makeRoot_62 rfl hw (fun hw => ?_) (fun hw => ?_)
    · refine lv_aload_n hx hb dX11_makeRoot_88 rfl (lv_at hl 3 rfl) ?_
      refine cw_getPr (a := h) hF hH fk_X11_29 dX11_makeRoot_89 hw (fun z23 hw => ?_)
      refine w_aloadq_n hF dX11_makeRoot_92 rfl (lv_at hl 1 rfl) ?_
      refine cw_cVvq (q := z23) (As := [va_rf z7]) (rest := []) hF hH hA hE mv_X11_244 ci_X9 (by decide) hw (fun b hw sz => c_X9_apply l D t G _ b z7 _ hw sz) dX11_makeRoot_93 ⟨Nat.le_of_ble_eq_true rfl, Nat.le_of_ble_eq_true rfl⟩ rfl hl.1 (Nat.le_of_ble_eq_true rfl) rfl (fun κ24 H locs cells slots hw hH => ?_)
      refine lv_aload_n hx hb dX11_makeRoot_96 rfl (lv_at hl 3 rfl) ?_
      refine cw_getPr (a := h) hF hH fk_X11_33 dX11_makeRoot_97 hw (fun z26 hw => ?_)
      refine w_aloadq_n hF dX11_makeRoot_100 rfl (lv_at hl 1 rfl) ?_
      refine cw_cVvq (q := z26) (As := [va_rf z7]) (rest := []) hF hH hA hE mv_X11_244 ci_X9 (by decide) hw (fun b hw sz => c_X9_apply l D t G _ b z7 _ hw sz) dX11_makeRoot_101 ⟨Nat.le_of_ble_eq_true rfl, Nat.le_of_ble_eq_true rfl⟩ rfl hl.1 (Nat.le_of_ble_eq_true rfl) rfl (fun κ27 H locs cells slots hw hH => ?_)
      refine w_aloadq_n hF dX11_makeRoot_104 rfl (lv_at hl 2 rfl) ?_
      refine cw_getI (q := z5) hF hH fk_X11_248 dX11_makeRoot_105 hw (fun z29 hw => ?_)
      exact cw_reti hF hH ⟨rfl, rfl⟩ hr rfl hlk dX11_makeRoot_108 hw
    · refine w_aloadq_n hF dX11_makeRoot_65 rfl (lv_at hl 1 rfl) ?_
      refine cw_getP (q := z7) hF hH fk_X11_242 dX11_makeRoot_66 hw (fun z30 hw => ?_)
      refine lv_iload_n hx hb dX11_makeRoot_69 rfl (lv_at hl 0 rfl) ?_
      refine lv_aload_n hx hb dX11_makeRoot_70 rfl (lv_at hl 3 rfl) ?_
      refine cw_getPr (a := h) hF hH fk_X11_10 dX11_makeRoot_71 hw (fun z31 hw => ?_)
      refine lv_iload_n hx hb dX11_makeRoot_74 rfl (lv_at hl 0 rfl) ?_
      refine lv_iconst (v := 1) hx hb dX11_makeRoot_75 (by decide) ?_
      refine cw_cVlq (q := z31) (As := [.int x18, .int 1]) (rest := [.int x18, va_rf z30]) hF hH hA hE mv_X11_204 ci_X6 (by decide) hw (fun b hw sz => c_X6_number l D t G _ b x18 1 _ hw sz) dX11_makeRoot_76 ⟨Nat.le_of_ble_eq_true rfl, Nat.le_of_ble_eq_true rfl⟩ rfl hl.1 (by simp only [List.map_cons, List.map_nil, cat_rf]; exact Nat.le_of_ble_eq_true rfl) rfl (fun z33 κ32 H locs cells slots hw hH => ?_)
      refine lv_l2i hx hb dX11_makeRoot_79 rfl ?_
      refine w_nmi hw (fun z34 hw => ?_)
      refine lv_i2b hx hb dX11_makeRoot_80 rfl ?_
      refine w_nmi hw (fun z35 hw => ?_)
      refine cw_bast (q := z30) hF hH dX11_makeRoot_81 hw (fun κ36 H locs cells slots hw hH => ?_)
      obtain ⟨z37, ez37⟩ : ∃ z : Int32, z = x18 + 1 := ⟨_, rfl⟩
      have hw := hw z37 ez37
      refine lv_iinc (lv' := [(3, .int z37), (2, va_rf z7), (1, va_rf z5), (0, .ref h)]) (k := 0) (v := z37) hx hb dX11_makeRoot_82 hl rfl ez37.symm (by decide) (by generalize z7 = y; cases y <;> rfl) (fun ls hl => ?_)
      refine lv_goto (tgt := 57) hx hb dX11_makeRoot_85 rfl ?_
      exact ih21 z37 κ36 ls _ _ _ _ hl hw hH
  · refine lv_iconst (v := (-1)) hx hb dX11_makeRoot_16 (by decide) ?_
    exact cw_reti hF hH ⟨rfl, rfl⟩ hr rfl hlk dX11_makeRoot_17 hw
set_option maxRecDepth 100000 in
def F_X11_share (G : GE) (h : Nat) (a1 : Int32) (post : Int32 → CS → Prop) (κ : CS) : Prop := jc (fun (K3 : Int32 → CS → Prop) => jc (fun (K19 : Unit → CS → Prop) => ((a1.toInt < 0) → K19 () κ) ∧ ((0 ≤ a1.toInt) → (h ∈ sL κ.1 ∧ sK κ.1 h = 1) ∧ ∀ z22 : Option Nat, z22 = sP κ.1 h 2 → ∃ n : Nat, AL G κ z22 n ∧ ∀ z23 : Int32, z23 = nI n → ((z23.toInt ≤ a1.toInt) → K19 () κ) ∧ ((a1.toInt < z23.toInt) → (h ∈ sL κ.1 ∧ sK κ.1 h = 1) ∧ ∀ z24 : Option Nat, z24 = sP κ.1 h 2 → ∃ b : Nat, z24 = some b ∧ (b ∈ sL κ.1 ∧ sK κ.1 b = 21) ∧ (0 ≤ a1.toInt ∧ a1.toInt < (sN κ.1 b : Int)) ∧ ∀ z25 : Int32, z25 = sI κ.1 b a1.toInt.toNat → ((¬ z25.toInt = ((-1) : Int32).toInt) → K19 () κ) ∧ ((z25.toInt = ((-1) : Int32).toInt) → (h ∈ sL κ.1 ∧ sK κ.1 h = 1) ∧ F_X11_tapeIsShareName G h  (fun (z27 : Int32) (κ26 : CS) => ((z27.toInt = 0) → K19 () κ26) ∧ ((¬ z27.toInt = 0) → (h ∈ sL κ26.1 ∧ sK κ26.1 h = 1) ∧ ∀ z28 : Option Nat, z28 = sP κ26.1 h 0 → (h ∈ sL κ26.1 ∧ sK κ26.1 h = 1) ∧ ∀ z29 : Option Nat, z29 = sP κ26.1 h 0 → ∃ b : Nat, z29 = some b ∧ (b ∈ sL κ26.1 ∧ sK κ26.1 b = 2) ∧ ∀ z30 : Int32, z30 = sI κ26.1 b 1 → (h ∈ sL κ26.1 ∧ sK κ26.1 h = 1) ∧ F_X11_rootNamed G h z28 0 1 z30 (fun (z32 : Option Nat) (κ31 : CS) => ((¬ z32 = none) → K19 () κ31) ∧ ((z32 = none) → (h ∈ sL κ31.1 ∧ sK κ31.1 h = 1) ∧ ∀ z33 : Option Nat, z33 = sP κ31.1 h 3 → ∃ b : Nat, z33 = some b ∧ (b ∈ sL κ31.1 ∧ sK κ31.1 b = 6) ∧ ∀ z34 : Int32, z34 = sI κ31.1 b 1 → (((80 : Int32).toInt ≤ z34.toInt) → K19 () κ31) ∧ ((z34.toInt < (80 : Int32).toInt) → K3 1 κ31))) κ26)) κ)))) (fun (x17 : Unit) (κ18 : CS) => K3 0 κ18)) (fun (x1 : Int32) (κ2 : CS) => jc (fun (K8 : Unit → CS → Prop) => ((x1.toInt = 0) → K8 () κ2) ∧ ((¬ x1.toInt = 0) → (h ∈ sL κ2.1 ∧ sK κ2.1 h = 1) ∧ ∀ z13 : Option Nat, z13 = sP κ2.1 h 2 → (h ∈ sL κ2.1 ∧ sK κ2.1 h = 1) ∧ F_X11_makeRoot G h  (fun (z15 : Int32) (κ14 : CS) => ∃ b : Nat, z13 = some b ∧ (b ∈ sL κ14.1 ∧ sK κ14.1 b = 21) ∧ (0 ≤ a1.toInt ∧ a1.toInt < (sN κ14.1 b : Int)) ∧ ∀ κ16 : CS, κ16 = (h_uI κ14.1 b a1.toInt.toNat z15, κ14.2) → K8 () κ16) κ2)) (fun (x6 : Unit) (κ7 : CS) => (h ∈ sL κ7.1 ∧ sK κ7.1 h = 1) ∧ ∀ z11 : Option Nat, z11 = sP κ7.1 h 0 → ∃ b : Nat, z11 = some b ∧ (b ∈ sL κ7.1 ∧ sK κ7.1 b = 2) ∧ ∀ κ12 : CS, κ12 = (h_uI κ7.1 b 1 0, κ7.2) → (0 ≤ x1.toInt ∧ x1.toInt ≤ 1) ∧ post x1 κ12))
theorem dX11_share_0 : decode cX11_share 0 = .ok (.iload_n 1, 1) := by decide +kernel
theorem dX11_share_1 : decode cX11_share 1 = .ok (.ifCond .lt 65, 3) := by decide +kernel
theorem dX11_share_4 : decode cX11_share 4 = .ok (.iload_n 1, 1) := by decide +kernel
theorem dX11_share_5 : decode cX11_share 5 = .ok (.aload_n 0, 1) := by decide +kernel
theorem dX11_share_6 : decode cX11_share 6 = .ok (.getfield 22, 3) := by decide +kernel
theorem dX11_share_9 : decode cX11_share 9 = .ok (.arraylength, 1) := by decide +kernel
theorem dX11_share_10 : decode cX11_share 10 = .ok (.if_icmp .ge 56, 3) := by decide +kernel
theorem dX11_share_13 : decode cX11_share 13 = .ok (.aload_n 0, 1) := by decide +kernel
theorem dX11_share_14 : decode cX11_share 14 = .ok (.getfield 22, 3) := by decide +kernel
theorem dX11_share_17 : decode cX11_share 17 = .ok (.iload_n 1, 1) := by decide +kernel
theorem dX11_share_18 : decode cX11_share 18 = .ok (.iaload, 1) := by decide +kernel
theorem dX11_share_19 : decode cX11_share 19 = .ok (.iconst (-1), 1) := by decide +kernel
theorem dX11_share_20 : decode cX11_share 20 = .ok (.if_icmp .ne 46, 3) := by decide +kernel
theorem dX11_share_23 : decode cX11_share 23 = .ok (.aload_n 0, 1) := by decide +kernel
theorem dX11_share_24 : decode cX11_share 24 = .ok (.invokevirtual 93, 3) := by decide +kernel
theorem dX11_share_27 : decode cX11_share 27 = .ok (.ifCond .eq 39, 3) := by decide +kernel
theorem dX11_share_30 : decode cX11_share 30 = .ok (.aload_n 0, 1) := by decide +kernel
theorem dX11_share_31 : decode cX11_share 31 = .ok (.aload_n 0, 1) := by decide +kernel
theorem dX11_share_32 : decode cX11_share 32 = .ok (.getfield 10, 3) := by decide +kernel
theorem dX11_share_35 : decode cX11_share 35 = .ok (.iconst 0, 1) := by decide +kernel
theorem dX11_share_36 : decode cX11_share 36 = .ok (.iconst 1, 1) := by decide +kernel
theorem dX11_share_37 : decode cX11_share 37 = .ok (.aload_n 0, 1) := by decide +kernel
theorem dX11_share_38 : decode cX11_share 38 = .ok (.getfield 10, 3) := by decide +kernel
theorem dX11_share_41 : decode cX11_share 41 = .ok (.getfield 85, 3) := by decide +kernel
theorem dX11_share_44 : decode cX11_share 44 = .ok (.invokevirtual 97, 3) := by decide +kernel
theorem dX11_share_47 : decode cX11_share 47 = .ok (.ifnonnull 19, 3) := by decide +kernel
theorem dX11_share_50 : decode cX11_share 50 = .ok (.aload_n 0, 1) := by decide +kernel
theorem dX11_share_51 : decode cX11_share 51 = .ok (.getfield 29, 3) := by decide +kernel
theorem dX11_share_54 : decode cX11_share 54 = .ok (.getfield 101, 3) := by decide +kernel
theorem dX11_share_57 : decode cX11_share 57 = .ok (.bipush 80, 2) := by decide +kernel
theorem dX11_share_59 : decode cX11_share 59 = .ok (.if_icmp .ge 7, 3) := by decide +kernel
theorem dX11_share_62 : decode cX11_share 62 = .ok (.iconst 1, 1) := by decide +kernel
theorem dX11_share_63 : decode cX11_share 63 = .ok (.goto 4, 3) := by decide +kernel
theorem dX11_share_66 : decode cX11_share 66 = .ok (.iconst 0, 1) := by decide +kernel
theorem dX11_share_67 : decode cX11_share 67 = .ok (.istore_n 2, 1) := by decide +kernel
theorem dX11_share_68 : decode cX11_share 68 = .ok (.iload_n 2, 1) := by decide +kernel
theorem dX11_share_69 : decode cX11_share 69 = .ok (.ifCond .eq 13, 3) := by decide +kernel
theorem dX11_share_72 : decode cX11_share 72 = .ok (.aload_n 0, 1) := by decide +kernel
theorem dX11_share_73 : decode cX11_share 73 = .ok (.getfield 22, 3) := by decide +kernel
theorem dX11_share_76 : decode cX11_share 76 = .ok (.iload_n 1, 1) := by decide +kernel
theorem dX11_share_77 : decode cX11_share 77 = .ok (.aload_n 0, 1) := by decide +kernel
theorem dX11_share_78 : decode cX11_share 78 = .ok (.invokevirtual 104, 3) := by decide +kernel
theorem dX11_share_81 : decode cX11_share 81 = .ok (.iastore, 1) := by decide +kernel
theorem dX11_share_82 : decode cX11_share 82 = .ok (.aload_n 0, 1) := by decide +kernel
theorem dX11_share_83 : decode cX11_share 83 = .ok (.getfield 10, 3) := by decide +kernel
theorem dX11_share_86 : decode cX11_share 86 = .ok (.iconst 0, 1) := by decide +kernel
theorem dX11_share_87 : decode cX11_share 87 = .ok (.putfield 85, 3) := by decide +kernel
theorem dX11_share_90 : decode cX11_share 90 = .ok (.iload_n 2, 1) := by decide +kernel
theorem dX11_share_91 : decode cX11_share 91 = .ok (.ireturn, 1) := by decide +kernel
set_option maxRecDepth 100000 in
set_option maxHeartbeats 4000000 in
theorem c_X11_share (l : Launch) (D : va_G) (t : Nat → ClassId) (G : GE) (κ : CS) (h : Nat) (a1 : Int32) (post : Int32 → CS → Prop) (hw : F_X11_share G h a1 post κ) (sz : Nat) : CMi l D t yX11_share cX11_share 3 (some .boolean) 6 153 G κ sz [.ref h, .int a1] post := by
  refine c_go (by decide) (Nat.le_of_ble_eq_true rfl) ?_
  intro p e s m below meth c ls A hF hr hlk hin hAe hH hA hE hl
  unfold cB
  rw [hAe]
  clear hAe
  have hF : FX p m c cX11_share 3 s _ RX11 D t := hF
  have hx := hF.1.1
  have hb := hF.1.2.1
  have hl : lv_has ls 3 [(0, .ref h), (1, .int a1)] := hl
  unfold F_X11_share at hw
  refine lv_iload_n hx hb dX11_share_0 rfl (lv_at hl 1 rfl) ?_
  obtain ⟨K3, hK4, hw⟩ := jc_open hw
  refine cw_join (K := K3) 67 (fun (x1 : Int32) => [(1, .int a1), (0, .ref h)]) (fun (x1 : Int32) => [.int x1]) hl hH (fun x1 κ2 ls H locs cells slots hl hw hH => ?_) (fun jn5 => ?_)
  · have hw := hK4 x1 κ2 hw
    have hl : lv_has ls 3 [(1, .int a1), (0, .ref h)] := hl
    refine lv_istore_n (lv' := [(2, .int x1), (1, .int a1), (0, .ref h)]) hx hb dX11_share_67 rfl hl (by decide) rfl (fun ls hl => ?_)
    refine lv_iload_n hx hb dX11_share_68 rfl (lv_at hl 0 rfl) ?_
    obtain ⟨K8, hK9, hw⟩ := jc_open hw
    refine cw_join (K := K8) 82 (fun (x6 : Unit) => [(2, .int x1), (0, .ref h)]) (fun (x6 : Unit) => []) hl hH (fun x6 κ7 ls H locs cells slots hl hw hH => ?_) (fun jn10 => ?_)
    · have hw := hK9 x6 κ7 hw
      have hl : lv_has ls 3 [(2, .int x1), (0, .ref h)] := hl
      refine lv_aload_n hx hb dX11_share_82 rfl (lv_at hl 1 rfl) ?_
      refine cw_getPr (a := h) hF hH fk_X11_10 dX11_share_83 hw (fun z11 hw => ?_)
      refine lv_iconst (v := 0) hx hb dX11_share_86 (by decide) ?_
      refine cw_putI (q := z11) (v := 0) hF hH fk_X11_85 dX11_share_87 rfl rfl rfl hw (fun κ12 H locs cells slots hw hH => ?_)
      refine lv_iload_n hx hb dX11_share_90 rfl (lv_at hl 0 rfl) ?_
      exact cw_retz hF hH ⟨rfl, rfl⟩ hr hlk dX11_share_91 hw
    · skip
      refine w_if_eq (tgt := 82) hF dX11_share_69 rfl hw (fun hw => ?_) (fun hw => ?_)
      · have hl : lv_has ls 3 [(2, .int x1), (0, .ref h)] := lv_sub hl [0, 2] rfl
        exact jn10 () κ2 ls _ _ _ _ hl hw hH
      · refine lv_aload_n hx hb dX11_share_72 rfl (lv_at hl 2 rfl) ?_
        refine cw_getPr (a := h) hF hH fk_X11_22 dX11_share_73 hw (fun z13 hw => ?_)
        refine lv_iload_n hx hb dX11_share_76 rfl (lv_at hl 1 rfl) ?_
        refine lv_aload_n hx hb dX11_share_77 rfl (lv_at hl 2 rfl) ?_
        refine cw_cVi (b := h) (As := []) (rest := [.int a1, va_rf z13]) hF hH hA hE mv_X11_104 ci_X11 (by decide) (fun sz => c_X11_makeRoot l D t G _ h  _ hw.2 sz) dX11_share_78 hw.1 ⟨Nat.le_of_ble_eq_true rfl, Nat.le_of_ble_eq_true rfl⟩ rfl hl.1 (by simp only [List.map_cons, List.map_nil, cat_rf]; exact Nat.le_of_ble_eq_true rfl) rfl (fun z15 κ14 H locs cells slots hw hH => ?_)
        refine cw_iast (q := z13) hF hH dX11_share_81 hw (fun κ16 H locs cells slots hw hH => ?_)
        have hl : lv_has ls 3 [(2, .int x1), (0, .ref h)] := lv_sub hl [0, 2] rfl
        exact jn10 () κ16 ls _ _ _ _ hl hw hH
  · skip
    obtain ⟨K19, hK20, hw⟩ := jc_open hw
    refine cw_join (K := K19) 66 (fun (x17 : Unit) => [(1, .int a1), (0, .ref h)]) (fun (x17 : Unit) => []) hl hH (fun x17 κ18 ls H locs cells slots hl hw hH => ?_) (fun jn21 => ?_)
    · have hw := hK20 x17 κ18 hw
      have hl : lv_has ls 3 [(1, .int a1), (0, .ref h)] := hl
      refine lv_iconst (v := 0) hx hb dX11_share_66 (by decide) ?_
      exact jn5 0 κ18 ls _ _ _ _ hl hw hH
    · skip
      refine w_if_lt (tgt := 66) hF dX11_share_1 rfl hw (fun hw => ?_) (fun hw => ?_)
      · have hl : lv_has ls 3 [(1, .int a1), (0, .ref h)] := lv_sub hl [1, 0] rfl
        exact jn21 () κ ls _ _ _ _ hl hw hH
      · refine lv_iload_n hx hb dX11_share_4 rfl (lv_at hl 1 rfl) ?_
        refine lv_aload_n hx hb dX11_share_5 rfl (lv_at hl 0 rfl) ?_
        refine cw_getPr (a := h) hF hH fk_X11_22 dX11_share_6 hw (fun z22 hw => ?_)
        refine cw_alen (q := z22) hF hH hE dX11_share_9 hw (fun z23 hw => ?_)
        refine w_icmp_ge (tgt := 66) hF dX11_share_10 rfl hw (fun hw => ?_) (fun hw => ?_)
        · have hl : lv_has ls 3 [(1, .int a1), (0, .ref h)] := lv_sub hl [1, 0] rfl
          exact jn21 () κ ls _ _ _ _ hl hw hH
        · refine lv_aload_n hx hb dX11_share_13 rfl (lv_at hl 0 rfl) ?_
          refine cw_getPr (a := h) hF hH fk_X11_22 dX11_share_14 hw (fun z24 hw => ?_)
          refine lv_iload_n hx hb dX11_share_17 rfl (lv_at hl 1 rfl) ?_
          refine cw_iald (q := z24) hF hH dX11_share_18 hw (fun z25 hw => ?_)
          refine lv_iconst (v := (-1)) hx hb dX11_share_19 (by decide) ?_
          refine w_icmp_ne (tgt := 66) hF dX11_share_20 rfl hw (fun hw => ?_) (fun hw => ?_)
          · have hl : lv_has ls 3 [(1, .int a1), (0, .ref h)] := lv_sub hl [1, 0] rfl
            exact jn21 () κ ls _ _ _ _ hl hw hH
          · refine lv_aload_n hx hb dX11_share_23 rfl (lv_at hl 0 rfl) ?_
            refine cw_cVi (b := h) (As := []) (rest := []) hF hH hA hE mv_X11_93 ci_X11 (by decide) (fun sz => c_X11_tapeIsShareName l D t G _ h  _ hw.2 sz) dX11_share_24 hw.1 ⟨Nat.le_of_ble_eq_true rfl, Nat.le_of_ble_eq_true rfl⟩ rfl hl.1 (Nat.le_of_ble_eq_true rfl) rfl (fun z27 κ26 H locs cells slots hw hH => ?_)
            refine w_if_eq (tgt := 66) hF dX11_share_27 rfl hw (fun hw => ?_) (fun hw => ?_)
            · have hl : lv_has ls 3 [(1, .int a1), (0, .ref h)] := lv_sub hl [1, 0] rfl
              exact jn21 () κ26 ls _ _ _ _ hl hw hH
            · refine lv_aload_n hx hb dX11_share_30 rfl (lv_at hl 0 rfl) ?_
              refine lv_aload_n hx hb dX11_share_31 rfl (lv_at hl 0 rfl) ?_
              refine cw_getPr (a := h) hF hH fk_X11_10 dX11_share_32 hw (fun z28 hw => ?_)
              refine lv_iconst (v := 0) hx hb dX11_share_35 (by decide) ?_
              refine lv_iconst (v := 1) hx hb dX11_share_36 (by decide) ?_
              refine lv_aload_n hx hb dX11_share_37 rfl (lv_at hl 0 rfl) ?_
              refine cw_getPr (a := h) hF hH fk_X11_10 dX11_share_38 hw (fun z29 hw => ?_)
              refine cw_getI (q := z29) hF hH fk_X11_85 dX11_share_41 hw (fun z30 hw => ?_)
              refine cw_cVq (b := h) (As := [va_rf z28, .int 0, .int 1, .int z30]) (rest := []) hF hH hA hE mv_X11_97 ci_X11 (by decide) (fun sz => c_X11_rootNamed l D t G _ h z28 0 1 z30 _ hw.2 sz) dX11_share_44 hw.1 ⟨Nat.le_of_ble_eq_true rfl, Nat.le_of_ble_eq_true rfl⟩ rfl hl.1 (Nat.le_of_ble_eq_true rfl) rfl (fun z32 κ31 H locs cells slots hw hH => ?_)
              refine cw_ifnonnull (q := z32) (tgt := 66) hF dX11_share_47 rfl hw (fun hw => ?_) (fun hw => ?_)
              · have hl : lv_has ls 3 [(1, .int a1), (0, .ref h)] := lv_sub hl [1, 0] rfl
                exact jn21 () κ31 ls _ _ _ _ hl hw hH
              · refine lv_aload_n hx hb dX11_share_50 rfl (lv_at hl 0 rfl) ?_
                refine cw_getPr (a := h) hF hH fk_X11_29 dX11_share_51 hw (fun z33 hw => ?_)
                refine cw_getI (q := z33) hF hH fk_X11_101 dX11_share_54 hw (fun z34 hw => ?_)
                refine lv_bipush (v := 80) hx hb dX11_share_57 (by decide) ?_
                refine w_icmp_ge (tgt := 66) hF dX11_share_59 rfl hw (fun hw => ?_) (fun hw => ?_)
                · have hl : lv_has ls 3 [(1, .int a1), (0, .ref h)] := lv_sub hl [1, 0] rfl
                  exact jn21 () κ31 ls _ _ _ _ hl hw hH
                · refine lv_iconst (v := 1) hx hb dX11_share_62 (by decide) ?_
                  refine lv_goto (tgt := 67) hx hb dX11_share_63 rfl ?_
                  have hl : lv_has ls 3 [(1, .int a1), (0, .ref h)] := lv_sub hl [1, 0] rfl
                  exact jn5 1 κ31 ls _ _ _ _ hl hw hH
set_option maxRecDepth 100000 in
def F_X11_connection (G : GE) (h : Nat) (a1 : Int32) (post : Option Nat → CS → Prop) (κ : CS) : Prop := jc (fun (K3 : (Option Nat) → CS → Prop) => jc (fun (K8 : Unit → CS → Prop) => ((a1.toInt < 0) → K8 () κ) ∧ ((0 ≤ a1.toInt) → (h ∈ sL κ.1 ∧ sK κ.1 h = 1) ∧ ∀ z11 : Option Nat, z11 = sP κ.1 h 1 → ∃ n : Nat, AL G κ z11 n ∧ ∀ z12 : Int32, z12 = nI n → ((z12.toInt ≤ a1.toInt) → K8 () κ) ∧ ((a1.toInt < z12.toInt) → (h ∈ sL κ.1 ∧ sK κ.1 h = 1) ∧ ∀ z13 : Option Nat, z13 = sP κ.1 h 1 → ∃ b : Nat, z13 = some b ∧ (b ∈ sL κ.1 ∧ 24 ≤ sK κ.1 b ∧ sK κ.1 b < 28) ∧ (0 ≤ a1.toInt ∧ a1.toInt < (sN κ.1 b : Int)) ∧ ∀ z14 : Option Nat, z14 = sP κ.1 b a1.toInt.toNat → K3 z14 κ))) (fun (x6 : Unit) (κ7 : CS) => K3 (none : Option Nat) κ7)) (fun (x1 : Option Nat) (κ2 : CS) => post x1 κ2)
theorem dX11_connection_0 : decode cX11_connection 0 = .ok (.iload_n 1, 1) := by decide +kernel
theorem dX11_connection_1 : decode cX11_connection 1 = .ok (.ifCond .lt 21, 3) := by decide +kernel
theorem dX11_connection_4 : decode cX11_connection 4 = .ok (.iload_n 1, 1) := by decide +kernel
theorem dX11_connection_5 : decode cX11_connection 5 = .ok (.aload_n 0, 1) := by decide +kernel
theorem dX11_connection_6 : decode cX11_connection 6 = .ok (.getfield 18, 3) := by decide +kernel
theorem dX11_connection_9 : decode cX11_connection 9 = .ok (.arraylength, 1) := by decide +kernel
theorem dX11_connection_10 : decode cX11_connection 10 = .ok (.if_icmp .ge 12, 3) := by decide +kernel
theorem dX11_connection_13 : decode cX11_connection 13 = .ok (.aload_n 0, 1) := by decide +kernel
theorem dX11_connection_14 : decode cX11_connection 14 = .ok (.getfield 18, 3) := by decide +kernel
theorem dX11_connection_17 : decode cX11_connection 17 = .ok (.iload_n 1, 1) := by decide +kernel
theorem dX11_connection_18 : decode cX11_connection 18 = .ok (.aaload, 1) := by decide +kernel
theorem dX11_connection_19 : decode cX11_connection 19 = .ok (.goto 4, 3) := by decide +kernel
theorem dX11_connection_22 : decode cX11_connection 22 = .ok (.aconst_null, 1) := by decide +kernel
theorem dX11_connection_23 : decode cX11_connection 23 = .ok (.areturn, 1) := by decide +kernel
set_option maxRecDepth 100000 in
set_option maxHeartbeats 4000000 in
theorem c_X11_connection (l : Launch) (D : va_G) (t : Nat → ClassId) (G : GE) (κ : CS) (h : Nat) (a1 : Int32) (post : Option Nat → CS → Prop) (hw : F_X11_connection G h a1 post κ) (sz : Nat) : CMq l D t yX11_connection cX11_connection 2 (some (.object "ShareHouse$Conn")) 0 14 G κ sz [.ref h, .int a1] post := by
  refine c_go (by decide) (Nat.le_of_ble_eq_true rfl) ?_
  intro p e s m below meth c ls A hF hr hlk hin hAe hH hA hE hl
  unfold cB
  rw [hAe]
  clear hAe
  have hF : FX p m c cX11_connection 2 s _ RX11 D t := hF
  have hx := hF.1.1
  have hb := hF.1.2.1
  have hl : lv_has ls 2 [(0, .ref h), (1, .int a1)] := hl
  unfold F_X11_connection at hw
  refine lv_iload_n hx hb dX11_connection_0 rfl (lv_at hl 1 rfl) ?_
  obtain ⟨K3, hK4, hw⟩ := jc_open hw
  refine cw_join (K := K3) 23 (fun (x1 : Option Nat) => []) (fun (x1 : Option Nat) => [va_rf x1]) hl hH (fun x1 κ2 ls H locs cells slots hl hw hH => ?_) (fun jn5 => ?_)
  · have hw := hK4 x1 κ2 hw
    have hl : lv_has ls 2 [] := hl
    exact cw_retq (v := x1) hF hH ⟨rfl, rfl⟩ hr (by first | exact Or.inl ⟨_, rfl⟩ | exact Or.inr ⟨_, rfl⟩) hlk dX11_connection_23 hw
  · skip
    obtain ⟨K8, hK9, hw⟩ := jc_open hw
    refine cw_join (K := K8) 22 (fun (x6 : Unit) => []) (fun (x6 : Unit) => []) hl hH (fun x6 κ7 ls H locs cells slots hl hw hH => ?_) (fun jn10 => ?_)
    · have hw := hK9 x6 κ7 hw
      have hl : lv_has ls 2 [] := hl
      refine cw_null dX11_connection_22 hF ?_
      exact jn5 (none : Option Nat) κ7 ls _ _ _ _ hl hw hH
    · skip
      refine w_if_lt (tgt := 22) hF dX11_connection_1 rfl hw (fun hw => ?_) (fun hw => ?_)
      · have hl : lv_has ls 2 [] := lv_sub hl [] rfl
        exact jn10 () κ ls _ _ _ _ hl hw hH
      · refine lv_iload_n hx hb dX11_connection_4 rfl (lv_at hl 1 rfl) ?_
        refine lv_aload_n hx hb dX11_connection_5 rfl (lv_at hl 0 rfl) ?_
        refine cw_getPr (a := h) hF hH fk_X11_18 dX11_connection_6 hw (fun z11 hw => ?_)
        refine cw_alen (q := z11) hF hH hE dX11_connection_9 hw (fun z12 hw => ?_)
        refine w_icmp_ge (tgt := 22) hF dX11_connection_10 rfl hw (fun hw => ?_) (fun hw => ?_)
        · have hl : lv_has ls 2 [] := lv_sub hl [] rfl
          exact jn10 () κ ls _ _ _ _ hl hw hH
        · refine lv_aload_n hx hb dX11_connection_13 rfl (lv_at hl 0 rfl) ?_
          refine cw_getPr (a := h) hF hH fk_X11_18 dX11_connection_14 hw (fun z13 hw => ?_)
          refine lv_iload_n hx hb dX11_connection_17 rfl (lv_at hl 1 rfl) ?_
          refine cw_aald (q := z13) hF hH dX11_connection_18 hw (fun z14 hw => ?_)
          refine lv_goto (tgt := 23) hx hb dX11_connection_19 rfl ?_
          have hl : lv_has ls 2 [] := lv_sub hl [] rfl
          exact jn5 z14 κ ls _ _ _ _ hl hw hH
set_option maxRecDepth 100000 in
def F_X11_connect (G : GE) (h : Nat) (a1 : Int32) (post : Int32 → CS → Prop) (κ : CS) : Prop := (h ∈ sL κ.1 ∧ sK κ.1 h = 1) ∧ F_X11_connection G h a1 (fun (z2 : Option Nat) (κ1 : CS) => jc (fun (K5 : Unit → CS → Prop) => ((z2 = none) → K5 () κ1) ∧ ((¬ z2 = none) → ∃ b : Nat, z2 = some b ∧ (b ∈ sL κ1.1 ∧ sK κ1.1 b = 3) ∧ ∀ z8 : Int32, z8 = sI κ1.1 b 0 → ((z8.toInt = 0) → ∃ b : Nat, z2 = some b ∧ (b ∈ sL κ1.1 ∧ sK κ1.1 b = 3) ∧ F_X2_begin G b  (fun (κ9 : CS) => (0 ≤ (1 : Int32).toInt ∧ (1 : Int32).toInt ≤ 1) ∧ post 1 κ9) κ1) ∧ ((¬ z8.toInt = 0) → K5 () κ1))) (fun (x3 : Unit) (κ4 : CS) => (0 ≤ (0 : Int32).toInt ∧ (0 : Int32).toInt ≤ 1) ∧ post 0 κ4)) κ
theorem dX11_connect_0 : decode cX11_connect 0 = .ok (.aload_n 0, 1) := by decide +kernel
theorem dX11_connect_1 : decode cX11_connect 1 = .ok (.iload_n 1, 1) := by decide +kernel
theorem dX11_connect_2 : decode cX11_connect 2 = .ok (.invokevirtual 108, 3) := by decide +kernel
theorem dX11_connect_5 : decode cX11_connect 5 = .ok (.astore_n 2, 1) := by decide +kernel
theorem dX11_connect_6 : decode cX11_connect 6 = .ok (.aload_n 2, 1) := by decide +kernel
theorem dX11_connect_7 : decode cX11_connect 7 = .ok (.ifnull 10, 3) := by decide +kernel
theorem dX11_connect_10 : decode cX11_connect 10 = .ok (.aload_n 2, 1) := by decide +kernel
theorem dX11_connect_11 : decode cX11_connect 11 = .ok (.getfield 112, 3) := by decide +kernel
theorem dX11_connect_14 : decode cX11_connect 14 = .ok (.ifCond .eq 5, 3) := by decide +kernel
theorem dX11_connect_17 : decode cX11_connect 17 = .ok (.iconst 0, 1) := by decide +kernel
theorem dX11_connect_18 : decode cX11_connect 18 = .ok (.ireturn, 1) := by decide +kernel
theorem dX11_connect_19 : decode cX11_connect 19 = .ok (.aload_n 2, 1) := by decide +kernel
theorem dX11_connect_20 : decode cX11_connect 20 = .ok (.invokevirtual 116, 3) := by decide +kernel
theorem dX11_connect_23 : decode cX11_connect 23 = .ok (.iconst 1, 1) := by decide +kernel
theorem dX11_connect_24 : decode cX11_connect 24 = .ok (.ireturn, 1) := by decide +kernel
set_option maxRecDepth 100000 in
set_option maxHeartbeats 4000000 in
theorem c_X11_connect (l : Launch) (D : va_G) (t : Nat → ClassId) (G : GE) (κ : CS) (h : Nat) (a1 : Int32) (post : Int32 → CS → Prop) (hw : F_X11_connect G h a1 post κ) (sz : Nat) : CMi l D t yX11_connect cX11_connect 3 (some .boolean) 1 35 G κ sz [.ref h, .int a1] post := by
  refine c_go (by decide) (Nat.le_of_ble_eq_true rfl) ?_
  intro p e s m below meth c ls A hF hr hlk hin hAe hH hA hE hl
  unfold cB
  rw [hAe]
  clear hAe
  have hF : FX p m c cX11_connect 3 s _ RX11 D t := hF
  have hx := hF.1.1
  have hb := hF.1.2.1
  have hl : lv_has ls 3 [(0, .ref h), (1, .int a1)] := hl
  unfold F_X11_connect at hw
  refine lv_aload_n hx hb dX11_connect_0 rfl (lv_at hl 0 rfl) ?_
  refine lv_iload_n hx hb dX11_connect_1 rfl (lv_at hl 1 rfl) ?_
  refine cw_cVq (b := h) (As := [.int a1]) (rest := []) hF hH hA hE mv_X11_108 ci_X11 (by decide) (fun sz => c_X11_connection l D t G _ h a1 _ hw.2 sz) dX11_connect_2 hw.1 ⟨Nat.le_of_ble_eq_true rfl, Nat.le_of_ble_eq_true rfl⟩ rfl hl.1 (Nat.le_of_ble_eq_true rfl) rfl (fun z2 κ1 H locs cells slots hw hH => ?_)
  refine w_astoreq_n (lv' := [(2, va_rf z2), (0, .ref h), (1, .int a1)]) hF dX11_connect_5 rfl hl (by decide) rfl (fun ls hl => ?_)
  refine w_aloadq_n hF dX11_connect_6 rfl (lv_at hl 0 rfl) ?_
  obtain ⟨K5, hK6, hw⟩ := jc_open hw
  refine cw_join (K := K5) 17 (fun (x3 : Unit) => []) (fun (x3 : Unit) => []) hl hH (fun x3 κ4 ls H locs cells slots hl hw hH => ?_) (fun jn7 => ?_)
  · have hw := hK6 x3 κ4 hw
    have hl : lv_has ls 3 [] := hl
    refine lv_iconst (v := 0) hx hb dX11_connect_17 (by decide) ?_
    exact cw_retz hF hH ⟨rfl, rfl⟩ hr hlk dX11_connect_18 hw
  · skip
    refine cw_ifnull (q := z2) (tgt := 17) hF dX11_connect_7 rfl hw (fun hw => ?_) (fun hw => ?_)
    · have hl : lv_has ls 3 [] := lv_sub hl [] rfl
      exact jn7 () κ1 ls _ _ _ _ hl hw hH
    · refine w_aloadq_n hF dX11_connect_10 rfl (lv_at hl 0 rfl) ?_
      refine cw_getI (q := z2) hF hH fk_X11_112 dX11_connect_11 hw (fun z8 hw => ?_)
      refine w_if_eq (tgt := 19) hF dX11_connect_14 rfl hw (fun hw => ?_) (fun hw => ?_)
      · refine w_aloadq_n hF dX11_connect_19 rfl (lv_at hl 0 rfl) ?_
        refine cw_cVvq (q := z2) (As := []) (rest := []) hF hH hA hE mv_X11_116 ci_X2 (by decide) hw (fun b hw sz => c_X2_begin l D t G _ b  _ hw sz) dX11_connect_20 ⟨Nat.le_of_ble_eq_true rfl, Nat.le_of_ble_eq_true rfl⟩ rfl hl.1 (Nat.le_of_ble_eq_true rfl) rfl (fun κ9 H locs cells slots hw hH => ?_)
        refine lv_iconst (v := 1) hx hb dX11_connect_23 (by decide) ?_
        exact cw_retz hF hH ⟨rfl, rfl⟩ hr hlk dX11_connect_24 hw
      · have hl : lv_has ls 3 [] := lv_sub hl [] rfl
        exact jn7 () κ1 ls _ _ _ _ hl hw hH
set_option maxRecDepth 100000 in
def F_Jx4a65c_size_8abf5 (G : GE) (h : Nat) (post : Int32 → CS → Prop) (κ : CS) : Prop := (h ∈ sL κ.1 ∧ sK κ.1 h = 7) ∧ ∀ z1 : Int32, z1 = sI κ.1 h 2 → post z1 κ
theorem dJx4a65c_size_8abf5_0 : decode cJx4a65c_size_8abf5 0 = .ok (.aload_n 0, 1) := by decide +kernel
theorem dJx4a65c_size_8abf5_1 : decode cJx4a65c_size_8abf5 1 = .ok (.getfield 48, 3) := by decide +kernel
theorem dJx4a65c_size_8abf5_4 : decode cJx4a65c_size_8abf5 4 = .ok (.ireturn, 1) := by decide +kernel
set_option maxRecDepth 100000 in
set_option maxHeartbeats 4000000 in
theorem c_Jx4a65c_size_8abf5 (l : Launch) (D : va_G) (t : Nat → ClassId) (G : GE) (κ : CS) (h : Nat) (post : Int32 → CS → Prop) (hw : F_Jx4a65c_size_8abf5 G h post κ) (sz : Nat) : CMi l D t yJx4a65c_size_8abf5 cJx4a65c_size_8abf5 1 (some .int) 0 14 G κ sz [.ref h] post := by
  refine c_go (by decide) (Nat.le_of_ble_eq_true rfl) ?_
  intro p e s m below meth c ls A hF hr hlk hin hAe hH hA hE hl
  unfold cB
  rw [hAe]
  clear hAe
  have hF : FX p m c cJx4a65c_size_8abf5 1 s _ RJx4a65c D t := hF
  have hx := hF.1.1
  have hb := hF.1.2.1
  have hl : lv_has ls 1 [(0, .ref h)] := hl
  unfold F_Jx4a65c_size_8abf5 at hw
  refine lv_aload_n hx hb dJx4a65c_size_8abf5_0 rfl (lv_at hl 0 rfl) ?_
  refine cw_getIr (a := h) hF hH fk_Jx4a65c_48 dJx4a65c_size_8abf5_1 hw (fun z1 hw => ?_)
  exact cw_reti hF hH ⟨rfl, rfl⟩ hr rfl hlk dJx4a65c_size_8abf5_4 hw
set_option maxRecDepth 100000 in
def F_J3_checkIndex_8e157 (G : GE) (a0 : Int32) (a1 : Int32) (a2 : Option Nat) (post : Int32 → CS → Prop) (κ : CS) : Prop := jc (fun (K3 : Unit → CS → Prop) => ((a0.toInt < 0) → K3 () κ) ∧ ((0 ≤ a0.toInt) → ((a0.toInt < a1.toInt) → post a0 κ) ∧ ((a1.toInt ≤ a0.toInt) → K3 () κ))) (fun (x1 : Unit) (κ2 : CS) => False)
theorem dJ3_checkIndex_8e157_0 : decode cJ3_checkIndex_8e157 0 = .ok (.iload_n 0, 1) := by decide +kernel
theorem dJ3_checkIndex_8e157_1 : decode cJ3_checkIndex_8e157 1 = .ok (.ifCond .lt 8, 3) := by decide +kernel
theorem dJ3_checkIndex_8e157_4 : decode cJ3_checkIndex_8e157 4 = .ok (.iload_n 0, 1) := by decide +kernel
theorem dJ3_checkIndex_8e157_5 : decode cJ3_checkIndex_8e157 5 = .ok (.iload_n 1, 1) := by decide +kernel
theorem dJ3_checkIndex_8e157_6 : decode cJ3_checkIndex_8e157 6 = .ok (.if_icmp .lt 10, 3) := by decide +kernel
theorem dJ3_checkIndex_8e157_9 : decode cJ3_checkIndex_8e157 9 = .ok (.aload_n 2, 1) := by decide +kernel
theorem dJ3_checkIndex_8e157_10 : decode cJ3_checkIndex_8e157 10 = .ok (.iload_n 0, 1) := by decide +kernel
theorem dJ3_checkIndex_8e157_11 : decode cJ3_checkIndex_8e157 11 = .ok (.iload_n 1, 1) := by decide +kernel
theorem dJ3_checkIndex_8e157_12 : decode cJ3_checkIndex_8e157 12 = .ok (.invokestatic 95, 3) := by decide +kernel
theorem dJ3_checkIndex_8e157_15 : decode cJ3_checkIndex_8e157 15 = .ok (.athrow, 1) := by decide +kernel
theorem dJ3_checkIndex_8e157_16 : decode cJ3_checkIndex_8e157 16 = .ok (.iload_n 0, 1) := by decide +kernel
theorem dJ3_checkIndex_8e157_17 : decode cJ3_checkIndex_8e157 17 = .ok (.ireturn, 1) := by decide +kernel
set_option maxRecDepth 100000 in
set_option maxHeartbeats 4000000 in
theorem c_J3_checkIndex_8e157 (l : Launch) (D : va_G) (t : Nat → ClassId) (G : GE) (κ : CS) (a0 : Int32) (a1 : Int32) (a2 : Option Nat) (post : Int32 → CS → Prop) (hw : F_J3_checkIndex_8e157 G a0 a1 a2 post κ) (sz : Nat) : CMi l D t yJ3_checkIndex_8e157 cJ3_checkIndex_8e157 3 (some .int) 0 14 G κ sz [.int a0, .int a1, va_rf a2] post := by
  refine c_go (by decide) (by cases a2 <;> exact Nat.le_of_ble_eq_true rfl) ?_
  intro p e s m below meth c ls A hF hr hlk hin hAe hH hA hE hl
  unfold cB
  rw [hAe]
  clear hAe
  have hF : FX p m c cJ3_checkIndex_8e157 3 s _ RJ3 D t := hF
  have hx := hF.1.1
  have hb := hF.1.2.1
  have hl : lv_has ls 3 [(0, .int a0), (1, .int a1), (2, va_rf a2)] := (by have h2 := hl; clear hw; revert h2; cases a2 <;> exact id)
  unfold F_J3_checkIndex_8e157 at hw
  refine lv_iload_n hx hb dJ3_checkIndex_8e157_0 rfl (lv_at hl 0 rfl) ?_
  obtain ⟨K3, hK4, hw⟩ := jc_open hw
  refine cw_join (K := K3) 9 (fun (x1 : Unit) => [(2, va_rf a2), (1, .int a1), (0, .int a0)]) (fun (x1 : Unit) => []) hl hH (fun x1 κ2 ls H locs cells slots hl hw hH => ?_) (fun jn5 => ?_)
  · have hw := hK4 x1 κ2 hw
    have hl : lv_has ls 3 [(2, va_rf a2), (1, .int a1), (0, .int a0)] := hl
    refine w_aloadq_n hF dJ3_checkIndex_8e157_9 rfl (lv_at hl 0 rfl) ?_
    refine lv_iload_n hx hb dJ3_checkIndex_8e157_10 rfl (lv_at hl 2 rfl) ?_
    refine lv_iload_n hx hb dJ3_checkIndex_8e157_11 rfl (lv_at hl 1 rfl) ?_
    exact hw.elim
  · skip
    refine w_if_lt (tgt := 9) hF dJ3_checkIndex_8e157_1 rfl hw (fun hw => ?_) (fun hw => ?_)
    · have hl : lv_has ls 3 [(2, va_rf a2), (1, .int a1), (0, .int a0)] := lv_sub hl [2, 1, 0] rfl
      exact jn5 () κ ls _ _ _ _ hl hw hH
    · refine lv_iload_n hx hb dJ3_checkIndex_8e157_4 rfl (lv_at hl 0 rfl) ?_
      refine lv_iload_n hx hb dJ3_checkIndex_8e157_5 rfl (lv_at hl 1 rfl) ?_
      refine w_icmp_lt (tgt := 16) hF dJ3_checkIndex_8e157_6 rfl hw (fun hw => ?_) (fun hw => ?_)
      · refine lv_iload_n hx hb dJ3_checkIndex_8e157_16 rfl (lv_at hl 0 rfl) ?_
        exact cw_reti hF hH ⟨rfl, rfl⟩ hr rfl hlk dJ3_checkIndex_8e157_17 hw
      · have hl : lv_has ls 3 [(2, va_rf a2), (1, .int a1), (0, .int a0)] := lv_sub hl [2, 1, 0] rfl
        exact jn5 () κ ls _ _ _ _ hl hw hH
set_option maxRecDepth 100000 in
def F_J15_checkIndex_7cf53 (G : GE) (a0 : Int32) (a1 : Int32) (post : Int32 → CS → Prop) (κ : CS) : Prop := F_J3_checkIndex_8e157 G a0 a1 (none : Option Nat) (fun (z2 : Int32) (κ1 : CS) => post z2 κ1) κ
theorem dJ15_checkIndex_7cf53_0 : decode cJ15_checkIndex_7cf53 0 = .ok (.iload_n 0, 1) := by decide +kernel
theorem dJ15_checkIndex_7cf53_1 : decode cJ15_checkIndex_7cf53 1 = .ok (.iload_n 1, 1) := by decide +kernel
theorem dJ15_checkIndex_7cf53_2 : decode cJ15_checkIndex_7cf53 2 = .ok (.aconst_null, 1) := by decide +kernel
theorem dJ15_checkIndex_7cf53_3 : decode cJ15_checkIndex_7cf53 3 = .ok (.invokestatic 105, 3) := by decide +kernel
theorem dJ15_checkIndex_7cf53_6 : decode cJ15_checkIndex_7cf53 6 = .ok (.ireturn, 1) := by decide +kernel
set_option maxRecDepth 100000 in
set_option maxHeartbeats 4000000 in
theorem c_J15_checkIndex_7cf53 (l : Launch) (D : va_G) (t : Nat → ClassId) (G : GE) (κ : CS) (a0 : Int32) (a1 : Int32) (post : Int32 → CS → Prop) (hw : F_J15_checkIndex_7cf53 G a0 a1 post κ) (sz : Nat) : CMi l D t yJ15_checkIndex_7cf53 cJ15_checkIndex_7cf53 2 (some .int) 1 36 G κ sz [.int a0, .int a1] post := by
  refine c_go (by decide) (Nat.le_of_ble_eq_true rfl) ?_
  intro p e s m below meth c ls A hF hr hlk hin hAe hH hA hE hl
  unfold cB
  rw [hAe]
  clear hAe
  have hF : FX p m c cJ15_checkIndex_7cf53 2 s _ RJ15 D t := hF
  have hx := hF.1.1
  have hb := hF.1.2.1
  have hl : lv_has ls 2 [(0, .int a0), (1, .int a1)] := hl
  unfold F_J15_checkIndex_7cf53 at hw
  refine lv_iload_n hx hb dJ15_checkIndex_7cf53_0 rfl (lv_at hl 0 rfl) ?_
  refine lv_iload_n hx hb dJ15_checkIndex_7cf53_1 rfl (lv_at hl 1 rfl) ?_
  refine cw_null dJ15_checkIndex_7cf53_2 hF ?_
  refine cw_cSi (As := [.int a0, .int a1, va_rf (none : Option Nat)]) (rest := []) hF hH hA hE ms_J15_105 (fun sz => c_J3_checkIndex_8e157 l D t G _ a0 a1 (none : Option Nat) _ hw sz) dJ15_checkIndex_7cf53_3 ⟨Nat.le_of_ble_eq_true rfl, Nat.le_of_ble_eq_true rfl⟩ rfl hl.1 (Nat.le_of_ble_eq_true rfl) rfl (fun z2 κ1 H locs cells slots hw hH => ?_)
  exact cw_reti hF hH ⟨rfl, rfl⟩ hr rfl hlk dJ15_checkIndex_7cf53_6 hw
set_option maxRecDepth 100000 in
def F_Jx4a65c_elementData_915e3 (G : GE) (h : Nat) (a1 : Int32) (post : Option Nat → CS → Prop) (κ : CS) : Prop := (h ∈ sL κ.1 ∧ sK κ.1 h = 7) ∧ ∀ z1 : Option Nat, z1 = sP κ.1 h 1 → ∃ b : Nat, z1 = some b ∧ (b ∈ sL κ.1 ∧ 24 ≤ sK κ.1 b ∧ sK κ.1 b < 28) ∧ (0 ≤ a1.toInt ∧ a1.toInt < (sN κ.1 b : Int)) ∧ ∀ z2 : Option Nat, z2 = sP κ.1 b a1.toInt.toNat → post z2 κ
theorem dJx4a65c_elementData_915e3_0 : decode cJx4a65c_elementData_915e3 0 = .ok (.aload_n 0, 1) := by decide +kernel
theorem dJx4a65c_elementData_915e3_1 : decode cJx4a65c_elementData_915e3 1 = .ok (.getfield 9, 3) := by decide +kernel
theorem dJx4a65c_elementData_915e3_4 : decode cJx4a65c_elementData_915e3 4 = .ok (.iload_n 1, 1) := by decide +kernel
theorem dJx4a65c_elementData_915e3_5 : decode cJx4a65c_elementData_915e3 5 = .ok (.aaload, 1) := by decide +kernel
theorem dJx4a65c_elementData_915e3_6 : decode cJx4a65c_elementData_915e3 6 = .ok (.areturn, 1) := by decide +kernel
set_option maxRecDepth 100000 in
set_option maxHeartbeats 4000000 in
theorem c_Jx4a65c_elementData_915e3 (l : Launch) (D : va_G) (t : Nat → ClassId) (G : GE) (κ : CS) (h : Nat) (a1 : Int32) (post : Option Nat → CS → Prop) (hw : F_Jx4a65c_elementData_915e3 G h a1 post κ) (sz : Nat) : CMq l D t yJx4a65c_elementData_915e3 cJx4a65c_elementData_915e3 2 (some (.object "java/lang/Object")) 0 14 G κ sz [.ref h, .int a1] post := by
  refine c_go (by decide) (Nat.le_of_ble_eq_true rfl) ?_
  intro p e s m below meth c ls A hF hr hlk hin hAe hH hA hE hl
  unfold cB
  rw [hAe]
  clear hAe
  have hF : FX p m c cJx4a65c_elementData_915e3 2 s _ RJx4a65c D t := hF
  have hx := hF.1.1
  have hb := hF.1.2.1
  have hl : lv_has ls 2 [(0, .ref h), (1, .int a1)] := hl
  unfold F_Jx4a65c_elementData_915e3 at hw
  refine lv_aload_n hx hb dJx4a65c_elementData_915e3_0 rfl (lv_at hl 0 rfl) ?_
  refine cw_getPr (a := h) hF hH fk_Jx4a65c_9 dJx4a65c_elementData_915e3_1 hw (fun z1 hw => ?_)
  refine lv_iload_n hx hb dJx4a65c_elementData_915e3_4 rfl (lv_at hl 1 rfl) ?_
  refine cw_aald (q := z1) hF hH dJx4a65c_elementData_915e3_5 hw (fun z2 hw => ?_)
  exact cw_retq (v := z2) hF hH ⟨rfl, rfl⟩ hr (by first | exact Or.inl ⟨_, rfl⟩ | exact Or.inr ⟨_, rfl⟩) hlk dJx4a65c_elementData_915e3_6 hw
set_option maxRecDepth 100000 in
def F_Jx4a65c_get_915e3 (G : GE) (h : Nat) (a1 : Int32) (post : Option Nat → CS → Prop) (κ : CS) : Prop := (h ∈ sL κ.1 ∧ sK κ.1 h = 7) ∧ ∀ z1 : Int32, z1 = sI κ.1 h 2 → F_J15_checkIndex_7cf53 G a1 z1 (fun (z3 : Int32) (κ2 : CS) => (h ∈ sL κ2.1 ∧ sK κ2.1 h = 7) ∧ F_Jx4a65c_elementData_915e3 G h a1 (fun (z5 : Option Nat) (κ4 : CS) => post z5 κ4) κ2) κ
theorem dJx4a65c_get_915e3_0 : decode cJx4a65c_get_915e3 0 = .ok (.iload_n 1, 1) := by decide +kernel
theorem dJx4a65c_get_915e3_1 : decode cJx4a65c_get_915e3 1 = .ok (.aload_n 0, 1) := by decide +kernel
theorem dJx4a65c_get_915e3_2 : decode cJx4a65c_get_915e3 2 = .ok (.getfield 48, 3) := by decide +kernel
theorem dJx4a65c_get_915e3_5 : decode cJx4a65c_get_915e3 5 = .ok (.invokestatic 118, 3) := by decide +kernel
theorem dJx4a65c_get_915e3_8 : decode cJx4a65c_get_915e3 8 = .ok (.pop, 1) := by decide +kernel
theorem dJx4a65c_get_915e3_9 : decode cJx4a65c_get_915e3 9 = .ok (.aload_n 0, 1) := by decide +kernel
theorem dJx4a65c_get_915e3_10 : decode cJx4a65c_get_915e3 10 = .ok (.iload_n 1, 1) := by decide +kernel
theorem dJx4a65c_get_915e3_11 : decode cJx4a65c_get_915e3 11 = .ok (.invokevirtual 123, 3) := by decide +kernel
theorem dJx4a65c_get_915e3_14 : decode cJx4a65c_get_915e3 14 = .ok (.areturn, 1) := by decide +kernel
set_option maxRecDepth 100000 in
set_option maxHeartbeats 4000000 in
theorem c_Jx4a65c_get_915e3 (l : Launch) (D : va_G) (t : Nat → ClassId) (G : GE) (κ : CS) (h : Nat) (a1 : Int32) (post : Option Nat → CS → Prop) (hw : F_Jx4a65c_get_915e3 G h a1 post κ) (sz : Nat) : CMq l D t yJx4a65c_get_915e3 cJx4a65c_get_915e3 2 (some (.object "java/lang/Object")) 2 57 G κ sz [.ref h, .int a1] post := by
  refine c_go (by decide) (Nat.le_of_ble_eq_true rfl) ?_
  intro p e s m below meth c ls A hF hr hlk hin hAe hH hA hE hl
  unfold cB
  rw [hAe]
  clear hAe
  have hF : FX p m c cJx4a65c_get_915e3 2 s _ RJx4a65c D t := hF
  have hx := hF.1.1
  have hb := hF.1.2.1
  have hl : lv_has ls 2 [(0, .ref h), (1, .int a1)] := hl
  unfold F_Jx4a65c_get_915e3 at hw
  refine lv_iload_n hx hb dJx4a65c_get_915e3_0 rfl (lv_at hl 1 rfl) ?_
  refine lv_aload_n hx hb dJx4a65c_get_915e3_1 rfl (lv_at hl 0 rfl) ?_
  refine cw_getIr (a := h) hF hH fk_Jx4a65c_48 dJx4a65c_get_915e3_2 hw (fun z1 hw => ?_)
  refine cw_cSi (As := [.int a1, .int z1]) (rest := []) hF hH hA hE ms_Jx4a65c_118 (fun sz => c_J15_checkIndex_7cf53 l D t G _ a1 z1 _ hw sz) dJx4a65c_get_915e3_5 ⟨Nat.le_of_ble_eq_true rfl, Nat.le_of_ble_eq_true rfl⟩ rfl hl.1 (Nat.le_of_ble_eq_true rfl) rfl (fun z3 κ2 H locs cells slots hw hH => ?_)
  refine lv_pop hx hb dJx4a65c_get_915e3_8 rfl ?_
  refine lv_aload_n hx hb dJx4a65c_get_915e3_9 rfl (lv_at hl 0 rfl) ?_
  refine lv_iload_n hx hb dJx4a65c_get_915e3_10 rfl (lv_at hl 1 rfl) ?_
  refine cw_cVq (b := h) (As := [.int a1]) (rest := []) hF hH hA hE mv_Jx4a65c_123 ci_Jx4a65c (by decide) (fun sz => c_Jx4a65c_elementData_915e3 l D t G _ h a1 _ hw.2 sz) dJx4a65c_get_915e3_11 hw.1 ⟨Nat.le_of_ble_eq_true rfl, Nat.le_of_ble_eq_true rfl⟩ rfl hl.1 (Nat.le_of_ble_eq_true rfl) rfl (fun z5 κ4 H locs cells slots hw hH => ?_)
  exact cw_retq (v := z5) hF hH ⟨rfl, rfl⟩ hr (by first | exact Or.inl ⟨_, rfl⟩ | exact Or.inr ⟨_, rfl⟩) hlk dJx4a65c_get_915e3_14 hw
set_option maxRecDepth 100000 in
def F_Jx4a65c_fastRemove_b59b0 (G : GE) (h : Nat) (a1 : Option Nat) (a2 : Int32) (post : CS → Prop) (κ : CS) : Prop := (h ∈ sL κ.1 ∧ sK κ.1 h = 7) ∧ ∀ z1 : Int32, z1 = sI κ.1 h 0 → ∀ z2 : Int32, z2 = z1 + 1 → (h ∈ sL κ.1 ∧ sK κ.1 h = 7) ∧ ∀ κ3 : CS, κ3 = (h_uI κ.1 h 0 z2, κ.2) → (h ∈ sL κ3.1 ∧ sK κ3.1 h = 7) ∧ ∀ z4 : Int32, z4 = sI κ3.1 h 2 → ∀ z5 : Int32, z5 = z4 - 1 → jc (fun (K8 : Unit → CS → Prop) => ((z5.toInt ≤ a2.toInt) → K8 () κ3) ∧ ((a2.toInt < z5.toInt) → ∀ z13 : Int32, z13 = a2 + 1 → ∀ z14 : Int32, z14 = z5 - a2 → ∃ u0 : Nat, a1 = some u0 ∧ ∃ u1 : Nat, a1 = some u1 ∧ (u0 ∈ sL κ3.1 ∧ sK κ3.1 u0 = 27) ∧ (u1 ∈ sL κ3.1 ∧ sK κ3.1 u1 = 27) ∧ (0 ≤ z13.toInt ∧ 0 ≤ a2.toInt ∧ 0 ≤ z14.toInt ∧ z13.toInt + z14.toInt ≤ (sN κ3.1 u0 : Int) ∧ a2.toInt + z14.toInt ≤ (sN κ3.1 u1 : Int)) ∧ (∃ kb : Nat, (8 ≤ kb ∧ kb ≤ 12) ∧ ∀ j : Nat, j < z14.toInt.toNat → ∀ y : Nat, sP κ3.1 u0 (z13.toInt.toNat + j) = some y → y ∈ sL κ3.1 ∧ sK κ3.1 y = kb) ∧ ∀ κ15 : CS, κ15 = (h_cpP κ3.1 u0 u1 z13.toInt.toNat a2.toInt.toNat z14.toInt.toNat, κ3.2) → K8 () κ15)) (fun (x6 : Unit) (κ7 : CS) => (h ∈ sL κ7.1 ∧ sK κ7.1 h = 7) ∧ ∀ κ11 : CS, κ11 = (h_uI κ7.1 h 2 z5, κ7.2) → ∃ b : Nat, a1 = some b ∧ (b ∈ sL κ11.1 ∧ 24 ≤ sK κ11.1 b ∧ sK κ11.1 b < 28) ∧ (0 ≤ z5.toInt ∧ z5.toInt < (sN κ11.1 b : Int)) ∧ ((none : Option Nat) = none ∨ ∃ e : Nat, (none : Option Nat) = some e ∧ e ∈ sL κ11.1 ∧ stOk (sK κ11.1 b) (sK κ11.1 e) = true) ∧ ∀ κ12 : CS, κ12 = (h_uP κ11.1 b z5.toInt.toNat (none : Option Nat), κ11.2) → post κ12)
theorem dJx4a65c_fastRemove_b59b0_0 : decode cJx4a65c_fastRemove_b59b0 0 = .ok (.aload_n 0, 1) := by decide +kernel
theorem dJx4a65c_fastRemove_b59b0_1 : decode cJx4a65c_fastRemove_b59b0 1 = .ok (.dup, 1) := by decide +kernel
theorem dJx4a65c_fastRemove_b59b0_2 : decode cJx4a65c_fastRemove_b59b0 2 = .ok (.getfield 63, 3) := by decide +kernel
theorem dJx4a65c_fastRemove_b59b0_5 : decode cJx4a65c_fastRemove_b59b0 5 = .ok (.iconst 1, 1) := by decide +kernel
theorem dJx4a65c_fastRemove_b59b0_6 : decode cJx4a65c_fastRemove_b59b0 6 = .ok (.iadd, 1) := by decide +kernel
theorem dJx4a65c_fastRemove_b59b0_7 : decode cJx4a65c_fastRemove_b59b0 7 = .ok (.putfield 63, 3) := by decide +kernel
theorem dJx4a65c_fastRemove_b59b0_10 : decode cJx4a65c_fastRemove_b59b0 10 = .ok (.aload_n 0, 1) := by decide +kernel
theorem dJx4a65c_fastRemove_b59b0_11 : decode cJx4a65c_fastRemove_b59b0 11 = .ok (.getfield 48, 3) := by decide +kernel
theorem dJx4a65c_fastRemove_b59b0_14 : decode cJx4a65c_fastRemove_b59b0 14 = .ok (.iconst 1, 1) := by decide +kernel
theorem dJx4a65c_fastRemove_b59b0_15 : decode cJx4a65c_fastRemove_b59b0 15 = .ok (.isub, 1) := by decide +kernel
theorem dJx4a65c_fastRemove_b59b0_16 : decode cJx4a65c_fastRemove_b59b0 16 = .ok (.dup, 1) := by decide +kernel
theorem dJx4a65c_fastRemove_b59b0_17 : decode cJx4a65c_fastRemove_b59b0 17 = .ok (.istore_n 3, 1) := by decide +kernel
theorem dJx4a65c_fastRemove_b59b0_18 : decode cJx4a65c_fastRemove_b59b0 18 = .ok (.iload_n 2, 1) := by decide +kernel
theorem dJx4a65c_fastRemove_b59b0_19 : decode cJx4a65c_fastRemove_b59b0 19 = .ok (.if_icmp .le 15, 3) := by decide +kernel
theorem dJx4a65c_fastRemove_b59b0_22 : decode cJx4a65c_fastRemove_b59b0 22 = .ok (.aload_n 1, 1) := by decide +kernel
theorem dJx4a65c_fastRemove_b59b0_23 : decode cJx4a65c_fastRemove_b59b0 23 = .ok (.iload_n 2, 1) := by decide +kernel
theorem dJx4a65c_fastRemove_b59b0_24 : decode cJx4a65c_fastRemove_b59b0 24 = .ok (.iconst 1, 1) := by decide +kernel
theorem dJx4a65c_fastRemove_b59b0_25 : decode cJx4a65c_fastRemove_b59b0 25 = .ok (.iadd, 1) := by decide +kernel
theorem dJx4a65c_fastRemove_b59b0_26 : decode cJx4a65c_fastRemove_b59b0 26 = .ok (.aload_n 1, 1) := by decide +kernel
theorem dJx4a65c_fastRemove_b59b0_27 : decode cJx4a65c_fastRemove_b59b0 27 = .ok (.iload_n 2, 1) := by decide +kernel
theorem dJx4a65c_fastRemove_b59b0_28 : decode cJx4a65c_fastRemove_b59b0 28 = .ok (.iload_n 3, 1) := by decide +kernel
theorem dJx4a65c_fastRemove_b59b0_29 : decode cJx4a65c_fastRemove_b59b0 29 = .ok (.iload_n 2, 1) := by decide +kernel
theorem dJx4a65c_fastRemove_b59b0_30 : decode cJx4a65c_fastRemove_b59b0 30 = .ok (.isub, 1) := by decide +kernel
theorem dJx4a65c_fastRemove_b59b0_31 : decode cJx4a65c_fastRemove_b59b0 31 = .ok (.invokestatic 112, 3) := by decide +kernel
theorem dJx4a65c_fastRemove_b59b0_34 : decode cJx4a65c_fastRemove_b59b0 34 = .ok (.aload_n 1, 1) := by decide +kernel
theorem dJx4a65c_fastRemove_b59b0_35 : decode cJx4a65c_fastRemove_b59b0 35 = .ok (.aload_n 0, 1) := by decide +kernel
theorem dJx4a65c_fastRemove_b59b0_36 : decode cJx4a65c_fastRemove_b59b0 36 = .ok (.iload_n 3, 1) := by decide +kernel
theorem dJx4a65c_fastRemove_b59b0_37 : decode cJx4a65c_fastRemove_b59b0 37 = .ok (.dup_x1, 1) := by decide +kernel
theorem dJx4a65c_fastRemove_b59b0_38 : decode cJx4a65c_fastRemove_b59b0 38 = .ok (.putfield 48, 3) := by decide +kernel
theorem dJx4a65c_fastRemove_b59b0_41 : decode cJx4a65c_fastRemove_b59b0 41 = .ok (.aconst_null, 1) := by decide +kernel
theorem dJx4a65c_fastRemove_b59b0_42 : decode cJx4a65c_fastRemove_b59b0 42 = .ok (.aastore, 1) := by decide +kernel
theorem dJx4a65c_fastRemove_b59b0_43 : decode cJx4a65c_fastRemove_b59b0 43 = .ok (.return_, 1) := by decide +kernel
set_option maxRecDepth 100000 in
set_option maxHeartbeats 4000000 in
theorem c_Jx4a65c_fastRemove_b59b0 (l : Launch) (D : va_G) (t : Nat → ClassId) (G : GE) (κ : CS) (h : Nat) (a1 : Option Nat) (a2 : Int32) (post : CS → Prop) (hw : F_Jx4a65c_fastRemove_b59b0 G h a1 a2 post κ) (sz : Nat) : CMv l D t yJx4a65c_fastRemove_b59b0 cJx4a65c_fastRemove_b59b0 4 1 40 G κ sz [.ref h, va_rf a1, .int a2] post := by
  refine c_go (by decide) (by cases a1 <;> exact Nat.le_of_ble_eq_true rfl) ?_
  intro p e s m below meth c ls A hF hr hlk hin hAe hH hA hE hl
  unfold cB
  rw [hAe]
  clear hAe
  have hF : FX p m c cJx4a65c_fastRemove_b59b0 4 s _ RJx4a65c D t := hF
  have hx := hF.1.1
  have hb := hF.1.2.1
  have hl : lv_has ls 4 [(0, .ref h), (1, va_rf a1), (2, .int a2)] := (by have h2 := hl; clear hw; revert h2; cases a1 <;> exact id)
  unfold F_Jx4a65c_fastRemove_b59b0 at hw
  refine lv_aload_n hx hb dJx4a65c_fastRemove_b59b0_0 rfl (lv_at hl 0 rfl) ?_
  refine lv_dup hx hb dJx4a65c_fastRemove_b59b0_1 rfl ?_
  refine cw_getM (a := h) hF hH (wc_8 36 rfl) (wc_9 2 rfl) dJx4a65c_fastRemove_b59b0_2 hw (fun z1 hw => ?_)
  refine lv_iconst (v := 1) hx hb dJx4a65c_fastRemove_b59b0_5 (by decide) ?_
  refine lv_iadd hx hb dJx4a65c_fastRemove_b59b0_6 ?_
  refine w_nmi hw (fun z2 hw => ?_)
  refine cw_putM (a := h) hF hH (wc_8 36 rfl) (wc_9 2 rfl) dJx4a65c_fastRemove_b59b0_7 hw (fun κ3 H locs cells slots hw hH => ?_)
  refine lv_aload_n hx hb dJx4a65c_fastRemove_b59b0_10 rfl (lv_at hl 0 rfl) ?_
  refine cw_getIr (a := h) hF hH fk_Jx4a65c_48 dJx4a65c_fastRemove_b59b0_11 hw (fun z4 hw => ?_)
  refine lv_iconst (v := 1) hx hb dJx4a65c_fastRemove_b59b0_14 (by decide) ?_
  refine lv_isub hx hb dJx4a65c_fastRemove_b59b0_15 ?_
  refine w_nmi hw (fun z5 hw => ?_)
  refine lv_dup hx hb dJx4a65c_fastRemove_b59b0_16 rfl ?_
  refine lv_istore_n (lv' := [(3, .int z5), (0, .ref h), (1, va_rf a1), (2, .int a2)]) hx hb dJx4a65c_fastRemove_b59b0_17 rfl hl (by decide) rfl (fun ls hl => ?_)
  refine lv_iload_n hx hb dJx4a65c_fastRemove_b59b0_18 rfl (lv_at hl 3 rfl) ?_
  obtain ⟨K8, hK9, hw⟩ := jc_open hw
  refine cw_join (K := K8) 34 (fun (x6 : Unit) => [(3, .int z5), (1, va_rf a1), (0, .ref h)]) (fun (x6 : Unit) => []) hl hH (fun x6 κ7 ls H locs cells slots hl hw hH => ?_) (fun jn10 => ?_)
  · have hw := hK9 x6 κ7 hw
    have hl : lv_has ls 4 [(3, .int z5), (1, va_rf a1), (0, .ref h)] := hl
    refine w_aloadq_n hF dJx4a65c_fastRemove_b59b0_34 rfl (lv_at hl 1 rfl) ?_
    refine lv_aload_n hx hb dJx4a65c_fastRemove_b59b0_35 rfl (lv_at hl 2 rfl) ?_
    refine lv_iload_n hx hb dJx4a65c_fastRemove_b59b0_36 rfl (lv_at hl 0 rfl) ?_
    refine lv_dup_x1 hx hb dJx4a65c_fastRemove_b59b0_37 rfl rfl ?_
    refine cw_putIr (a := h) (v := z5) hF hH fk_Jx4a65c_48 dJx4a65c_fastRemove_b59b0_38 rfl rfl rfl hw (fun κ11 H locs cells slots hw hH => ?_)
    refine cw_null dJx4a65c_fastRemove_b59b0_41 hF ?_
    refine cw_aast (q := a1) (v := (none : Option Nat)) hF hH dJx4a65c_fastRemove_b59b0_42 hw (fun κ12 H locs cells slots hw hH => ?_)
    exact cw_retv hF hH ⟨rfl, rfl⟩ hr hlk dJx4a65c_fastRemove_b59b0_43 hw
  · skip
    refine w_icmp_le (tgt := 34) hF dJx4a65c_fastRemove_b59b0_19 rfl hw (fun hw => ?_) (fun hw => ?_)
    · have hl : lv_has ls 4 [(3, .int z5), (1, va_rf a1), (0, .ref h)] := lv_sub hl [0, 2, 1] rfl
      exact jn10 () κ3 ls _ _ _ _ hl hw hH
    · refine w_aloadq_n hF dJx4a65c_fastRemove_b59b0_22 rfl (lv_at hl 2 rfl) ?_
      refine lv_iload_n hx hb dJx4a65c_fastRemove_b59b0_23 rfl (lv_at hl 3 rfl) ?_
      refine lv_iconst (v := 1) hx hb dJx4a65c_fastRemove_b59b0_24 (by decide) ?_
      refine lv_iadd hx hb dJx4a65c_fastRemove_b59b0_25 ?_
      refine w_nmi hw (fun z13 hw => ?_)
      refine w_aloadq_n hF dJx4a65c_fastRemove_b59b0_26 rfl (lv_at hl 2 rfl) ?_
      refine lv_iload_n hx hb dJx4a65c_fastRemove_b59b0_27 rfl (lv_at hl 3 rfl) ?_
      refine lv_iload_n hx hb dJx4a65c_fastRemove_b59b0_28 rfl (lv_at hl 0 rfl) ?_
      refine lv_iload_n hx hb dJx4a65c_fastRemove_b59b0_29 rfl (lv_at hl 3 rfl) ?_
      refine lv_isub hx hb dJx4a65c_fastRemove_b59b0_30 ?_
      refine w_nmi hw (fun z14 hw => ?_)
      refine cw_copyQ (q0 := a1) (q1 := a1) hF hH (wc_19 13 rfl) (wc_10 14 rfl) (wc_10 15 rfl) (wc_5 17 rfl) (Nat.le_of_ble_eq_true rfl) (Nat.le_of_ble_eq_true rfl) hl.1 dJx4a65c_fastRemove_b59b0_31 hw (fun κ15 H locs cells slots hw hH => ?_)
      have hl : lv_has ls 4 [(3, .int z5), (1, va_rf a1), (0, .ref h)] := lv_sub hl [0, 2, 1] rfl
      exact jn10 () κ15 ls _ _ _ _ hl hw hH
set_option maxRecDepth 100000 in
def F_Jx4a65c_remove_915e3 (G : GE) (h : Nat) (a1 : Int32) (post : Option Nat → CS → Prop) (κ : CS) : Prop := (h ∈ sL κ.1 ∧ sK κ.1 h = 7) ∧ ∀ z1 : Int32, z1 = sI κ.1 h 2 → F_J15_checkIndex_7cf53 G a1 z1 (fun (z3 : Int32) (κ2 : CS) => (h ∈ sL κ2.1 ∧ sK κ2.1 h = 7) ∧ ∀ z4 : Option Nat, z4 = sP κ2.1 h 1 → ∃ b : Nat, z4 = some b ∧ (b ∈ sL κ2.1 ∧ 24 ≤ sK κ2.1 b ∧ sK κ2.1 b < 28) ∧ (0 ≤ a1.toInt ∧ a1.toInt < (sN κ2.1 b : Int)) ∧ ∀ z5 : Option Nat, z5 = sP κ2.1 b a1.toInt.toNat → (h ∈ sL κ2.1 ∧ sK κ2.1 h = 7) ∧ F_Jx4a65c_fastRemove_b59b0 G h z4 a1 (fun (κ6 : CS) => post z5 κ6) κ2) κ
theorem dJx4a65c_remove_915e3_0 : decode cJx4a65c_remove_915e3 0 = .ok (.iload_n 1, 1) := by decide +kernel
theorem dJx4a65c_remove_915e3_1 : decode cJx4a65c_remove_915e3 1 = .ok (.aload_n 0, 1) := by decide +kernel
theorem dJx4a65c_remove_915e3_2 : decode cJx4a65c_remove_915e3 2 = .ok (.getfield 48, 3) := by decide +kernel
theorem dJx4a65c_remove_915e3_5 : decode cJx4a65c_remove_915e3 5 = .ok (.invokestatic 118, 3) := by decide +kernel
theorem dJx4a65c_remove_915e3_8 : decode cJx4a65c_remove_915e3 8 = .ok (.pop, 1) := by decide +kernel
theorem dJx4a65c_remove_915e3_9 : decode cJx4a65c_remove_915e3 9 = .ok (.aload_n 0, 1) := by decide +kernel
theorem dJx4a65c_remove_915e3_10 : decode cJx4a65c_remove_915e3 10 = .ok (.getfield 9, 3) := by decide +kernel
theorem dJx4a65c_remove_915e3_13 : decode cJx4a65c_remove_915e3 13 = .ok (.astore_n 2, 1) := by decide +kernel
theorem dJx4a65c_remove_915e3_14 : decode cJx4a65c_remove_915e3 14 = .ok (.aload_n 2, 1) := by decide +kernel
theorem dJx4a65c_remove_915e3_15 : decode cJx4a65c_remove_915e3 15 = .ok (.iload_n 1, 1) := by decide +kernel
theorem dJx4a65c_remove_915e3_16 : decode cJx4a65c_remove_915e3 16 = .ok (.aaload, 1) := by decide +kernel
theorem dJx4a65c_remove_915e3_17 : decode cJx4a65c_remove_915e3 17 = .ok (.astore_n 3, 1) := by decide +kernel
theorem dJx4a65c_remove_915e3_18 : decode cJx4a65c_remove_915e3 18 = .ok (.aload_n 0, 1) := by decide +kernel
theorem dJx4a65c_remove_915e3_19 : decode cJx4a65c_remove_915e3 19 = .ok (.aload_n 2, 1) := by decide +kernel
theorem dJx4a65c_remove_915e3_20 : decode cJx4a65c_remove_915e3 20 = .ok (.iload_n 1, 1) := by decide +kernel
theorem dJx4a65c_remove_915e3_21 : decode cJx4a65c_remove_915e3 21 = .ok (.invokevirtual 144, 3) := by decide +kernel
theorem dJx4a65c_remove_915e3_24 : decode cJx4a65c_remove_915e3 24 = .ok (.aload_n 3, 1) := by decide +kernel
theorem dJx4a65c_remove_915e3_25 : decode cJx4a65c_remove_915e3 25 = .ok (.areturn, 1) := by decide +kernel
set_option maxRecDepth 100000 in
set_option maxHeartbeats 4000000 in
theorem c_Jx4a65c_remove_915e3 (l : Launch) (D : va_G) (t : Nat → ClassId) (G : GE) (κ : CS) (h : Nat) (a1 : Int32) (post : Option Nat → CS → Prop) (hw : F_Jx4a65c_remove_915e3 G h a1 post κ) (sz : Nat) : CMq l D t yJx4a65c_remove_915e3 cJx4a65c_remove_915e3 4 (some (.object "java/lang/Object")) 2 63 G κ sz [.ref h, .int a1] post := by
  refine c_go (by decide) (Nat.le_of_ble_eq_true rfl) ?_
  intro p e s m below meth c ls A hF hr hlk hin hAe hH hA hE hl
  unfold cB
  rw [hAe]
  clear hAe
  have hF : FX p m c cJx4a65c_remove_915e3 4 s _ RJx4a65c D t := hF
  have hx := hF.1.1
  have hb := hF.1.2.1
  have hl : lv_has ls 4 [(0, .ref h), (1, .int a1)] := hl
  unfold F_Jx4a65c_remove_915e3 at hw
  refine lv_iload_n hx hb dJx4a65c_remove_915e3_0 rfl (lv_at hl 1 rfl) ?_
  refine lv_aload_n hx hb dJx4a65c_remove_915e3_1 rfl (lv_at hl 0 rfl) ?_
  refine cw_getIr (a := h) hF hH fk_Jx4a65c_48 dJx4a65c_remove_915e3_2 hw (fun z1 hw => ?_)
  refine cw_cSi (As := [.int a1, .int z1]) (rest := []) hF hH hA hE ms_Jx4a65c_118 (fun sz => c_J15_checkIndex_7cf53 l D t G _ a1 z1 _ hw sz) dJx4a65c_remove_915e3_5 ⟨Nat.le_of_ble_eq_true rfl, Nat.le_of_ble_eq_true rfl⟩ rfl hl.1 (Nat.le_of_ble_eq_true rfl) rfl (fun z3 κ2 H locs cells slots hw hH => ?_)
  refine lv_pop hx hb dJx4a65c_remove_915e3_8 rfl ?_
  refine lv_aload_n hx hb dJx4a65c_remove_915e3_9 rfl (lv_at hl 0 rfl) ?_
  refine cw_getPr (a := h) hF hH fk_Jx4a65c_9 dJx4a65c_remove_915e3_10 hw (fun z4 hw => ?_)
  refine w_astoreq_n (lv' := [(2, va_rf z4), (0, .ref h), (1, .int a1)]) hF dJx4a65c_remove_915e3_13 rfl hl (by decide) rfl (fun ls hl => ?_)
  refine w_aloadq_n hF dJx4a65c_remove_915e3_14 rfl (lv_at hl 0 rfl) ?_
  refine lv_iload_n hx hb dJx4a65c_remove_915e3_15 rfl (lv_at hl 2 rfl) ?_
  refine cw_aald (q := z4) hF hH dJx4a65c_remove_915e3_16 hw (fun z5 hw => ?_)
  refine w_astoreq_n (lv' := [(3, va_rf z5), (2, va_rf z4), (0, .ref h), (1, .int a1)]) hF dJx4a65c_remove_915e3_17 rfl hl (by decide) (by generalize z4 = y; cases y <;> rfl) (fun ls hl => ?_)
  refine lv_aload_n hx hb dJx4a65c_remove_915e3_18 rfl (lv_at hl 2 rfl) ?_
  refine w_aloadq_n hF dJx4a65c_remove_915e3_19 rfl (lv_at hl 1 rfl) ?_
  refine lv_iload_n hx hb dJx4a65c_remove_915e3_20 rfl (lv_at hl 3 rfl) ?_
  refine cw_cVv (b := h) (As := [va_rf z4, .int a1]) (rest := []) hF hH hA hE mv_Jx4a65c_144 ci_Jx4a65c (by decide) (fun sz => c_Jx4a65c_fastRemove_b59b0 l D t G _ h z4 a1 _ hw.2 sz) dJx4a65c_remove_915e3_21 hw.1 ⟨Nat.le_of_ble_eq_true rfl, Nat.le_of_ble_eq_true rfl⟩ rfl hl.1 (Nat.le_of_ble_eq_true rfl) rfl (fun κ6 H locs cells slots hw hH => ?_)
  refine w_aloadq_n hF dJx4a65c_remove_915e3_24 rfl (lv_at hl 0 rfl) ?_
  exact cw_retq (v := z5) hF hH ⟨rfl, rfl⟩ hr (by first | exact Or.inl ⟨_, rfl⟩ | exact Or.inr ⟨_, rfl⟩) hlk dJx4a65c_remove_915e3_25 hw
set_option maxRecDepth 100000 in
def F_X11_giveUp (G : GE) (h : Nat) (a1 : Option Nat) (a2 : Option Nat) (a3 : Option Nat) (post : CS → Prop) (κ : CS) : Prop := (h ∈ sL κ.1 ∧ sK κ.1 h = 1) ∧ ∀ z1 : Option Nat, z1 = sP κ.1 h 12 → ∃ b : Nat, z1 = some b ∧ (b ∈ sL κ.1 ∧ sK κ.1 b = 7) ∧ F_Jx4a65c_size_8abf5 G b  (fun (z3 : Int32) (κ2 : CS) => ∀ z4 : Int32, z4 = z3 - 1 → lc (fun (K7 : Int32 → CS → Prop) (x5 : Int32) (κ6 : CS) => ((x5.toInt < 0) → post κ6) ∧ ((0 ≤ x5.toInt) → (h ∈ sL κ6.1 ∧ sK κ6.1 h = 1) ∧ ∀ z9 : Option Nat, z9 = sP κ6.1 h 12 → ∃ b : Nat, z9 = some b ∧ (b ∈ sL κ6.1 ∧ sK κ6.1 b = 7) ∧ F_Jx4a65c_get_915e3 G b x5 (fun (z11 : Option Nat) (κ10 : CS) => (z11 = none ∨ ∃ b : Nat, z11 = some b ∧ b ∈ sL κ10.1 ∧ sK κ10.1 b = 8) ∧ ∃ b : Nat, z11 = some b ∧ (b ∈ sL κ10.1 ∧ sK κ10.1 b = 8) ∧ ∀ z12 : Option Nat, z12 = sP κ10.1 b 0 → jc (fun (K15 : Unit → CS → Prop) => jc (fun (K21 : Unit → CS → Prop) => ((z12 = a1) → K21 () κ10) ∧ ((¬ z12 = a1) → jc (fun (K29 : Unit → CS → Prop) => ((a2 = none) → K29 () κ10) ∧ ((¬ a2 = none) → ∃ b : Nat, z11 = some b ∧ (b ∈ sL κ10.1 ∧ sK κ10.1 b = 8) ∧ ∀ z33 : Option Nat, z33 = sP κ10.1 b 13 → ((z33 = a2) → K21 () κ10) ∧ ((¬ z33 = a2) → K29 () κ10))) (fun (x27 : Unit) (κ28 : CS) => ((a3 = none) → K15 () κ28) ∧ ((¬ a3 = none) → ∃ b : Nat, z11 = some b ∧ (b ∈ sL κ28.1 ∧ sK κ28.1 b = 8) ∧ ∀ z32 : Option Nat, z32 = sP κ28.1 b 14 → ((¬ z32 = a3) → K15 () κ28) ∧ ((z32 = a3) → K21 () κ28))))) (fun (x19 : Unit) (κ20 : CS) => (h ∈ sL κ20.1 ∧ sK κ20.1 h = 1) ∧ ∀ z24 : Option Nat, z24 = sP κ20.1 h 12 → ∃ b : Nat, z24 = some b ∧ (b ∈ sL κ20.1 ∧ sK κ20.1 b = 7) ∧ F_Jx4a65c_remove_915e3 G b x5 (fun (z26 : Option Nat) (κ25 : CS) => K15 () κ25) κ20)) (fun (x13 : Unit) (κ14 : CS) => ∀ z18 : Int32, z18 = x5 + (-1) → K7 z18 κ14)) κ6)) z4 κ2) κ
theorem dX11_giveUp_0 : decode cX11_giveUp 0 = .ok (.aload_n 0, 1) := by decide +kernel
theorem dX11_giveUp_1 : decode cX11_giveUp 1 = .ok (.getfield 58, 3) := by decide +kernel
theorem dX11_giveUp_4 : decode cX11_giveUp 4 = .ok (.invokevirtual 161, 3) := by decide +kernel
theorem dX11_giveUp_7 : decode cX11_giveUp 7 = .ok (.iconst 1, 1) := by decide +kernel
theorem dX11_giveUp_8 : decode cX11_giveUp 8 = .ok (.isub, 1) := by decide +kernel
theorem dX11_giveUp_9 : decode cX11_giveUp 9 = .ok (.istore 4, 2) := by decide +kernel
theorem dX11_giveUp_11 : decode cX11_giveUp 11 = .ok (.iload 4, 2) := by decide +kernel
theorem dX11_giveUp_13 : decode cX11_giveUp 13 = .ok (.ifCond .lt 68, 3) := by decide +kernel
theorem dX11_giveUp_16 : decode cX11_giveUp 16 = .ok (.aload_n 0, 1) := by decide +kernel
theorem dX11_giveUp_17 : decode cX11_giveUp 17 = .ok (.getfield 58, 3) := by decide +kernel
theorem dX11_giveUp_20 : decode cX11_giveUp 20 = .ok (.iload 4, 2) := by decide +kernel
theorem dX11_giveUp_22 : decode cX11_giveUp 22 = .ok (.invokevirtual 164, 3) := by decide +kernel
theorem dX11_giveUp_25 : decode cX11_giveUp 25 = .ok (.checkcast 264, 3) := by decide +kernel
theorem dX11_giveUp_28 : decode cX11_giveUp 28 = .ok (.astore 5, 2) := by decide +kernel
theorem dX11_giveUp_30 : decode cX11_giveUp 30 = .ok (.aload 5, 2) := by decide +kernel
theorem dX11_giveUp_32 : decode cX11_giveUp 32 = .ok (.getfield 310, 3) := by decide +kernel
theorem dX11_giveUp_35 : decode cX11_giveUp 35 = .ok (.aload_n 1, 1) := by decide +kernel
theorem dX11_giveUp_36 : decode cX11_giveUp 36 = .ok (.if_acmp .eq 29, 3) := by decide +kernel
theorem dX11_giveUp_39 : decode cX11_giveUp 39 = .ok (.aload_n 2, 1) := by decide +kernel
theorem dX11_giveUp_40 : decode cX11_giveUp 40 = .ok (.ifnull 12, 3) := by decide +kernel
theorem dX11_giveUp_43 : decode cX11_giveUp 43 = .ok (.aload 5, 2) := by decide +kernel
theorem dX11_giveUp_45 : decode cX11_giveUp 45 = .ok (.getfield 373, 3) := by decide +kernel
theorem dX11_giveUp_48 : decode cX11_giveUp 48 = .ok (.aload_n 2, 1) := by decide +kernel
theorem dX11_giveUp_49 : decode cX11_giveUp 49 = .ok (.if_acmp .eq 16, 3) := by decide +kernel
theorem dX11_giveUp_52 : decode cX11_giveUp 52 = .ok (.aload_n 3, 1) := by decide +kernel
theorem dX11_giveUp_53 : decode cX11_giveUp 53 = .ok (.ifnull 22, 3) := by decide +kernel
theorem dX11_giveUp_56 : decode cX11_giveUp 56 = .ok (.aload 5, 2) := by decide +kernel
theorem dX11_giveUp_58 : decode cX11_giveUp 58 = .ok (.getfield 382, 3) := by decide +kernel
theorem dX11_giveUp_61 : decode cX11_giveUp 61 = .ok (.aload_n 3, 1) := by decide +kernel
theorem dX11_giveUp_62 : decode cX11_giveUp 62 = .ok (.if_acmp .ne 13, 3) := by decide +kernel
theorem dX11_giveUp_65 : decode cX11_giveUp 65 = .ok (.aload_n 0, 1) := by decide +kernel
theorem dX11_giveUp_66 : decode cX11_giveUp 66 = .ok (.getfield 58, 3) := by decide +kernel
theorem dX11_giveUp_69 : decode cX11_giveUp 69 = .ok (.iload 4, 2) := by decide +kernel
theorem dX11_giveUp_71 : decode cX11_giveUp 71 = .ok (.invokevirtual 496, 3) := by decide +kernel
theorem dX11_giveUp_74 : decode cX11_giveUp 74 = .ok (.pop, 1) := by decide +kernel
theorem dX11_giveUp_75 : decode cX11_giveUp 75 = .ok (.iinc 4 (-1), 3) := by decide +kernel
theorem dX11_giveUp_78 : decode cX11_giveUp 78 = .ok (.goto (-67), 3) := by decide +kernel
theorem dX11_giveUp_81 : decode cX11_giveUp 81 = .ok (.return_, 1) := by decide +kernel
set_option maxRecDepth 100000 in
set_option maxHeartbeats 4000000 in
theorem c_X11_giveUp (l : Launch) (D : va_G) (t : Nat → ClassId) (G : GE) (κ : CS) (h : Nat) (a1 : Option Nat) (a2 : Option Nat) (a3 : Option Nat) (post : CS → Prop) (hw : F_X11_giveUp G h a1 a2 a3 post κ) (sz : Nat) : CMv l D t yX11_giveUp cX11_giveUp 6 3 86 G κ sz [.ref h, va_rf a1, va_rf a2, va_rf a3] post := by
  refine c_go (by decide) (by cases a1 <;> cases a2 <;> cases a3 <;> exact Nat.le_of_ble_eq_true rfl) ?_
  intro p e s m below meth c ls A hF hr hlk hin hAe hH hA hE hl
  unfold cB
  rw [hAe]
  clear hAe
  have hF : FX p m c cX11_giveUp 6 s _ RX11 D t := hF
  have hx := hF.1.1
  have hb := hF.1.2.1
  have hl : lv_has ls 6 [(0, .ref h), (1, va_rf a1), (2, va_rf a2), (3, va_rf a3)] := (by have h2 := hl; clear hw; revert h2; cases a1 <;> cases a2 <;> cases a3 <;> exact id)
  unfold F_X11_giveUp at hw
  refine lv_aload_n hx hb dX11_giveUp_0 rfl (lv_at hl 0 rfl) ?_
  refine cw_getPr (a := h) hF hH fk_X11_58 dX11_giveUp_1 hw (fun z1 hw => ?_)
  refine cw_cViq (q := z1) (As := []) (rest := []) hF hH hA hE mv_X11_161 ci_Jx4a65c (by decide) hw (fun b hw sz => c_Jx4a65c_size_8abf5 l D t G _ b  _ hw sz) dX11_giveUp_4 ⟨Nat.le_of_ble_eq_true rfl, Nat.le_of_ble_eq_true rfl⟩ rfl hl.1 (Nat.le_of_ble_eq_true rfl) rfl (fun z3 κ2 H locs cells slots hw hH => ?_)
  refine lv_iconst (v := 1) hx hb dX11_giveUp_7 (by decide) ?_
  refine lv_isub hx hb dX11_giveUp_8 ?_
  refine w_nmi hw (fun z4 hw => ?_)
  refine lv_istore (lv' := [(4, .int z4), (0, .ref h), (1, va_rf a1), (2, va_rf a2), (3, va_rf a3)]) hx hb dX11_giveUp_9 hl (by decide) (by generalize a3 = y; cases y <;> rfl) (fun ls hl => ?_)
  have hl : lv_has ls 6 [(4, .int z4), (3, va_rf a3), (2, va_rf a2), (1, va_rf a1), (0, .ref h)] := lv_sub hl [0, 4, 3, 2, 1] rfl
  refine cw_loop (β := Int32) (fun x5 => [(4, .int x5), (3, va_rf a3), (2, va_rf a2), (1, va_rf a1), (0, .ref h)]) z4 hl hw hH (fun K7 x5 κ6 ls H locs cells slots hl hw hH ih8 => ?_)
  have hl : lv_has ls 6 [(4, .int x5), (3, va_rf a3), (2, va_rf a2), (1, va_rf a1), (0, .ref h)] := hl
  refine lv_iload hx hb dX11_giveUp_11 (lv_at hl 0 rfl) ?_
  refine w_if_lt (tgt := 81) hF dX11_giveUp_13 rfl hw (fun hw => ?_) (fun hw => ?_)
  · exact cw_retv hF hH ⟨rfl, rfl⟩ hr hlk dX11_giveUp_81 hw
  · refine lv_aload_n hx hb dX11_giveUp_16 rfl (lv_at hl 4 rfl) ?_
    refine cw_getPr (a := h) hF hH fk_X11_58 dX11_giveUp_17 hw (fun z9 hw => ?_)
    refine lv_iload hx hb dX11_giveUp_20 (lv_at hl 0 rfl) ?_
    refine cw_cVqq (q := z9) (As := [.int x5]) (rest := []) hF hH hA hE mv_X11_164 ci_Jx4a65c (by decide) hw (fun b hw sz => c_Jx4a65c_get_915e3 l D t G _ b x5 _ hw sz) dX11_giveUp_22 ⟨Nat.le_of_ble_eq_true rfl, Nat.le_of_ble_eq_true rfl⟩ rfl hl.1 (Nat.le_of_ble_eq_true rfl) rfl (fun z11 κ10 H locs cells slots hw hH => ?_)
    refine cw_cast (q := z11) hF hH ci_X0 (by decide) (wc_16 15 rfl) (by decide) dX11_giveUp_25 hw (fun hw => ?_)
    refine w_astoreq (lv' := [(5, va_rf z11), (4, .int x5), (3, va_rf a3), (2, va_rf a2), (1, va_rf a1), (0, .ref h)]) hF dX11_giveUp_28 hl (by decide) rfl (fun ls hl => ?_)
    refine w_aloadq hF dX11_giveUp_30 (lv_at hl 0 rfl) ?_
    refine cw_getP (q := z11) hF hH fk_X11_310 dX11_giveUp_32 hw (fun z12 hw => ?_)
    refine w_aloadq_n hF dX11_giveUp_35 rfl (lv_at hl 4 rfl) ?_
    obtain ⟨K15, hK16, hw⟩ := jc_open hw
    refine cw_join (K := K15) 75 (fun (x13 : Unit) => [(4, .int x5), (3, va_rf a3), (2, va_rf a2), (1, va_rf a1), (0, .ref h)]) (fun (x13 : Unit) => []) hl hH (fun x13 κ14 ls H locs cells slots hl hw hH => ?_) (fun jn17 => ?_)
    · have hw := hK16 x13 κ14 hw
      have hl : lv_has ls 6 [(4, .int x5), (3, va_rf a3), (2, va_rf a2), (1, va_rf a1), (0, .ref h)] := hl
      obtain ⟨z18, ez18⟩ : ∃ z : Int32, z = x5 + (-1) := ⟨_, rfl⟩
      have hw := hw z18 ez18
      refine lv_iinc (lv' := [(4, .int z18), (3, va_rf a3), (2, va_rf a2), (1, va_rf a1), (0, .ref h)]) (k := 0) (v := z18) hx hb dX11_giveUp_75 hl rfl ez18.symm (by decide) (by generalize a3 = y; cases y <;> rfl) (fun ls hl => ?_)
      refine lv_goto (tgt := 11) hx hb dX11_giveUp_78 rfl ?_
      exact ih8 z18 κ14 ls _ _ _ _ hl hw hH
    · skip
      obtain ⟨K21, hK22, hw⟩ := jc_open hw
      refine cw_join (K := K21) 65 (fun (x19 : Unit) => [(4, .int x5), (3, va_rf a3), (2, va_rf a2), (1, va_rf a1), (0, .ref h)]) (fun (x19 : Unit) => []) hl hH (fun x19 κ20 ls H locs cells slots hl hw hH => ?_) (fun jn23 => ?_)
      · have hw := hK22 x19 κ20 hw
        have hl : lv_has ls 6 [(4, .int x5), (3, va_rf a3), (2, va_rf a2), (1, va_rf a1), (0, .ref h)] := hl
        refine lv_aload_n hx hb dX11_giveUp_65 rfl (lv_at hl 4 rfl) ?_
        refine cw_getPr (a := h) hF hH fk_X11_58 dX11_giveUp_66 hw (fun z24 hw => ?_)
        refine lv_iload hx hb dX11_giveUp_69 (lv_at hl 0 rfl) ?_
        refine cw_cVqq (q := z24) (As := [.int x5]) (rest := []) hF hH hA hE mv_X11_496 ci_Jx4a65c (by decide) hw (fun b hw sz => c_Jx4a65c_remove_915e3 l D t G _ b x5 _ hw sz) dX11_giveUp_71 ⟨Nat.le_of_ble_eq_true rfl, Nat.le_of_ble_eq_true rfl⟩ rfl hl.1 (Nat.le_of_ble_eq_true rfl) rfl (fun z26 κ25 H locs cells slots hw hH => ?_)
        refine lv_pop hx hb dX11_giveUp_74 (cat_rf _) ?_
        exact jn17 () κ25 ls _ _ _ _ hl hw hH
      · skip
        refine cw_acmp_eq (rx := z12) (ry := a1) (tgt := 65) hF dX11_giveUp_36 rfl hw (fun hw => ?_) (fun hw => ?_)
        · have hl : lv_has ls 6 [(4, .int x5), (3, va_rf a3), (2, va_rf a2), (1, va_rf a1), (0, .ref h)] := lv_sub hl [1, 2, 3, 4, 5] rfl
          exact jn23 () κ10 ls _ _ _ _ hl hw hH
        · refine w_aloadq_n hF dX11_giveUp_39 rfl (lv_at hl 3 rfl) ?_
          obtain ⟨K29, hK30, hw⟩ := jc_open hw
          refine cw_join (K := K29) 52 (fun (x27 : Unit) => [(5, va_rf z11), (4, .int x5), (3, va_rf a3), (2, va_rf a2), (1, va_rf a1), (0, .ref h)]) (fun (x27 : Unit) => []) hl hH (fun x27 κ28 ls H locs cells slots hl hw hH => ?_) (fun jn31 => ?_)
          · have hw := hK30 x27 κ28 hw
            have hl : lv_has ls 6 [(5, va_rf z11), (4, .int x5), (3, va_rf a3), (2, va_rf a2), (1, va_rf a1), (0, .ref h)] := hl
            refine w_aloadq_n hF dX11_giveUp_52 rfl (lv_at hl 2 rfl) ?_
            refine cw_ifnull (q := a3) (tgt := 75) hF dX11_giveUp_53 rfl hw (fun hw => ?_) (fun hw => ?_)
            · have hl : lv_has ls 6 [(4, .int x5), (3, va_rf a3), (2, va_rf a2), (1, va_rf a1), (0, .ref h)] := lv_sub hl [1, 2, 3, 4, 5] rfl
              exact jn17 () κ28 ls _ _ _ _ hl hw hH
            · refine w_aloadq hF dX11_giveUp_56 (lv_at hl 0 rfl) ?_
              refine cw_getP (q := z11) hF hH fk_X11_382 dX11_giveUp_58 hw (fun z32 hw => ?_)
              refine w_aloadq_n hF dX11_giveUp_61 rfl (lv_at hl 2 rfl) ?_
              refine cw_acmp_ne (rx := z32) (ry := a3) (tgt := 75) hF dX11_giveUp_62 rfl hw (fun hw => ?_) (fun hw => ?_)
              · have hl : lv_has ls 6 [(4, .int x5), (3, va_rf a3), (2, va_rf a2), (1, va_rf a1), (0, .ref h)] := lv_sub hl [1, 2, 3, 4, 5] rfl
                exact jn17 () κ28 ls _ _ _ _ hl hw hH
              · have hl : lv_has ls 6 [(4, .int x5), (3, va_rf a3), (2, va_rf a2), (1, va_rf a1), (0, .ref h)] := lv_sub hl [1, 2, 3, 4, 5] rfl
                exact jn23 () κ28 ls _ _ _ _ hl hw hH
          · skip
            refine cw_ifnull (q := a2) (tgt := 52) hF dX11_giveUp_40 rfl hw (fun hw => ?_) (fun hw => ?_)
            · exact jn31 () κ10 ls _ _ _ _ hl hw hH
            · refine w_aloadq hF dX11_giveUp_43 (lv_at hl 0 rfl) ?_
              refine cw_getP (q := z11) hF hH fk_X11_373 dX11_giveUp_45 hw (fun z33 hw => ?_)
              refine w_aloadq_n hF dX11_giveUp_48 rfl (lv_at hl 3 rfl) ?_
              refine cw_acmp_eq (rx := z33) (ry := a2) (tgt := 65) hF dX11_giveUp_49 rfl hw (fun hw => ?_) (fun hw => ?_)
              · have hl : lv_has ls 6 [(4, .int x5), (3, va_rf a3), (2, va_rf a2), (1, va_rf a1), (0, .ref h)] := lv_sub hl [1, 2, 3, 4, 5] rfl
                exact jn23 () κ10 ls _ _ _ _ hl hw hH
              · exact jn31 () κ10 ls _ _ _ _ hl hw hH
set_option maxRecDepth 100000 in
def F_X11_shutOff (G : GE) (h : Nat) (a1 : Option Nat) (post : CS → Prop) (κ : CS) : Prop := (0 ≤ (0 : Int32).toInt ∧ (0 : Int32).toInt ≤ 1) ∧ ∃ b : Nat, a1 = some b ∧ (b ∈ sL κ.1 ∧ sK κ.1 b = 3) ∧ ∀ κ1 : CS, κ1 = (h_uI κ.1 b 0 0, κ.2) → (h ∈ sL κ1.1 ∧ sK κ1.1 h = 1) ∧ F_X11_giveUp G h a1 (none : Option Nat) (none : Option Nat) (fun (κ2 : CS) => lc (fun (K6 : Int32 → CS → Prop) (x4 : Int32) (κ5 : CS) => (h ∈ sL κ5.1 ∧ sK κ5.1 h = 1) ∧ ∀ z8 : Option Nat, z8 = sP κ5.1 h 8 → ∃ b : Nat, z8 = some b ∧ (b ∈ sL κ5.1 ∧ sK κ5.1 b = 7) ∧ F_Jx4a65c_size_8abf5 G b  (fun (z10 : Int32) (κ9 : CS) => ((z10.toInt ≤ x4.toInt) → post κ9) ∧ ((x4.toInt < z10.toInt) → (h ∈ sL κ9.1 ∧ sK κ9.1 h = 1) ∧ ∀ z11 : Option Nat, z11 = sP κ9.1 h 8 → ∃ b : Nat, z11 = some b ∧ (b ∈ sL κ9.1 ∧ sK κ9.1 b = 7) ∧ F_Jx4a65c_get_915e3 G b x4 (fun (z13 : Option Nat) (κ12 : CS) => (z13 = none ∨ ∃ b : Nat, z13 = some b ∧ b ∈ sL κ12.1 ∧ sK κ12.1 b = 11) ∧ ∃ b : Nat, z13 = some b ∧ (b ∈ sL κ12.1 ∧ sK κ12.1 b = 11) ∧ ∀ z14 : Int32, z14 = sI κ12.1 b 4 → jc (fun (K17 : Int32 → CS → Prop) => jc (fun (K24 : Unit → CS → Prop) => ((¬ z14.toInt = 0) → K24 () κ12) ∧ ((z14.toInt = 0) → ∃ b : Nat, z13 = some b ∧ (b ∈ sL κ12.1 ∧ sK κ12.1 b = 11) ∧ ∀ z27 : Option Nat, z27 = sP κ12.1 b 1 → ((¬ z27 = a1) → K17 0 κ12) ∧ ((z27 = a1) → K24 () κ12))) (fun (x22 : Unit) (κ23 : CS) => K17 1 κ23)) (fun (x15 : Int32) (κ16 : CS) => (0 ≤ x15.toInt ∧ x15.toInt ≤ 1) ∧ ∃ b : Nat, z13 = some b ∧ (b ∈ sL κ16.1 ∧ sK κ16.1 b = 11) ∧ ∀ κ20 : CS, κ20 = (h_uI κ16.1 b 4 x15, κ16.2) → ∀ z21 : Int32, z21 = x4 + 1 → K6 z21 κ20)) κ9)) κ5) 0 κ2) κ1
theorem dX11_shutOff_0 : decode cX11_shutOff 0 = .ok (.aload_n 1, 1) := by decide +kernel
theorem dX11_shutOff_1 : decode cX11_shutOff 1 = .ok (.iconst 0, 1) := by decide +kernel
theorem dX11_shutOff_2 : decode cX11_shutOff 2 = .ok (.putfield 112, 3) := by decide +kernel
theorem dX11_shutOff_5 : decode cX11_shutOff 5 = .ok (.aload_n 0, 1) := by decide +kernel
theorem dX11_shutOff_6 : decode cX11_shutOff 6 = .ok (.aload_n 1, 1) := by decide +kernel
theorem dX11_shutOff_7 : decode cX11_shutOff 7 = .ok (.aconst_null, 1) := by decide +kernel
theorem dX11_shutOff_8 : decode cX11_shutOff 8 = .ok (.aconst_null, 1) := by decide +kernel
theorem dX11_shutOff_9 : decode cX11_shutOff 9 = .ok (.invokevirtual 503, 3) := by decide +kernel
theorem dX11_shutOff_12 : decode cX11_shutOff 12 = .ok (.iconst 0, 1) := by decide +kernel
theorem dX11_shutOff_13 : decode cX11_shutOff 13 = .ok (.istore_n 2, 1) := by decide +kernel
theorem dX11_shutOff_14 : decode cX11_shutOff 14 = .ok (.iload_n 2, 1) := by decide +kernel
theorem dX11_shutOff_15 : decode cX11_shutOff 15 = .ok (.aload_n 0, 1) := by decide +kernel
theorem dX11_shutOff_16 : decode cX11_shutOff 16 = .ok (.getfield 45, 3) := by decide +kernel
theorem dX11_shutOff_19 : decode cX11_shutOff 19 = .ok (.invokevirtual 161, 3) := by decide +kernel
theorem dX11_shutOff_22 : decode cX11_shutOff 22 = .ok (.if_icmp .ge 45, 3) := by decide +kernel
theorem dX11_shutOff_25 : decode cX11_shutOff 25 = .ok (.aload_n 0, 1) := by decide +kernel
theorem dX11_shutOff_26 : decode cX11_shutOff 26 = .ok (.getfield 45, 3) := by decide +kernel
theorem dX11_shutOff_29 : decode cX11_shutOff 29 = .ok (.iload_n 2, 1) := by decide +kernel
theorem dX11_shutOff_30 : decode cX11_shutOff 30 = .ok (.invokevirtual 164, 3) := by decide +kernel
theorem dX11_shutOff_33 : decode cX11_shutOff 33 = .ok (.checkcast 403, 3) := by decide +kernel
theorem dX11_shutOff_36 : decode cX11_shutOff 36 = .ok (.astore_n 3, 1) := by decide +kernel
theorem dX11_shutOff_37 : decode cX11_shutOff 37 = .ok (.aload_n 3, 1) := by decide +kernel
theorem dX11_shutOff_38 : decode cX11_shutOff 38 = .ok (.aload_n 3, 1) := by decide +kernel
theorem dX11_shutOff_39 : decode cX11_shutOff 39 = .ok (.getfield 507, 3) := by decide +kernel
theorem dX11_shutOff_42 : decode cX11_shutOff 42 = .ok (.ifCond .ne 11, 3) := by decide +kernel
theorem dX11_shutOff_45 : decode cX11_shutOff 45 = .ok (.aload_n 3, 1) := by decide +kernel
theorem dX11_shutOff_46 : decode cX11_shutOff 46 = .ok (.getfield 406, 3) := by decide +kernel
theorem dX11_shutOff_49 : decode cX11_shutOff 49 = .ok (.aload_n 1, 1) := by decide +kernel
theorem dX11_shutOff_50 : decode cX11_shutOff 50 = .ok (.if_acmp .ne 7, 3) := by decide +kernel
theorem dX11_shutOff_53 : decode cX11_shutOff 53 = .ok (.iconst 1, 1) := by decide +kernel
theorem dX11_shutOff_54 : decode cX11_shutOff 54 = .ok (.goto 4, 3) := by decide +kernel
theorem dX11_shutOff_57 : decode cX11_shutOff 57 = .ok (.iconst 0, 1) := by decide +kernel
theorem dX11_shutOff_58 : decode cX11_shutOff 58 = .ok (.putfield 507, 3) := by decide +kernel
theorem dX11_shutOff_61 : decode cX11_shutOff 61 = .ok (.iinc 2 1, 3) := by decide +kernel
theorem dX11_shutOff_64 : decode cX11_shutOff 64 = .ok (.goto (-50), 3) := by decide +kernel
theorem dX11_shutOff_67 : decode cX11_shutOff 67 = .ok (.return_, 1) := by decide +kernel
set_option maxRecDepth 100000 in
set_option maxHeartbeats 4000000 in
theorem c_X11_shutOff (l : Launch) (D : va_G) (t : Nat → ClassId) (G : GE) (κ : CS) (h : Nat) (a1 : Option Nat) (post : CS → Prop) (hw : F_X11_shutOff G h a1 post κ) (sz : Nat) : CMv l D t yX11_shutOff cX11_shutOff 4 4 111 G κ sz [.ref h, va_rf a1] post := by
  refine c_go (by decide) (by cases a1 <;> exact Nat.le_of_ble_eq_true rfl) ?_
  intro p e s m below meth c ls A hF hr hlk hin hAe hH hA hE hl
  unfold cB
  rw [hAe]
  clear hAe
  have hF : FX p m c cX11_shutOff 4 s _ RX11 D t := hF
  have hx := hF.1.1
  have hb := hF.1.2.1
  have hl : lv_has ls 4 [(0, .ref h), (1, va_rf a1)] := (by have h2 := hl; clear hw; revert h2; cases a1 <;> exact id)
  unfold F_X11_shutOff at hw
  refine w_aloadq_n hF dX11_shutOff_0 rfl (lv_at hl 1 rfl) ?_
  refine lv_iconst (v := 0) hx hb dX11_shutOff_1 (by decide) ?_
  refine cw_putZ (q := a1) (v := 0) hF hH fk_X11_112 dX11_shutOff_2 rfl rfl hw (fun κ1 H locs cells slots hw hH => ?_)
  refine lv_aload_n hx hb dX11_shutOff_5 rfl (lv_at hl 0 rfl) ?_
  refine w_aloadq_n hF dX11_shutOff_6 rfl (lv_at hl 1 rfl) ?_
  refine cw_null dX11_shutOff_7 hF ?_
  refine cw_null dX11_shutOff_8 hF ?_
  refine cw_cVv (b := h) (As := [va_rf a1, va_rf (none : Option Nat), va_rf (none : Option Nat)]) (rest := []) hF hH hA hE mv_X11_503 ci_X11 (by decide) (fun sz => c_X11_giveUp l D t G _ h a1 (none : Option Nat) (none : Option Nat) _ hw.2 sz) dX11_shutOff_9 hw.1 ⟨Nat.le_of_ble_eq_true rfl, Nat.le_of_ble_eq_true rfl⟩ rfl hl.1 (Nat.le_of_ble_eq_true rfl) rfl (fun κ2 H locs cells slots hw hH => ?_)
  refine lv_iconst (v := 0) hx hb dX11_shutOff_12 (by decide) ?_
  refine lv_istore_n (lv' := [(2, .int 0), (0, .ref h), (1, va_rf a1)]) hx hb dX11_shutOff_13 rfl hl (by decide) (by generalize a1 = y; cases y <;> rfl) (fun ls hl => ?_)
  have hl : lv_has ls 4 [(2, .int 0), (1, va_rf a1), (0, .ref h)] := lv_sub hl [0, 2, 1] rfl
  refine cw_loop (β := Int32) (fun x4 => [(2, .int x4), (1, va_rf a1), (0, .ref h)]) 0 hl hw hH (fun K6 x4 κ5 ls H locs cells slots hl hw hH ih7 => ?_)
  have hl : lv_has ls 4 [(2, .int x4), (1, va_rf a1), (0, .ref h)] := hl
  refine lv_iload_n hx hb dX11_shutOff_14 rfl (lv_at hl 0 rfl) ?_
  refine lv_aload_n hx hb dX11_shutOff_15 rfl (lv_at hl 2 rfl) ?_
  refine cw_getPr (a := h) hF hH fk_X11_45 dX11_shutOff_16 hw (fun z8 hw => ?_)
  refine cw_cViq (q := z8) (As := []) (rest := [.int x4]) hF hH hA hE mv_X11_161 ci_Jx4a65c (by decide) hw (fun b hw sz => c_Jx4a65c_size_8abf5 l D t G _ b  _ hw sz) dX11_shutOff_19 ⟨Nat.le_of_ble_eq_true rfl, Nat.le_of_ble_eq_true rfl⟩ rfl hl.1 (Nat.le_of_ble_eq_true rfl) rfl (fun z10 κ9 H locs cells slots hw hH => ?_)
  refine w_icmp_ge (tgt := 67) hF dX11_shutOff_22 rfl hw (fun hw => ?_) (fun hw => ?_)
  · exact cw_retv hF hH ⟨rfl, rfl⟩ hr hlk dX11_shutOff_67 hw
  · refine lv_aload_n hx hb dX11_shutOff_25 rfl (lv_at hl 2 rfl) ?_
    refine cw_getPr (a := h) hF hH fk_X11_45 dX11_shutOff_26 hw (fun z11 hw => ?_)
    refine lv_iload_n hx hb dX11_shutOff_29 rfl (lv_at hl 0 rfl) ?_
    refine cw_cVqq (q := z11) (As := [.int x4]) (rest := []) hF hH hA hE mv_X11_164 ci_Jx4a65c (by decide) hw (fun b hw sz => c_Jx4a65c_get_915e3 l D t G _ b x4 _ hw sz) dX11_shutOff_30 ⟨Nat.le_of_ble_eq_true rfl, Nat.le_of_ble_eq_true rfl⟩ rfl hl.1 (Nat.le_of_ble_eq_true rfl) rfl (fun z13 κ12 H locs cells slots hw hH => ?_)
    refine cw_cast (q := z13) hF hH ci_X7 (by decide) (wc_16 25 rfl) (by decide) dX11_shutOff_33 hw (fun hw => ?_)
    refine w_astoreq_n (lv' := [(3, va_rf z13), (2, .int x4), (1, va_rf a1), (0, .ref h)]) hF dX11_shutOff_36 rfl hl (by decide) rfl (fun ls hl => ?_)
    refine w_aloadq_n hF dX11_shutOff_37 rfl (lv_at hl 0 rfl) ?_
    refine w_aloadq_n hF dX11_shutOff_38 rfl (lv_at hl 0 rfl) ?_
    refine cw_getI (q := z13) hF hH fk_X11_507 dX11_shutOff_39 hw (fun z14 hw => ?_)
    obtain ⟨K17, hK18, hw⟩ := jc_open hw
    refine cw_join (K := K17) 58 (fun (x15 : Int32) => [(2, .int x4), (1, va_rf a1), (0, .ref h)]) (fun (x15 : Int32) => [.int x15, va_rf z13]) hl hH (fun x15 κ16 ls H locs cells slots hl hw hH => ?_) (fun jn19 => ?_)
    · have hw := hK18 x15 κ16 hw
      have hl : lv_has ls 4 [(2, .int x4), (1, va_rf a1), (0, .ref h)] := hl
      refine cw_putZ (q := z13) (v := x15) hF hH fk_X11_507 dX11_shutOff_58 rfl rfl hw (fun κ20 H locs cells slots hw hH => ?_)
      obtain ⟨z21, ez21⟩ : ∃ z : Int32, z = x4 + 1 := ⟨_, rfl⟩
      have hw := hw z21 ez21
      refine lv_iinc (lv' := [(2, .int z21), (1, va_rf a1), (0, .ref h)]) (k := 0) (v := z21) hx hb dX11_shutOff_61 hl rfl ez21.symm (by decide) (by generalize a1 = y; cases y <;> rfl) (fun ls hl => ?_)
      refine lv_goto (tgt := 14) hx hb dX11_shutOff_64 rfl ?_
      exact ih7 z21 κ20 ls _ _ _ _ hl hw hH
    · skip
      obtain ⟨K24, hK25, hw⟩ := jc_open hw
      refine cw_join (K := K24) 53 (fun (x22 : Unit) => [(2, .int x4), (1, va_rf a1), (0, .ref h)]) (fun (x22 : Unit) => [va_rf z13]) hl hH (fun x22 κ23 ls H locs cells slots hl hw hH => ?_) (fun jn26 => ?_)
      · have hw := hK25 x22 κ23 hw
        have hl : lv_has ls 4 [(2, .int x4), (1, va_rf a1), (0, .ref h)] := hl
        refine lv_iconst (v := 1) hx hb dX11_shutOff_53 (by decide) ?_
        refine lv_goto (tgt := 58) hx hb dX11_shutOff_54 rfl ?_
        exact jn19 1 κ23 ls _ _ _ _ hl hw hH
      · skip
        refine w_if_ne (tgt := 53) hF dX11_shutOff_42 rfl hw (fun hw => ?_) (fun hw => ?_)
        · have hl : lv_has ls 4 [(2, .int x4), (1, va_rf a1), (0, .ref h)] := lv_sub hl [1, 2, 3] rfl
          exact jn26 () κ12 ls _ _ _ _ hl hw hH
        · refine w_aloadq_n hF dX11_shutOff_45 rfl (lv_at hl 0 rfl) ?_
          refine cw_getP (q := z13) hF hH fk_X11_406 dX11_shutOff_46 hw (fun z27 hw => ?_)
          refine w_aloadq_n hF dX11_shutOff_49 rfl (lv_at hl 2 rfl) ?_
          refine cw_acmp_ne (rx := z27) (ry := a1) (tgt := 57) hF dX11_shutOff_50 rfl hw (fun hw => ?_) (fun hw => ?_)
          · refine lv_iconst (v := 0) hx hb dX11_shutOff_57 (by decide) ?_
            have hl : lv_has ls 4 [(2, .int x4), (1, va_rf a1), (0, .ref h)] := lv_sub hl [1, 2, 3] rfl
            exact jn19 0 κ12 ls _ _ _ _ hl hw hH
          · have hl : lv_has ls 4 [(2, .int x4), (1, va_rf a1), (0, .ref h)] := lv_sub hl [1, 2, 3] rfl
            exact jn26 () κ12 ls _ _ _ _ hl hw hH

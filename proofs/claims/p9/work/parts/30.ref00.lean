/-! the reference, lifted: 0 -/
def F_X12_lay (h0 : Nat) (L : Nat → Nat) (a1 : Int32) (post : HS → Prop) (σ : HS) : Prop := lw (fun (K3 : Int32 → HS → Prop) (x1 : Int32) (σ2 : HS) => ((x1.toInt < 0) → post σ2) ∧ ((0 ≤ x1.toInt) → ∀ z5 : Int32, z5 = sI σ2 h0 1 → ∀ z6 : Int32, z6 = a1 >>> (x1 &&& 31) → ∀ z7 : Int32, z7 = (z6 : Int32).toInt8.toInt32 → (0 ≤ z5.toInt ∧ z5.toInt < 8000) ∧ ∀ σ8 : HS, σ8 = h_uI σ2 (L 0) z5.toInt.toNat (vp_nar .byte z7) → ∀ z9 : Int32, z9 = sI σ8 h0 1 → ∀ z10 : Int32, z10 = z9 + 1 → ∀ σ11 : HS, σ11 = h_uI σ8 h0 1 z10 → ∀ z12 : Int32, z12 = x1 + (-8) → K3 z12 σ11)) 24 σ
theorem dX12_lay_0 : decode cX12_lay 0 = .ok (.bipush 24, 2) := by decide +kernel
theorem dX12_lay_2 : decode cX12_lay 2 = .ok (.istore_n 2, 1) := by decide +kernel
theorem dX12_lay_3 : decode cX12_lay 3 = .ok (.iload_n 2, 1) := by decide +kernel
theorem dX12_lay_4 : decode cX12_lay 4 = .ok (.ifCond .lt 32, 3) := by decide +kernel
theorem dX12_lay_7 : decode cX12_lay 7 = .ok (.aload_n 0, 1) := by decide +kernel
theorem dX12_lay_8 : decode cX12_lay 8 = .ok (.getfield 7, 3) := by decide +kernel
theorem dX12_lay_11 : decode cX12_lay 11 = .ok (.aload_n 0, 1) := by decide +kernel
theorem dX12_lay_12 : decode cX12_lay 12 = .ok (.getfield 261, 3) := by decide +kernel
theorem dX12_lay_15 : decode cX12_lay 15 = .ok (.iload_n 1, 1) := by decide +kernel
theorem dX12_lay_16 : decode cX12_lay 16 = .ok (.iload_n 2, 1) := by decide +kernel
theorem dX12_lay_17 : decode cX12_lay 17 = .ok (.ishr, 1) := by decide +kernel
theorem dX12_lay_18 : decode cX12_lay 18 = .ok (.i2b, 1) := by decide +kernel
theorem dX12_lay_19 : decode cX12_lay 19 = .ok (.bastore, 1) := by decide +kernel
theorem dX12_lay_20 : decode cX12_lay 20 = .ok (.aload_n 0, 1) := by decide +kernel
theorem dX12_lay_21 : decode cX12_lay 21 = .ok (.dup, 1) := by decide +kernel
theorem dX12_lay_22 : decode cX12_lay 22 = .ok (.getfield 261, 3) := by decide +kernel
theorem dX12_lay_25 : decode cX12_lay 25 = .ok (.iconst 1, 1) := by decide +kernel
theorem dX12_lay_26 : decode cX12_lay 26 = .ok (.iadd, 1) := by decide +kernel
theorem dX12_lay_27 : decode cX12_lay 27 = .ok (.putfield 261, 3) := by decide +kernel
theorem dX12_lay_30 : decode cX12_lay 30 = .ok (.iinc 2 (-8), 3) := by decide +kernel
theorem dX12_lay_33 : decode cX12_lay 33 = .ok (.goto (-30), 3) := by decide +kernel
theorem dX12_lay_36 : decode cX12_lay 36 = .ok (.return_, 1) := by decide +kernel
set_option maxRecDepth 100000 in
set_option maxHeartbeats 4000000 in
theorem c_X12_lay (l : Launch) (D : va_G) (t : Nat → ClassId) (h0 : Nat) (L : Nat → Nat) (σ : HS) (hM : MdI h0 L σ) (a1 : Int32) (post : HS → Prop) (hw : F_X12_lay h0 L a1 post σ) (sz : Nat) : RMv l D t yX12_lay cX12_lay 3 ({ frames := 0, cells := 0, slots := 0, locals := 0 }) h0 L σ sz [.ref h0, .int a1] post := by
  refine h_go (τ := τT) okT (by decide) (Nat.le_of_ble_eq_true rfl) ?_
  intro p e s m below meth c ls A hF hr hlk hAe hH0 hA hl
  unfold hB
  rw [hAe]
  clear hAe
  have hF : FX p m c cX12_lay 3 s _ RX12 D t := hF
  have hx := hF.1.1
  have hb := hF.1.2.1
  have hH : RT D t A s.heap h0 L σ s.heap [] := ⟨hH0, hM⟩
  have hl : lv_has ls 3 [(0, .ref h0), (1, .int a1)] := hl
  unfold F_X12_lay at hw
  refine lv_bipush (v := 24) hx hb dX12_lay_0 (by decide) ?_
  refine lv_istore_n (lv' := [(2, .int 24), (0, .ref h0), (1, .int a1)]) hx hb dX12_lay_2 rfl hl (by decide) rfl (fun ls hl => ?_)
  have hl : lv_has ls 3 [(2, .int 24), (1, .int a1), (0, .ref h0)] := lv_sub hl [0, 2, 1] rfl
  refine w_loop (β := Int32) (fun x1 => [(2, .int x1), (1, .int a1), (0, .ref h0)]) 24 hl hw hH (fun K3 x1 σ2 ls H locs hl hw hH ih4 => ?_)
  have hl : lv_has ls 3 [(2, .int x1), (1, .int a1), (0, .ref h0)] := hl
  refine lv_iload_n hx hb dX12_lay_3 rfl (lv_at hl 0 rfl) ?_
  refine w_if_lt (tgt := 36) hF dX12_lay_4 rfl hw (fun hw => ?_) (fun hw => ?_)
  · exact w_retv hF hH hr hlk dX12_lay_36 hw
  · refine lv_aload_n hx hb dX12_lay_7 rfl (lv_at hl 2 rfl) ?_
    refine w_getA 0 hF hH fk_X12_7 dX12_lay_8 (by decide) rfl ?_
    refine lv_aload_n hx hb dX12_lay_11 rfl (lv_at hl 2 rfl) ?_
    refine w_getI hF hH fk_X12_261 dX12_lay_12 hw (fun z5 hw => ?_)
    refine lv_iload_n hx hb dX12_lay_15 rfl (lv_at hl 1 rfl) ?_
    refine lv_iload_n hx hb dX12_lay_16 rfl (lv_at hl 0 rfl) ?_
    refine lv_ishr hx hb dX12_lay_17 ?_
    refine w_nmi hw (fun z6 hw => ?_)
    refine lv_i2b hx hb dX12_lay_18 rfl ?_
    refine w_nmi hw (fun z7 hw => ?_)
    refine w_bast 0 8000 hF hH dX12_lay_19 (by decide) rfl rfl hw (fun σ8 H locs hw hH => ?_)
    refine lv_aload_n hx hb dX12_lay_20 rfl (lv_at hl 2 rfl) ?_
    refine lv_dup hx hb dX12_lay_21 rfl ?_
    refine w_getI hF hH fk_X12_261 dX12_lay_22 hw (fun z9 hw => ?_)
    refine lv_iconst (v := 1) hx hb dX12_lay_25 (by decide) ?_
    refine lv_iadd hx hb dX12_lay_26 ?_
    refine w_nmi hw (fun z10 hw => ?_)
    refine w_putI hF hH fk_X12_261 dX12_lay_27 rfl rfl rfl hw (fun σ11 H locs hw hH => ?_)
    obtain ⟨z12, ez12⟩ : ∃ z : Int32, z = x1 + (-8) := ⟨_, rfl⟩
    have hw := hw z12 ez12
    refine lv_iinc (lv' := [(2, .int z12), (1, .int a1), (0, .ref h0)]) (k := 0) (v := z12) hx hb dX12_lay_30 hl rfl ez12.symm (by decide) rfl (fun ls hl => ?_)
    refine lv_goto (tgt := 3) hx hb dX12_lay_33 rfl ?_
    exact ih4 z12 σ11 ls _ _ hl hw hH
def F_X12_feed (h0 : Nat) (L : Nat → Nat) (a1 : Int32) (a2 : Int32) (a3 : Int32) (a4 : Int32) (a5 : Int32) (post : Int32 → HS → Prop) (σ : HS) : Prop := ∀ z1 : Int32, z1 = sI σ h0 1 → ∀ z2 : Int32, z2 = z1 + 20 → ((z2.toInt ≤ (8000 : Int32).toInt) → F_X12_lay h0 L a1 (fun (σ3 : HS) => F_X12_lay h0 L a2 (fun (σ5 : HS) => F_X12_lay h0 L a3 (fun (σ7 : HS) => F_X12_lay h0 L a4 (fun (σ9 : HS) => F_X12_lay h0 L a5 (fun (σ11 : HS) => ∀ z13 : Int32, z13 = sI σ11 h0 1 → post z13 σ11) σ9) σ7) σ5) σ3) σ) ∧ (((8000 : Int32).toInt < z2.toInt) → post (-1) σ)
theorem dX12_feed_0 : decode cX12_feed 0 = .ok (.aload_n 0, 1) := by decide +kernel
theorem dX12_feed_1 : decode cX12_feed 1 = .ok (.getfield 261, 3) := by decide +kernel
theorem dX12_feed_4 : decode cX12_feed 4 = .ok (.bipush 20, 2) := by decide +kernel
theorem dX12_feed_6 : decode cX12_feed 6 = .ok (.iadd, 1) := by decide +kernel
theorem dX12_feed_7 : decode cX12_feed 7 = .ok (.sipush 8000, 3) := by decide +kernel
theorem dX12_feed_10 : decode cX12_feed 10 = .ok (.if_icmp .le 5, 3) := by decide +kernel
theorem dX12_feed_13 : decode cX12_feed 13 = .ok (.iconst (-1), 1) := by decide +kernel
theorem dX12_feed_14 : decode cX12_feed 14 = .ok (.ireturn, 1) := by decide +kernel
theorem dX12_feed_15 : decode cX12_feed 15 = .ok (.aload_n 0, 1) := by decide +kernel
theorem dX12_feed_16 : decode cX12_feed 16 = .ok (.iload_n 1, 1) := by decide +kernel
theorem dX12_feed_17 : decode cX12_feed 17 = .ok (.invokevirtual 265, 3) := by decide +kernel
theorem dX12_feed_20 : decode cX12_feed 20 = .ok (.aload_n 0, 1) := by decide +kernel
theorem dX12_feed_21 : decode cX12_feed 21 = .ok (.iload_n 2, 1) := by decide +kernel
theorem dX12_feed_22 : decode cX12_feed 22 = .ok (.invokevirtual 265, 3) := by decide +kernel
theorem dX12_feed_25 : decode cX12_feed 25 = .ok (.aload_n 0, 1) := by decide +kernel
theorem dX12_feed_26 : decode cX12_feed 26 = .ok (.iload_n 3, 1) := by decide +kernel
theorem dX12_feed_27 : decode cX12_feed 27 = .ok (.invokevirtual 265, 3) := by decide +kernel
theorem dX12_feed_30 : decode cX12_feed 30 = .ok (.aload_n 0, 1) := by decide +kernel
theorem dX12_feed_31 : decode cX12_feed 31 = .ok (.iload 4, 2) := by decide +kernel
theorem dX12_feed_33 : decode cX12_feed 33 = .ok (.invokevirtual 265, 3) := by decide +kernel
theorem dX12_feed_36 : decode cX12_feed 36 = .ok (.aload_n 0, 1) := by decide +kernel
theorem dX12_feed_37 : decode cX12_feed 37 = .ok (.iload 5, 2) := by decide +kernel
theorem dX12_feed_39 : decode cX12_feed 39 = .ok (.invokevirtual 265, 3) := by decide +kernel
theorem dX12_feed_42 : decode cX12_feed 42 = .ok (.aload_n 0, 1) := by decide +kernel
theorem dX12_feed_43 : decode cX12_feed 43 = .ok (.getfield 261, 3) := by decide +kernel
theorem dX12_feed_46 : decode cX12_feed 46 = .ok (.ireturn, 1) := by decide +kernel
set_option maxRecDepth 100000 in
set_option maxHeartbeats 4000000 in
theorem c_X12_feed (l : Launch) (D : va_G) (t : Nat → ClassId) (h0 : Nat) (L : Nat → Nat) (σ : HS) (hM : MdI h0 L σ) (a1 : Int32) (a2 : Int32) (a3 : Int32) (a4 : Int32) (a5 : Int32) (post : Int32 → HS → Prop) (hw : F_X12_feed h0 L a1 a2 a3 a4 a5 post σ) (sz : Nat) : RMi l D t yX12_feed cX12_feed 6 (some .int) ({ frames := 1, cells := 0, slots := 0, locals := 22 }) h0 L σ sz [.ref h0, .int a1, .int a2, .int a3, .int a4, .int a5] post := by
  refine h_go (τ := τT) okT (by decide) (Nat.le_of_ble_eq_true rfl) ?_
  intro p e s m below meth c ls A hF hr hlk hAe hH0 hA hl
  unfold hB
  rw [hAe]
  clear hAe
  have hF : FX p m c cX12_feed 6 s _ RX12 D t := hF
  have hx := hF.1.1
  have hb := hF.1.2.1
  have hH : RT D t A s.heap h0 L σ s.heap [] := ⟨hH0, hM⟩
  have hl : lv_has ls 6 [(0, .ref h0), (1, .int a1), (2, .int a2), (3, .int a3), (4, .int a4), (5, .int a5)] := hl
  unfold F_X12_feed at hw
  refine lv_aload_n hx hb dX12_feed_0 rfl (lv_at hl 0 rfl) ?_
  refine w_getI hF hH fk_X12_261 dX12_feed_1 hw (fun z1 hw => ?_)
  refine lv_bipush (v := 20) hx hb dX12_feed_4 (by decide) ?_
  refine lv_iadd hx hb dX12_feed_6 ?_
  refine w_nmi hw (fun z2 hw => ?_)
  refine lv_sipush (v := 8000) hx hb dX12_feed_7 (by decide) ?_
  refine w_icmp_le (tgt := 15) hF dX12_feed_10 rfl hw (fun hw => ?_) (fun hw => ?_)
  · refine lv_aload_n hx hb dX12_feed_15 rfl (lv_at hl 0 rfl) ?_
    refine lv_iload_n hx hb dX12_feed_16 rfl (lv_at hl 1 rfl) ?_
    refine w_cVv (As := [.int a1]) (rest := []) hF hH hA mv_X12_265 (fun sz => c_X12_lay l D t h0 L _ hH.2 a1 _ hw sz) dX12_feed_17 rfl rfl (by decide) rfl hl.1 (Nat.le_of_ble_eq_true rfl) (by decide) rfl (fun σ3 H locs hw hH => ?_)
    refine lv_aload_n hx hb dX12_feed_20 rfl (lv_at hl 0 rfl) ?_
    refine lv_iload_n hx hb dX12_feed_21 rfl (lv_at hl 2 rfl) ?_
    refine w_cVv (As := [.int a2]) (rest := []) hF hH hA mv_X12_265 (fun sz => c_X12_lay l D t h0 L _ hH.2 a2 _ hw sz) dX12_feed_22 rfl rfl (by decide) rfl hl.1 (Nat.le_of_ble_eq_true rfl) (by decide) rfl (fun σ5 H locs hw hH => ?_)
    refine lv_aload_n hx hb dX12_feed_25 rfl (lv_at hl 0 rfl) ?_
    refine lv_iload_n hx hb dX12_feed_26 rfl (lv_at hl 3 rfl) ?_
    refine w_cVv (As := [.int a3]) (rest := []) hF hH hA mv_X12_265 (fun sz => c_X12_lay l D t h0 L _ hH.2 a3 _ hw sz) dX12_feed_27 rfl rfl (by decide) rfl hl.1 (Nat.le_of_ble_eq_true rfl) (by decide) rfl (fun σ7 H locs hw hH => ?_)
    refine lv_aload_n hx hb dX12_feed_30 rfl (lv_at hl 0 rfl) ?_
    refine lv_iload hx hb dX12_feed_31 (lv_at hl 4 rfl) ?_
    refine w_cVv (As := [.int a4]) (rest := []) hF hH hA mv_X12_265 (fun sz => c_X12_lay l D t h0 L _ hH.2 a4 _ hw sz) dX12_feed_33 rfl rfl (by decide) rfl hl.1 (Nat.le_of_ble_eq_true rfl) (by decide) rfl (fun σ9 H locs hw hH => ?_)
    refine lv_aload_n hx hb dX12_feed_36 rfl (lv_at hl 0 rfl) ?_
    refine lv_iload hx hb dX12_feed_37 (lv_at hl 5 rfl) ?_
    refine w_cVv (As := [.int a5]) (rest := []) hF hH hA mv_X12_265 (fun sz => c_X12_lay l D t h0 L _ hH.2 a5 _ hw sz) dX12_feed_39 rfl rfl (by decide) rfl hl.1 (Nat.le_of_ble_eq_true rfl) (by decide) rfl (fun σ11 H locs hw hH => ?_)
    refine lv_aload_n hx hb dX12_feed_42 rfl (lv_at hl 0 rfl) ?_
    refine w_getI hF hH fk_X12_261 dX12_feed_43 hw (fun z13 hw => ?_)
    exact w_reti hF hH hr hlk rfl dX12_feed_46 hw
  · refine lv_iconst (v := (-1)) hx hb dX12_feed_13 (by decide) ?_
    exact w_reti hF hH hr hlk rfl dX12_feed_14 hw
def F_X12_cut (h0 : Nat) (L : Nat → Nat) (a1 : Int32) (post : Int32 → HS → Prop) (σ : HS) : Prop := jn (fun (K3 : Unit → HS → Prop) => ((a1.toInt < 0) → K3 () σ) ∧ ((0 ≤ a1.toInt) → ∀ z6 : Int32, z6 = sI σ h0 1 → ((a1.toInt ≤ z6.toInt) → ∀ z7 : Int32, z7 = sI σ h0 1 → ∀ z8 : Int32, z8 = z7 - a1 → ∀ σ9 : HS, σ9 = h_uI σ h0 1 a1 → post z8 σ9) ∧ ((z6.toInt < a1.toInt) → K3 () σ))) (fun (x1 : Unit) (σ2 : HS) => post (-1) σ2)
theorem dX12_cut_0 : decode cX12_cut 0 = .ok (.iload_n 1, 1) := by decide +kernel
theorem dX12_cut_1 : decode cX12_cut 1 = .ok (.ifCond .lt 11, 3) := by decide +kernel
theorem dX12_cut_4 : decode cX12_cut 4 = .ok (.iload_n 1, 1) := by decide +kernel
theorem dX12_cut_5 : decode cX12_cut 5 = .ok (.aload_n 0, 1) := by decide +kernel
theorem dX12_cut_6 : decode cX12_cut 6 = .ok (.getfield 261, 3) := by decide +kernel
theorem dX12_cut_9 : decode cX12_cut 9 = .ok (.if_icmp .le 5, 3) := by decide +kernel
theorem dX12_cut_12 : decode cX12_cut 12 = .ok (.iconst (-1), 1) := by decide +kernel
theorem dX12_cut_13 : decode cX12_cut 13 = .ok (.ireturn, 1) := by decide +kernel
theorem dX12_cut_14 : decode cX12_cut 14 = .ok (.aload_n 0, 1) := by decide +kernel
theorem dX12_cut_15 : decode cX12_cut 15 = .ok (.getfield 261, 3) := by decide +kernel
theorem dX12_cut_18 : decode cX12_cut 18 = .ok (.iload_n 1, 1) := by decide +kernel
theorem dX12_cut_19 : decode cX12_cut 19 = .ok (.isub, 1) := by decide +kernel
theorem dX12_cut_20 : decode cX12_cut 20 = .ok (.istore_n 2, 1) := by decide +kernel
theorem dX12_cut_21 : decode cX12_cut 21 = .ok (.aload_n 0, 1) := by decide +kernel
theorem dX12_cut_22 : decode cX12_cut 22 = .ok (.iload_n 1, 1) := by decide +kernel
theorem dX12_cut_23 : decode cX12_cut 23 = .ok (.putfield 261, 3) := by decide +kernel
theorem dX12_cut_26 : decode cX12_cut 26 = .ok (.iload_n 2, 1) := by decide +kernel
theorem dX12_cut_27 : decode cX12_cut 27 = .ok (.ireturn, 1) := by decide +kernel
set_option maxRecDepth 100000 in
set_option maxHeartbeats 4000000 in
theorem c_X12_cut (l : Launch) (D : va_G) (t : Nat → ClassId) (h0 : Nat) (L : Nat → Nat) (σ : HS) (hM : MdI h0 L σ) (a1 : Int32) (post : Int32 → HS → Prop) (hw : F_X12_cut h0 L a1 post σ) (sz : Nat) : RMi l D t yX12_cut cX12_cut 3 (some .int) ({ frames := 0, cells := 0, slots := 0, locals := 0 }) h0 L σ sz [.ref h0, .int a1] post := by
  refine h_go (τ := τT) okT (by decide) (Nat.le_of_ble_eq_true rfl) ?_
  intro p e s m below meth c ls A hF hr hlk hAe hH0 hA hl
  unfold hB
  rw [hAe]
  clear hAe
  have hF : FX p m c cX12_cut 3 s _ RX12 D t := hF
  have hx := hF.1.1
  have hb := hF.1.2.1
  have hH : RT D t A s.heap h0 L σ s.heap [] := ⟨hH0, hM⟩
  have hl : lv_has ls 3 [(0, .ref h0), (1, .int a1)] := hl
  unfold F_X12_cut at hw
  refine lv_iload_n hx hb dX12_cut_0 rfl (lv_at hl 1 rfl) ?_
  obtain ⟨K3, hK4, hw⟩ := jn_open hw
  refine w_join (K := K3) 12 (fun (x1 : Unit) => []) (fun (x1 : Unit) => []) hl hH (fun x1 σ2 ls H locs hl hw hH => ?_) (fun jn5 => ?_)
  · have hw := hK4 x1 σ2 hw
    have hl : lv_has ls 3 [] := hl
    refine lv_iconst (v := (-1)) hx hb dX12_cut_12 (by decide) ?_
    exact w_reti hF hH hr hlk rfl dX12_cut_13 hw
  · skip
    refine w_if_lt (tgt := 12) hF dX12_cut_1 rfl hw (fun hw => ?_) (fun hw => ?_)
    · have hl : lv_has ls 3 [] := lv_sub hl [] rfl
      exact jn5 () σ ls _ _ hl hw hH
    · refine lv_iload_n hx hb dX12_cut_4 rfl (lv_at hl 1 rfl) ?_
      refine lv_aload_n hx hb dX12_cut_5 rfl (lv_at hl 0 rfl) ?_
      refine w_getI hF hH fk_X12_261 dX12_cut_6 hw (fun z6 hw => ?_)
      refine w_icmp_le (tgt := 14) hF dX12_cut_9 rfl hw (fun hw => ?_) (fun hw => ?_)
      · refine lv_aload_n hx hb dX12_cut_14 rfl (lv_at hl 0 rfl) ?_
        refine w_getI hF hH fk_X12_261 dX12_cut_15 hw (fun z7 hw => ?_)
        refine lv_iload_n hx hb dX12_cut_18 rfl (lv_at hl 1 rfl) ?_
        refine lv_isub hx hb dX12_cut_19 ?_
        refine w_nmi hw (fun z8 hw => ?_)
        refine lv_istore_n (lv' := [(2, .int z8), (0, .ref h0), (1, .int a1)]) hx hb dX12_cut_20 rfl hl (by decide) rfl (fun ls hl => ?_)
        refine lv_aload_n hx hb dX12_cut_21 rfl (lv_at hl 1 rfl) ?_
        refine lv_iload_n hx hb dX12_cut_22 rfl (lv_at hl 2 rfl) ?_
        refine w_putI hF hH fk_X12_261 dX12_cut_23 rfl rfl rfl hw (fun σ9 H locs hw hH => ?_)
        refine lv_iload_n hx hb dX12_cut_26 rfl (lv_at hl 0 rfl) ?_
        exact w_reti hF hH hr hlk rfl dX12_cut_27 hw
      · have hl : lv_has ls 3 [] := lv_sub hl [] rfl
        exact jn5 () σ ls _ _ hl hw hH
def F_X12_isLess (h0 : Nat) (L : Nat → Nat) (a0 : Int64) (a2 : Int64) (post : Int32 → HS → Prop) (σ : HS) : Prop := ∀ z1 : Int64, z1 = a0 - 9223372036854775807 → ∀ z2 : Int64, z2 = z1 - 1 → ∀ z3 : Int64, z3 = a2 - 9223372036854775807 → ∀ z4 : Int64, z4 = z3 - 1 → jn (fun (K7 : Int32 → HS → Prop) => ((z4.toInt ≤ z2.toInt) → K7 0 σ) ∧ ((z2.toInt < z4.toInt) → K7 1 σ)) (fun (x5 : Int32) (σ6 : HS) => (0 ≤ x5.toInt ∧ x5.toInt ≤ 1) ∧ post x5 σ6)
theorem dX12_isLess_0 : decode cX12_isLess 0 = .ok (.lload_n 0, 1) := by decide +kernel
theorem dX12_isLess_1 : decode cX12_isLess 1 = .ok (.ldc2_w 269, 3) := by decide +kernel
theorem dX12_isLess_4 : decode cX12_isLess 4 = .ok (.lsub, 1) := by decide +kernel
theorem dX12_isLess_5 : decode cX12_isLess 5 = .ok (.lconst 1, 1) := by decide +kernel
theorem dX12_isLess_6 : decode cX12_isLess 6 = .ok (.lsub, 1) := by decide +kernel
theorem dX12_isLess_7 : decode cX12_isLess 7 = .ok (.lload_n 2, 1) := by decide +kernel
theorem dX12_isLess_8 : decode cX12_isLess 8 = .ok (.ldc2_w 269, 3) := by decide +kernel
theorem dX12_isLess_11 : decode cX12_isLess 11 = .ok (.lsub, 1) := by decide +kernel
theorem dX12_isLess_12 : decode cX12_isLess 12 = .ok (.lconst 1, 1) := by decide +kernel
theorem dX12_isLess_13 : decode cX12_isLess 13 = .ok (.lsub, 1) := by decide +kernel
theorem dX12_isLess_14 : decode cX12_isLess 14 = .ok (.lcmp, 1) := by decide +kernel
theorem dX12_isLess_15 : decode cX12_isLess 15 = .ok (.ifCond .ge 7, 3) := by decide +kernel
theorem dX12_isLess_18 : decode cX12_isLess 18 = .ok (.iconst 1, 1) := by decide +kernel
theorem dX12_isLess_19 : decode cX12_isLess 19 = .ok (.goto 4, 3) := by decide +kernel
theorem dX12_isLess_22 : decode cX12_isLess 22 = .ok (.iconst 0, 1) := by decide +kernel
theorem dX12_isLess_23 : decode cX12_isLess 23 = .ok (.ireturn, 1) := by decide +kernel
set_option maxRecDepth 100000 in
set_option maxHeartbeats 4000000 in
theorem c_X12_isLess (l : Launch) (D : va_G) (t : Nat → ClassId) (h0 : Nat) (L : Nat → Nat) (σ : HS) (hM : MdI h0 L σ) (a0 : Int64) (a2 : Int64) (post : Int32 → HS → Prop) (hw : F_X12_isLess h0 L a0 a2 post σ) (sz : Nat) : RMi l D t yX12_isLess cX12_isLess 4 (some .boolean) ({ frames := 0, cells := 0, slots := 0, locals := 0 }) h0 L σ sz [.long a0, .long a2] post := by
  refine h_go (τ := τT) okT (by decide) (Nat.le_of_ble_eq_true rfl) ?_
  intro p e s m below meth c ls A hF hr hlk hAe hH0 hA hl
  unfold hB
  rw [hAe]
  clear hAe
  have hF : FX p m c cX12_isLess 4 s _ RX12 D t := hF
  have hx := hF.1.1
  have hb := hF.1.2.1
  have hH : RT D t A s.heap h0 L σ s.heap [] := ⟨hH0, hM⟩
  have hl : lv_has ls 4 [(0, .long a0), (2, .long a2)] := hl
  unfold F_X12_isLess at hw
  refine lv_lload_n hx hb dX12_isLess_0 rfl (lv_at hl 0 rfl) ?_
  refine lv_ldc2 (v := 9223372036854775807) hx hb hF.1.2.2.2.1 (hF.1.2.2.2.2 _ (wc_46 4 rfl)) dX12_isLess_1 ?_
  refine lv_lsub hx hb dX12_isLess_4 ?_
  refine w_nml hw (fun z1 hw => ?_)
  refine lv_lconst (v := 1) hx hb dX12_isLess_5 (by decide) ?_
  refine lv_lsub hx hb dX12_isLess_6 ?_
  refine w_nml hw (fun z2 hw => ?_)
  refine lv_lload_n hx hb dX12_isLess_7 rfl (lv_at hl 1 rfl) ?_
  refine lv_ldc2 (v := 9223372036854775807) hx hb hF.1.2.2.2.1 (hF.1.2.2.2.2 _ (wc_46 4 rfl)) dX12_isLess_8 ?_
  refine lv_lsub hx hb dX12_isLess_11 ?_
  refine w_nml hw (fun z3 hw => ?_)
  refine lv_lconst (v := 1) hx hb dX12_isLess_12 (by decide) ?_
  refine lv_lsub hx hb dX12_isLess_13 ?_
  refine w_nml hw (fun z4 hw => ?_)
  obtain ⟨K7, hK8, hw⟩ := jn_open hw
  refine w_join (K := K7) 23 (fun (x5 : Int32) => []) (fun (x5 : Int32) => [.int x5]) hl hH (fun x5 σ6 ls H locs hl hw hH => ?_) (fun jn9 => ?_)
  · have hw := hK8 x5 σ6 hw
    have hl : lv_has ls 4 [] := hl
    exact w_retz hF hH hr hlk dX12_isLess_23 hw
  · skip
    refine w_lif_ge (tgt := 22) hF dX12_isLess_14 dX12_isLess_15 rfl hw (fun hw => ?_) (fun hw => ?_)
    · refine lv_iconst (v := 0) hx hb dX12_isLess_22 (by decide) ?_
      have hl : lv_has ls 4 [] := lv_sub hl [] rfl
      exact jn9 0 σ ls _ _ hl hw hH
    · refine lv_iconst (v := 1) hx hb dX12_isLess_18 (by decide) ?_
      refine lv_goto (tgt := 23) hx hb dX12_isLess_19 rfl ?_
      have hl : lv_has ls 4 [] := lv_sub hl [] rfl
      exact jn9 1 σ ls _ _ hl hw hH
def F_X12_folded (h0 : Nat) (L : Nat → Nat) (a0 : Int32) (post : Int32 → HS → Prop) (σ : HS) : Prop := jn (fun (K3 : Int32 → HS → Prop) => jn (fun (K8 : Unit → HS → Prop) => ((a0.toInt < (97 : Int32).toInt) → K8 () σ) ∧ (((97 : Int32).toInt ≤ a0.toInt) → (((122 : Int32).toInt < a0.toInt) → K8 () σ) ∧ ((a0.toInt ≤ (122 : Int32).toInt) → ∀ z11 : Int32, z11 = a0 - 32 → K3 z11 σ))) (fun (x6 : Unit) (σ7 : HS) => K3 a0 σ7)) (fun (x1 : Int32) (σ2 : HS) => post x1 σ2)
theorem dX12_folded_0 : decode cX12_folded 0 = .ok (.iload_n 0, 1) := by decide +kernel
theorem dX12_folded_1 : decode cX12_folded 1 = .ok (.bipush 97, 2) := by decide +kernel
theorem dX12_folded_3 : decode cX12_folded 3 = .ok (.if_icmp .lt 16, 3) := by decide +kernel
theorem dX12_folded_6 : decode cX12_folded 6 = .ok (.iload_n 0, 1) := by decide +kernel
theorem dX12_folded_7 : decode cX12_folded 7 = .ok (.bipush 122, 2) := by decide +kernel
theorem dX12_folded_9 : decode cX12_folded 9 = .ok (.if_icmp .gt 10, 3) := by decide +kernel
theorem dX12_folded_12 : decode cX12_folded 12 = .ok (.iload_n 0, 1) := by decide +kernel
theorem dX12_folded_13 : decode cX12_folded 13 = .ok (.bipush 32, 2) := by decide +kernel
theorem dX12_folded_15 : decode cX12_folded 15 = .ok (.isub, 1) := by decide +kernel
theorem dX12_folded_16 : decode cX12_folded 16 = .ok (.goto 4, 3) := by decide +kernel
theorem dX12_folded_19 : decode cX12_folded 19 = .ok (.iload_n 0, 1) := by decide +kernel
theorem dX12_folded_20 : decode cX12_folded 20 = .ok (.ireturn, 1) := by decide +kernel
set_option maxRecDepth 100000 in
set_option maxHeartbeats 4000000 in
theorem c_X12_folded (l : Launch) (D : va_G) (t : Nat → ClassId) (h0 : Nat) (L : Nat → Nat) (σ : HS) (hM : MdI h0 L σ) (a0 : Int32) (post : Int32 → HS → Prop) (hw : F_X12_folded h0 L a0 post σ) (sz : Nat) : RMi l D t yX12_folded cX12_folded 1 (some .int) ({ frames := 0, cells := 0, slots := 0, locals := 0 }) h0 L σ sz [.int a0] post := by
  refine h_go (τ := τT) okT (by decide) (Nat.le_of_ble_eq_true rfl) ?_
  intro p e s m below meth c ls A hF hr hlk hAe hH0 hA hl
  unfold hB
  rw [hAe]
  clear hAe
  have hF : FX p m c cX12_folded 1 s _ RX12 D t := hF
  have hx := hF.1.1
  have hb := hF.1.2.1
  have hH : RT D t A s.heap h0 L σ s.heap [] := ⟨hH0, hM⟩
  have hl : lv_has ls 1 [(0, .int a0)] := hl
  unfold F_X12_folded at hw
  refine lv_iload_n hx hb dX12_folded_0 rfl (lv_at hl 0 rfl) ?_
  refine lv_bipush (v := 97) hx hb dX12_folded_1 (by decide) ?_
  obtain ⟨K3, hK4, hw⟩ := jn_open hw
  refine w_join (K := K3) 20 (fun (x1 : Int32) => []) (fun (x1 : Int32) => [.int x1]) hl hH (fun x1 σ2 ls H locs hl hw hH => ?_) (fun jn5 => ?_)
  · have hw := hK4 x1 σ2 hw
    have hl : lv_has ls 1 [] := hl
    exact w_reti hF hH hr hlk rfl dX12_folded_20 hw
  · skip
    obtain ⟨K8, hK9, hw⟩ := jn_open hw
    refine w_join (K := K8) 19 (fun (x6 : Unit) => [(0, .int a0)]) (fun (x6 : Unit) => []) hl hH (fun x6 σ7 ls H locs hl hw hH => ?_) (fun jn10 => ?_)
    · have hw := hK9 x6 σ7 hw
      have hl : lv_has ls 1 [(0, .int a0)] := hl
      refine lv_iload_n hx hb dX12_folded_19 rfl (lv_at hl 0 rfl) ?_
      have hl : lv_has ls 1 [] := lv_sub hl [] rfl
      exact jn5 a0 σ7 ls _ _ hl hw hH
    · skip
      refine w_icmp_lt (tgt := 19) hF dX12_folded_3 rfl hw (fun hw => ?_) (fun hw => ?_)
      · exact jn10 () σ ls _ _ hl hw hH
      · refine lv_iload_n hx hb dX12_folded_6 rfl (lv_at hl 0 rfl) ?_
        refine lv_bipush (v := 122) hx hb dX12_folded_7 (by decide) ?_
        refine w_icmp_gt (tgt := 19) hF dX12_folded_9 rfl hw (fun hw => ?_) (fun hw => ?_)
        · exact jn10 () σ ls _ _ hl hw hH
        · refine lv_iload_n hx hb dX12_folded_12 rfl (lv_at hl 0 rfl) ?_
          refine lv_bipush (v := 32) hx hb dX12_folded_13 (by decide) ?_
          refine lv_isub hx hb dX12_folded_15 ?_
          refine w_nmi hw (fun z11 hw => ?_)
          refine lv_goto (tgt := 20) hx hb dX12_folded_16 rfl ?_
          have hl : lv_has ls 1 [] := lv_sub hl [] rfl
          exact jn5 z11 σ ls _ _ hl hw hH
def F_X12_nodes (h0 : Nat) (L : Nat → Nat) (a1 : Int32) (post : Int32 → HS → Prop) (σ : HS) : Prop := lw (fun (K3 : (Int32 × Int32) → HS → Prop) (x1 : Int32 × Int32) (σ2 : HS) => ∀ z5 : Int32, z5 = a1 + 80 → ((z5.toInt ≤ x1.1.toInt) → post x1.2 σ2) ∧ ((x1.1.toInt < z5.toInt) → (0 ≤ x1.1.toInt ∧ x1.1.toInt < 160) ∧ ∀ z6 : Int32, z6 = sI σ2 (L 1) x1.1.toInt.toNat → jn (fun (K9 : Int32 → HS → Prop) => ((z6.toInt = 0) → K9 0 σ2) ∧ ((¬ z6.toInt = 0) → K9 1 σ2)) (fun (x7 : Int32) (σ8 : HS) => ∀ z12 : Int32, z12 = x1.2 + x7 → ∀ z13 : Int32, z13 = x1.1 + 1 → K3 (z13, z12) σ8))) (a1, 0) σ
theorem dX12_nodes_0 : decode cX12_nodes 0 = .ok (.iconst 0, 1) := by decide +kernel
theorem dX12_nodes_1 : decode cX12_nodes 1 = .ok (.istore_n 2, 1) := by decide +kernel
theorem dX12_nodes_2 : decode cX12_nodes 2 = .ok (.iload_n 1, 1) := by decide +kernel
theorem dX12_nodes_3 : decode cX12_nodes 3 = .ok (.istore_n 3, 1) := by decide +kernel
theorem dX12_nodes_4 : decode cX12_nodes 4 = .ok (.iload_n 3, 1) := by decide +kernel
theorem dX12_nodes_5 : decode cX12_nodes 5 = .ok (.iload_n 1, 1) := by decide +kernel
theorem dX12_nodes_6 : decode cX12_nodes 6 = .ok (.bipush 80, 2) := by decide +kernel
theorem dX12_nodes_8 : decode cX12_nodes 8 = .ok (.iadd, 1) := by decide +kernel
theorem dX12_nodes_9 : decode cX12_nodes 9 = .ok (.if_icmp .ge 26, 3) := by decide +kernel
theorem dX12_nodes_12 : decode cX12_nodes 12 = .ok (.iload_n 2, 1) := by decide +kernel
theorem dX12_nodes_13 : decode cX12_nodes 13 = .ok (.aload_n 0, 1) := by decide +kernel
theorem dX12_nodes_14 : decode cX12_nodes 14 = .ok (.getfield 13, 3) := by decide +kernel
theorem dX12_nodes_17 : decode cX12_nodes 17 = .ok (.iload_n 3, 1) := by decide +kernel
theorem dX12_nodes_18 : decode cX12_nodes 18 = .ok (.baload, 1) := by decide +kernel
theorem dX12_nodes_19 : decode cX12_nodes 19 = .ok (.ifCond .eq 7, 3) := by decide +kernel
theorem dX12_nodes_22 : decode cX12_nodes 22 = .ok (.iconst 1, 1) := by decide +kernel
theorem dX12_nodes_23 : decode cX12_nodes 23 = .ok (.goto 4, 3) := by decide +kernel
theorem dX12_nodes_26 : decode cX12_nodes 26 = .ok (.iconst 0, 1) := by decide +kernel
theorem dX12_nodes_27 : decode cX12_nodes 27 = .ok (.iadd, 1) := by decide +kernel
theorem dX12_nodes_28 : decode cX12_nodes 28 = .ok (.istore_n 2, 1) := by decide +kernel
theorem dX12_nodes_29 : decode cX12_nodes 29 = .ok (.iinc 3 1, 3) := by decide +kernel
theorem dX12_nodes_32 : decode cX12_nodes 32 = .ok (.goto (-28), 3) := by decide +kernel
theorem dX12_nodes_35 : decode cX12_nodes 35 = .ok (.iload_n 2, 1) := by decide +kernel
theorem dX12_nodes_36 : decode cX12_nodes 36 = .ok (.ireturn, 1) := by decide +kernel
set_option maxRecDepth 100000 in
set_option maxHeartbeats 4000000 in
theorem c_X12_nodes (l : Launch) (D : va_G) (t : Nat → ClassId) (h0 : Nat) (L : Nat → Nat) (σ : HS) (hM : MdI h0 L σ) (a1 : Int32) (post : Int32 → HS → Prop) (hw : F_X12_nodes h0 L a1 post σ) (sz : Nat) : RMi l D t yX12_nodes cX12_nodes 4 (some .int) ({ frames := 0, cells := 0, slots := 0, locals := 0 }) h0 L σ sz [.ref h0, .int a1] post := by
  refine h_go (τ := τT) okT (by decide) (Nat.le_of_ble_eq_true rfl) ?_
  intro p e s m below meth c ls A hF hr hlk hAe hH0 hA hl
  unfold hB
  rw [hAe]
  clear hAe
  have hF : FX p m c cX12_nodes 4 s _ RX12 D t := hF
  have hx := hF.1.1
  have hb := hF.1.2.1
  have hH : RT D t A s.heap h0 L σ s.heap [] := ⟨hH0, hM⟩
  have hl : lv_has ls 4 [(0, .ref h0), (1, .int a1)] := hl
  unfold F_X12_nodes at hw
  refine lv_iconst (v := 0) hx hb dX12_nodes_0 (by decide) ?_
  refine lv_istore_n (lv' := [(2, .int 0), (0, .ref h0), (1, .int a1)]) hx hb dX12_nodes_1 rfl hl (by decide) rfl (fun ls hl => ?_)
  refine lv_iload_n hx hb dX12_nodes_2 rfl (lv_at hl 2 rfl) ?_
  refine lv_istore_n (lv' := [(3, .int a1), (2, .int 0), (0, .ref h0), (1, .int a1)]) hx hb dX12_nodes_3 rfl hl (by decide) rfl (fun ls hl => ?_)
  have hl : lv_has ls 4 [(3, .int a1), (2, .int 0), (1, .int a1), (0, .ref h0)] := lv_sub hl [0, 1, 3, 2] rfl
  refine w_loop (β := Int32 × Int32) (fun x1 => [(3, .int x1.1), (2, .int x1.2), (1, .int a1), (0, .ref h0)]) (a1, 0) hl hw hH (fun K3 x1 σ2 ls H locs hl hw hH ih4 => ?_)
  have hl : lv_has ls 4 [(3, .int x1.1), (2, .int x1.2), (1, .int a1), (0, .ref h0)] := hl
  refine lv_iload_n hx hb dX12_nodes_4 rfl (lv_at hl 0 rfl) ?_
  refine lv_iload_n hx hb dX12_nodes_5 rfl (lv_at hl 2 rfl) ?_
  refine lv_bipush (v := 80) hx hb dX12_nodes_6 (by decide) ?_
  refine lv_iadd hx hb dX12_nodes_8 ?_
  refine w_nmi hw (fun z5 hw => ?_)
  refine w_icmp_ge (tgt := 35) hF dX12_nodes_9 rfl hw (fun hw => ?_) (fun hw => ?_)
  · refine lv_iload_n hx hb dX12_nodes_35 rfl (lv_at hl 1 rfl) ?_
    exact w_reti hF hH hr hlk rfl dX12_nodes_36 hw
  · refine lv_iload_n hx hb dX12_nodes_12 rfl (lv_at hl 1 rfl) ?_
    refine lv_aload_n hx hb dX12_nodes_13 rfl (lv_at hl 3 rfl) ?_
    refine w_getA 1 hF hH fk_X12_13 dX12_nodes_14 (by decide) rfl ?_
    refine lv_iload_n hx hb dX12_nodes_17 rfl (lv_at hl 0 rfl) ?_
    refine w_zald 1 160 hF hH dX12_nodes_18 (by decide) rfl rfl hw (fun z6 hw => ?_)
    obtain ⟨K9, hK10, hw⟩ := jn_open hw
    refine w_join (K := K9) 27 (fun (x7 : Int32) => [(3, .int x1.1), (1, .int a1), (0, .ref h0)]) (fun (x7 : Int32) => [.int x7, .int x1.2]) hl hH (fun x7 σ8 ls H locs hl hw hH => ?_) (fun jn11 => ?_)
    · have hw := hK10 x7 σ8 hw
      have hl : lv_has ls 4 [(3, .int x1.1), (1, .int a1), (0, .ref h0)] := hl
      refine lv_iadd hx hb dX12_nodes_27 ?_
      refine w_nmi hw (fun z12 hw => ?_)
      refine lv_istore_n (lv' := [(2, .int z12), (3, .int x1.1), (1, .int a1), (0, .ref h0)]) hx hb dX12_nodes_28 rfl hl (by decide) rfl (fun ls hl => ?_)
      obtain ⟨z13, ez13⟩ : ∃ z : Int32, z = x1.1 + 1 := ⟨_, rfl⟩
      have hw := hw z13 ez13
      refine lv_iinc (lv' := [(3, .int z13), (2, .int z12), (1, .int a1), (0, .ref h0)]) (k := 1) (v := z13) hx hb dX12_nodes_29 hl rfl ez13.symm (by decide) rfl (fun ls hl => ?_)
      refine lv_goto (tgt := 4) hx hb dX12_nodes_32 rfl ?_
      exact ih4 (z13, z12) σ8 ls _ _ hl hw hH
    · skip
      refine w_if_eq (tgt := 26) hF dX12_nodes_19 rfl hw (fun hw => ?_) (fun hw => ?_)
      · refine lv_iconst (v := 0) hx hb dX12_nodes_26 (by decide) ?_
        have hl : lv_has ls 4 [(3, .int x1.1), (1, .int a1), (0, .ref h0)] := lv_sub hl [0, 2, 3] rfl
        exact jn11 0 σ2 ls _ _ hl hw hH
      · refine lv_iconst (v := 1) hx hb dX12_nodes_22 (by decide) ?_
        refine lv_goto (tgt := 27) hx hb dX12_nodes_23 rfl ?_
        have hl : lv_has ls 4 [(3, .int x1.1), (1, .int a1), (0, .ref h0)] := lv_sub hl [0, 2, 3] rfl
        exact jn11 1 σ2 ls _ _ hl hw hH
def F_X12_freeNode (h0 : Nat) (L : Nat → Nat)  (post : Int32 → HS → Prop) (σ : HS) : Prop := lw (fun (K3 : Int32 → HS → Prop) (x1 : Int32) (σ2 : HS) => jn (fun (K7 : Unit → HS → Prop) => (((80 : Int32).toInt ≤ x1.toInt) → K7 () σ2) ∧ ((x1.toInt < (80 : Int32).toInt) → (0 ≤ x1.toInt ∧ x1.toInt < 160) ∧ ∀ z10 : Int32, z10 = sI σ2 (L 1) x1.toInt.toNat → ((z10.toInt = 0) → K7 () σ2) ∧ ((¬ z10.toInt = 0) → ∀ z11 : Int32, z11 = x1 + 1 → K3 z11 σ2))) (fun (x5 : Unit) (σ6 : HS) => post x1 σ6)) 0 σ
theorem dX12_freeNode_0 : decode cX12_freeNode 0 = .ok (.iconst 0, 1) := by decide +kernel
theorem dX12_freeNode_1 : decode cX12_freeNode 1 = .ok (.istore_n 1, 1) := by decide +kernel
theorem dX12_freeNode_2 : decode cX12_freeNode 2 = .ok (.iload_n 1, 1) := by decide +kernel
theorem dX12_freeNode_3 : decode cX12_freeNode 3 = .ok (.bipush 80, 2) := by decide +kernel
theorem dX12_freeNode_5 : decode cX12_freeNode 5 = .ok (.if_icmp .ge 18, 3) := by decide +kernel
theorem dX12_freeNode_8 : decode cX12_freeNode 8 = .ok (.aload_n 0, 1) := by decide +kernel
theorem dX12_freeNode_9 : decode cX12_freeNode 9 = .ok (.getfield 13, 3) := by decide +kernel
theorem dX12_freeNode_12 : decode cX12_freeNode 12 = .ok (.iload_n 1, 1) := by decide +kernel
theorem dX12_freeNode_13 : decode cX12_freeNode 13 = .ok (.baload, 1) := by decide +kernel
theorem dX12_freeNode_14 : decode cX12_freeNode 14 = .ok (.ifCond .eq 9, 3) := by decide +kernel
theorem dX12_freeNode_17 : decode cX12_freeNode 17 = .ok (.iinc 1 1, 3) := by decide +kernel
theorem dX12_freeNode_20 : decode cX12_freeNode 20 = .ok (.goto (-18), 3) := by decide +kernel
theorem dX12_freeNode_23 : decode cX12_freeNode 23 = .ok (.iload_n 1, 1) := by decide +kernel
theorem dX12_freeNode_24 : decode cX12_freeNode 24 = .ok (.ireturn, 1) := by decide +kernel
set_option maxRecDepth 100000 in
set_option maxHeartbeats 4000000 in
theorem c_X12_freeNode (l : Launch) (D : va_G) (t : Nat → ClassId) (h0 : Nat) (L : Nat → Nat) (σ : HS) (hM : MdI h0 L σ)  (post : Int32 → HS → Prop) (hw : F_X12_freeNode h0 L  post σ) (sz : Nat) : RMi l D t yX12_freeNode cX12_freeNode 2 (some .int) ({ frames := 0, cells := 0, slots := 0, locals := 0 }) h0 L σ sz [.ref h0] post := by
  refine h_go (τ := τT) okT (by decide) (Nat.le_of_ble_eq_true rfl) ?_
  intro p e s m below meth c ls A hF hr hlk hAe hH0 hA hl
  unfold hB
  rw [hAe]
  clear hAe
  have hF : FX p m c cX12_freeNode 2 s _ RX12 D t := hF
  have hx := hF.1.1
  have hb := hF.1.2.1
  have hH : RT D t A s.heap h0 L σ s.heap [] := ⟨hH0, hM⟩
  have hl : lv_has ls 2 [(0, .ref h0)] := hl
  unfold F_X12_freeNode at hw
  refine lv_iconst (v := 0) hx hb dX12_freeNode_0 (by decide) ?_
  refine lv_istore_n (lv' := [(1, .int 0), (0, .ref h0)]) hx hb dX12_freeNode_1 rfl hl (by decide) rfl (fun ls hl => ?_)
  refine w_loop (β := Int32) (fun x1 => [(1, .int x1), (0, .ref h0)]) 0 hl hw hH (fun K3 x1 σ2 ls H locs hl hw hH ih4 => ?_)
  have hl : lv_has ls 2 [(1, .int x1), (0, .ref h0)] := hl
  refine lv_iload_n hx hb dX12_freeNode_2 rfl (lv_at hl 0 rfl) ?_
  refine lv_bipush (v := 80) hx hb dX12_freeNode_3 (by decide) ?_
  obtain ⟨K7, hK8, hw⟩ := jn_open hw
  refine w_join (K := K7) 23 (fun (x5 : Unit) => [(1, .int x1)]) (fun (x5 : Unit) => []) hl hH (fun x5 σ6 ls H locs hl hw hH => ?_) (fun jn9 => ?_)
  · have hw := hK8 x5 σ6 hw
    have hl : lv_has ls 2 [(1, .int x1)] := hl
    refine lv_iload_n hx hb dX12_freeNode_23 rfl (lv_at hl 0 rfl) ?_
    exact w_reti hF hH hr hlk rfl dX12_freeNode_24 hw
  · skip
    refine w_icmp_ge (tgt := 23) hF dX12_freeNode_5 rfl hw (fun hw => ?_) (fun hw => ?_)
    · have hl : lv_has ls 2 [(1, .int x1)] := lv_sub hl [0] rfl
      exact jn9 () σ2 ls _ _ hl hw hH
    · refine lv_aload_n hx hb dX12_freeNode_8 rfl (lv_at hl 1 rfl) ?_
      refine w_getA 1 hF hH fk_X12_13 dX12_freeNode_9 (by decide) rfl ?_
      refine lv_iload_n hx hb dX12_freeNode_12 rfl (lv_at hl 0 rfl) ?_
      refine w_zald 1 160 hF hH dX12_freeNode_13 (by decide) rfl rfl hw (fun z10 hw => ?_)
      refine w_if_eq (tgt := 23) hF dX12_freeNode_14 rfl hw (fun hw => ?_) (fun hw => ?_)
      · have hl : lv_has ls 2 [(1, .int x1)] := lv_sub hl [0] rfl
        exact jn9 () σ2 ls _ _ hl hw hH
      · obtain ⟨z11, ez11⟩ : ∃ z : Int32, z = x1 + 1 := ⟨_, rfl⟩
        have hw := hw z11 ez11
        refine lv_iinc (lv' := [(1, .int z11), (0, .ref h0)]) (k := 0) (v := z11) hx hb dX12_freeNode_17 hl rfl ez11.symm (by decide) rfl (fun ls hl => ?_)
        refine lv_goto (tgt := 2) hx hb dX12_freeNode_20 rfl ?_
        exact ih4 z11 σ2 ls _ _ hl hw hH
def F_X12_copyNode (h0 : Nat) (L : Nat → Nat) (a1 : Int32) (a2 : Int32) (post : HS → Prop) (σ : HS) : Prop := (0 ≤ a1.toInt ∧ a1.toInt < 160) ∧ ∀ z1 : Int32, z1 = sI σ (L 1) a1.toInt.toNat → (0 ≤ a2.toInt ∧ a2.toInt < 160) ∧ ∀ σ2 : HS, σ2 = h_uI σ (L 1) a2.toInt.toNat (vp_nar .boolean z1) → (0 ≤ a1.toInt ∧ a1.toInt < 160) ∧ ∀ z3 : Int32, z3 = sI σ2 (L 2) a1.toInt.toNat → (0 ≤ a2.toInt ∧ a2.toInt < 160) ∧ ∀ σ4 : HS, σ4 = h_uI σ2 (L 2) a2.toInt.toNat z3 → (0 ≤ a1.toInt ∧ a1.toInt < 160) ∧ ∀ z5 : Int32, z5 = sI σ4 (L 3) a1.toInt.toNat → (0 ≤ a2.toInt ∧ a2.toInt < 160) ∧ ∀ σ6 : HS, σ6 = h_uI σ4 (L 3) a2.toInt.toNat (vp_nar .boolean z5) → (0 ≤ a1.toInt ∧ a1.toInt < 160) ∧ ∀ z7 : Int32, z7 = sI σ6 (L 5) a1.toInt.toNat → (0 ≤ a2.toInt ∧ a2.toInt < 160) ∧ ∀ σ8 : HS, σ8 = h_uI σ6 (L 5) a2.toInt.toNat z7 → (0 ≤ a1.toInt ∧ a1.toInt < 160) ∧ ∀ z9 : Int32, z9 = sI σ8 (L 6) a1.toInt.toNat → (0 ≤ a2.toInt ∧ a2.toInt < 160) ∧ ∀ σ10 : HS, σ10 = h_uI σ8 (L 6) a2.toInt.toNat z9 → (0 ≤ a1.toInt ∧ a1.toInt < 160) ∧ ∀ z11 : Int32, z11 = sI σ10 (L 8) a1.toInt.toNat → (0 ≤ a2.toInt ∧ a2.toInt < 160) ∧ ∀ σ12 : HS, σ12 = h_uI σ10 (L 8) a2.toInt.toNat z11 → lw (fun (K15 : Int32 → HS → Prop) (x13 : Int32) (σ14 : HS) => (((12 : Int32).toInt ≤ x13.toInt) → lw (fun (K19 : Int32 → HS → Prop) (x17 : Int32) (σ18 : HS) => (((4 : Int32).toInt ≤ x17.toInt) → lw (fun (K23 : Int32 → HS → Prop) (x21 : Int32) (σ22 : HS) => (((4096 : Int32).toInt ≤ x21.toInt) → post σ22) ∧ ((x21.toInt < (4096 : Int32).toInt) → ∀ z25 : Int32, z25 = 4096 * a2 → ∀ z26 : Int32, z26 = z25 + x21 → ∀ z27 : Int32, z27 = 4096 * a1 → ∀ z28 : Int32, z28 = z27 + x21 → (0 ≤ z28.toInt ∧ z28.toInt < 655360) ∧ ∀ z29 : Int32, z29 = sI σ22 (L 9) z28.toInt.toNat → (0 ≤ z26.toInt ∧ z26.toInt < 655360) ∧ ∀ σ30 : HS, σ30 = h_uI σ22 (L 9) z26.toInt.toNat (vp_nar .byte z29) → ∀ z31 : Int32, z31 = x21 + 1 → K23 z31 σ30)) 0 σ18) ∧ ((x17.toInt < (4 : Int32).toInt) → ∀ z32 : Int32, z32 = 4 * a2 → ∀ z33 : Int32, z33 = z32 + x17 → ∀ z34 : Int32, z34 = 4 * a1 → ∀ z35 : Int32, z35 = z34 + x17 → (0 ≤ z35.toInt ∧ z35.toInt < 640) ∧ ∀ z36 : Int64, z36 = sJ σ18 (L 7) z35.toInt.toNat → (0 ≤ z33.toInt ∧ z33.toInt < 640) ∧ ∀ σ37 : HS, σ37 = h_uJ σ18 (L 7) z33.toInt.toNat z36 → ∀ z38 : Int32, z38 = x17 + 1 → K19 z38 σ37)) 0 σ14) ∧ ((x13.toInt < (12 : Int32).toInt) → ∀ z39 : Int32, z39 = 12 * a2 → ∀ z40 : Int32, z40 = z39 + x13 → ∀ z41 : Int32, z41 = 12 * a1 → ∀ z42 : Int32, z42 = z41 + x13 → (0 ≤ z42.toInt ∧ z42.toInt < 1920) ∧ ∀ z43 : Int32, z43 = sI σ14 (L 4) z42.toInt.toNat → (0 ≤ z40.toInt ∧ z40.toInt < 1920) ∧ ∀ σ44 : HS, σ44 = h_uI σ14 (L 4) z40.toInt.toNat (vp_nar .byte z43) → ∀ z45 : Int32, z45 = x13 + 1 → K15 z45 σ44)) 0 σ12
theorem dX12_copyNode_0 : decode cX12_copyNode 0 = .ok (.aload_n 0, 1) := by decide +kernel
theorem dX12_copyNode_1 : decode cX12_copyNode 1 = .ok (.getfield 13, 3) := by decide +kernel
theorem dX12_copyNode_4 : decode cX12_copyNode 4 = .ok (.iload_n 2, 1) := by decide +kernel
theorem dX12_copyNode_5 : decode cX12_copyNode 5 = .ok (.aload_n 0, 1) := by decide +kernel
theorem dX12_copyNode_6 : decode cX12_copyNode 6 = .ok (.getfield 13, 3) := by decide +kernel
theorem dX12_copyNode_9 : decode cX12_copyNode 9 = .ok (.iload_n 1, 1) := by decide +kernel
theorem dX12_copyNode_10 : decode cX12_copyNode 10 = .ok (.baload, 1) := by decide +kernel
theorem dX12_copyNode_11 : decode cX12_copyNode 11 = .ok (.bastore, 1) := by decide +kernel
theorem dX12_copyNode_12 : decode cX12_copyNode 12 = .ok (.aload_n 0, 1) := by decide +kernel
theorem dX12_copyNode_13 : decode cX12_copyNode 13 = .ok (.getfield 17, 3) := by decide +kernel
theorem dX12_copyNode_16 : decode cX12_copyNode 16 = .ok (.iload_n 2, 1) := by decide +kernel
theorem dX12_copyNode_17 : decode cX12_copyNode 17 = .ok (.aload_n 0, 1) := by decide +kernel
theorem dX12_copyNode_18 : decode cX12_copyNode 18 = .ok (.getfield 17, 3) := by decide +kernel
theorem dX12_copyNode_21 : decode cX12_copyNode 21 = .ok (.iload_n 1, 1) := by decide +kernel
theorem dX12_copyNode_22 : decode cX12_copyNode 22 = .ok (.iaload, 1) := by decide +kernel
theorem dX12_copyNode_23 : decode cX12_copyNode 23 = .ok (.iastore, 1) := by decide +kernel
theorem dX12_copyNode_24 : decode cX12_copyNode 24 = .ok (.aload_n 0, 1) := by decide +kernel
theorem dX12_copyNode_25 : decode cX12_copyNode 25 = .ok (.getfield 21, 3) := by decide +kernel
theorem dX12_copyNode_28 : decode cX12_copyNode 28 = .ok (.iload_n 2, 1) := by decide +kernel
theorem dX12_copyNode_29 : decode cX12_copyNode 29 = .ok (.aload_n 0, 1) := by decide +kernel
theorem dX12_copyNode_30 : decode cX12_copyNode 30 = .ok (.getfield 21, 3) := by decide +kernel
theorem dX12_copyNode_33 : decode cX12_copyNode 33 = .ok (.iload_n 1, 1) := by decide +kernel
theorem dX12_copyNode_34 : decode cX12_copyNode 34 = .ok (.baload, 1) := by decide +kernel
theorem dX12_copyNode_35 : decode cX12_copyNode 35 = .ok (.bastore, 1) := by decide +kernel
theorem dX12_copyNode_36 : decode cX12_copyNode 36 = .ok (.aload_n 0, 1) := by decide +kernel
theorem dX12_copyNode_37 : decode cX12_copyNode 37 = .ok (.getfield 27, 3) := by decide +kernel
theorem dX12_copyNode_40 : decode cX12_copyNode 40 = .ok (.iload_n 2, 1) := by decide +kernel
theorem dX12_copyNode_41 : decode cX12_copyNode 41 = .ok (.aload_n 0, 1) := by decide +kernel
theorem dX12_copyNode_42 : decode cX12_copyNode 42 = .ok (.getfield 27, 3) := by decide +kernel
theorem dX12_copyNode_45 : decode cX12_copyNode 45 = .ok (.iload_n 1, 1) := by decide +kernel
theorem dX12_copyNode_46 : decode cX12_copyNode 46 = .ok (.iaload, 1) := by decide +kernel
theorem dX12_copyNode_47 : decode cX12_copyNode 47 = .ok (.iastore, 1) := by decide +kernel
theorem dX12_copyNode_48 : decode cX12_copyNode 48 = .ok (.aload_n 0, 1) := by decide +kernel
theorem dX12_copyNode_49 : decode cX12_copyNode 49 = .ok (.getfield 30, 3) := by decide +kernel
theorem dX12_copyNode_52 : decode cX12_copyNode 52 = .ok (.iload_n 2, 1) := by decide +kernel
theorem dX12_copyNode_53 : decode cX12_copyNode 53 = .ok (.aload_n 0, 1) := by decide +kernel
theorem dX12_copyNode_54 : decode cX12_copyNode 54 = .ok (.getfield 30, 3) := by decide +kernel
theorem dX12_copyNode_57 : decode cX12_copyNode 57 = .ok (.iload_n 1, 1) := by decide +kernel
theorem dX12_copyNode_58 : decode cX12_copyNode 58 = .ok (.iaload, 1) := by decide +kernel
theorem dX12_copyNode_59 : decode cX12_copyNode 59 = .ok (.iastore, 1) := by decide +kernel
theorem dX12_copyNode_60 : decode cX12_copyNode 60 = .ok (.aload_n 0, 1) := by decide +kernel
theorem dX12_copyNode_61 : decode cX12_copyNode 61 = .ok (.getfield 37, 3) := by decide +kernel
theorem dX12_copyNode_64 : decode cX12_copyNode 64 = .ok (.iload_n 2, 1) := by decide +kernel
theorem dX12_copyNode_65 : decode cX12_copyNode 65 = .ok (.aload_n 0, 1) := by decide +kernel
theorem dX12_copyNode_66 : decode cX12_copyNode 66 = .ok (.getfield 37, 3) := by decide +kernel
theorem dX12_copyNode_69 : decode cX12_copyNode 69 = .ok (.iload_n 1, 1) := by decide +kernel
theorem dX12_copyNode_70 : decode cX12_copyNode 70 = .ok (.iaload, 1) := by decide +kernel
theorem dX12_copyNode_71 : decode cX12_copyNode 71 = .ok (.iastore, 1) := by decide +kernel
theorem dX12_copyNode_72 : decode cX12_copyNode 72 = .ok (.iconst 0, 1) := by decide +kernel
theorem dX12_copyNode_73 : decode cX12_copyNode 73 = .ok (.istore_n 3, 1) := by decide +kernel
theorem dX12_copyNode_74 : decode cX12_copyNode 74 = .ok (.iload_n 3, 1) := by decide +kernel
theorem dX12_copyNode_75 : decode cX12_copyNode 75 = .ok (.bipush 12, 2) := by decide +kernel
theorem dX12_copyNode_77 : decode cX12_copyNode 77 = .ok (.if_icmp .ge 31, 3) := by decide +kernel
theorem dX12_copyNode_80 : decode cX12_copyNode 80 = .ok (.aload_n 0, 1) := by decide +kernel
theorem dX12_copyNode_81 : decode cX12_copyNode 81 = .ok (.getfield 24, 3) := by decide +kernel
theorem dX12_copyNode_84 : decode cX12_copyNode 84 = .ok (.bipush 12, 2) := by decide +kernel
theorem dX12_copyNode_86 : decode cX12_copyNode 86 = .ok (.iload_n 2, 1) := by decide +kernel
theorem dX12_copyNode_87 : decode cX12_copyNode 87 = .ok (.imul, 1) := by decide +kernel
theorem dX12_copyNode_88 : decode cX12_copyNode 88 = .ok (.iload_n 3, 1) := by decide +kernel
theorem dX12_copyNode_89 : decode cX12_copyNode 89 = .ok (.iadd, 1) := by decide +kernel
theorem dX12_copyNode_90 : decode cX12_copyNode 90 = .ok (.aload_n 0, 1) := by decide +kernel
theorem dX12_copyNode_91 : decode cX12_copyNode 91 = .ok (.getfield 24, 3) := by decide +kernel
theorem dX12_copyNode_94 : decode cX12_copyNode 94 = .ok (.bipush 12, 2) := by decide +kernel
theorem dX12_copyNode_96 : decode cX12_copyNode 96 = .ok (.iload_n 1, 1) := by decide +kernel
theorem dX12_copyNode_97 : decode cX12_copyNode 97 = .ok (.imul, 1) := by decide +kernel
theorem dX12_copyNode_98 : decode cX12_copyNode 98 = .ok (.iload_n 3, 1) := by decide +kernel
theorem dX12_copyNode_99 : decode cX12_copyNode 99 = .ok (.iadd, 1) := by decide +kernel
theorem dX12_copyNode_100 : decode cX12_copyNode 100 = .ok (.baload, 1) := by decide +kernel
theorem dX12_copyNode_101 : decode cX12_copyNode 101 = .ok (.bastore, 1) := by decide +kernel
theorem dX12_copyNode_102 : decode cX12_copyNode 102 = .ok (.iinc 3 1, 3) := by decide +kernel
theorem dX12_copyNode_105 : decode cX12_copyNode 105 = .ok (.goto (-31), 3) := by decide +kernel
theorem dX12_copyNode_108 : decode cX12_copyNode 108 = .ok (.iconst 0, 1) := by decide +kernel
theorem dX12_copyNode_109 : decode cX12_copyNode 109 = .ok (.istore_n 3, 1) := by decide +kernel
theorem dX12_copyNode_110 : decode cX12_copyNode 110 = .ok (.iload_n 3, 1) := by decide +kernel
theorem dX12_copyNode_111 : decode cX12_copyNode 111 = .ok (.iconst 4, 1) := by decide +kernel
theorem dX12_copyNode_112 : decode cX12_copyNode 112 = .ok (.if_icmp .ge 29, 3) := by decide +kernel
theorem dX12_copyNode_115 : decode cX12_copyNode 115 = .ok (.aload_n 0, 1) := by decide +kernel
theorem dX12_copyNode_116 : decode cX12_copyNode 116 = .ok (.getfield 33, 3) := by decide +kernel
theorem dX12_copyNode_119 : decode cX12_copyNode 119 = .ok (.iconst 4, 1) := by decide +kernel
theorem dX12_copyNode_120 : decode cX12_copyNode 120 = .ok (.iload_n 2, 1) := by decide +kernel
theorem dX12_copyNode_121 : decode cX12_copyNode 121 = .ok (.imul, 1) := by decide +kernel
theorem dX12_copyNode_122 : decode cX12_copyNode 122 = .ok (.iload_n 3, 1) := by decide +kernel
theorem dX12_copyNode_123 : decode cX12_copyNode 123 = .ok (.iadd, 1) := by decide +kernel
theorem dX12_copyNode_124 : decode cX12_copyNode 124 = .ok (.aload_n 0, 1) := by decide +kernel
theorem dX12_copyNode_125 : decode cX12_copyNode 125 = .ok (.getfield 33, 3) := by decide +kernel
theorem dX12_copyNode_128 : decode cX12_copyNode 128 = .ok (.iconst 4, 1) := by decide +kernel
theorem dX12_copyNode_129 : decode cX12_copyNode 129 = .ok (.iload_n 1, 1) := by decide +kernel
theorem dX12_copyNode_130 : decode cX12_copyNode 130 = .ok (.imul, 1) := by decide +kernel
theorem dX12_copyNode_131 : decode cX12_copyNode 131 = .ok (.iload_n 3, 1) := by decide +kernel
theorem dX12_copyNode_132 : decode cX12_copyNode 132 = .ok (.iadd, 1) := by decide +kernel
theorem dX12_copyNode_133 : decode cX12_copyNode 133 = .ok (.laload, 1) := by decide +kernel
theorem dX12_copyNode_134 : decode cX12_copyNode 134 = .ok (.lastore, 1) := by decide +kernel
theorem dX12_copyNode_135 : decode cX12_copyNode 135 = .ok (.iinc 3 1, 3) := by decide +kernel
theorem dX12_copyNode_138 : decode cX12_copyNode 138 = .ok (.goto (-28), 3) := by decide +kernel
theorem dX12_copyNode_141 : decode cX12_copyNode 141 = .ok (.iconst 0, 1) := by decide +kernel
theorem dX12_copyNode_142 : decode cX12_copyNode 142 = .ok (.istore_n 3, 1) := by decide +kernel
theorem dX12_copyNode_143 : decode cX12_copyNode 143 = .ok (.iload_n 3, 1) := by decide +kernel
theorem dX12_copyNode_144 : decode cX12_copyNode 144 = .ok (.sipush 4096, 3) := by decide +kernel
theorem dX12_copyNode_147 : decode cX12_copyNode 147 = .ok (.if_icmp .ge 33, 3) := by decide +kernel
theorem dX12_copyNode_150 : decode cX12_copyNode 150 = .ok (.aload_n 0, 1) := by decide +kernel
theorem dX12_copyNode_151 : decode cX12_copyNode 151 = .ok (.getfield 41, 3) := by decide +kernel
theorem dX12_copyNode_154 : decode cX12_copyNode 154 = .ok (.sipush 4096, 3) := by decide +kernel
theorem dX12_copyNode_157 : decode cX12_copyNode 157 = .ok (.iload_n 2, 1) := by decide +kernel
theorem dX12_copyNode_158 : decode cX12_copyNode 158 = .ok (.imul, 1) := by decide +kernel
theorem dX12_copyNode_159 : decode cX12_copyNode 159 = .ok (.iload_n 3, 1) := by decide +kernel
theorem dX12_copyNode_160 : decode cX12_copyNode 160 = .ok (.iadd, 1) := by decide +kernel
theorem dX12_copyNode_161 : decode cX12_copyNode 161 = .ok (.aload_n 0, 1) := by decide +kernel
theorem dX12_copyNode_162 : decode cX12_copyNode 162 = .ok (.getfield 41, 3) := by decide +kernel
theorem dX12_copyNode_165 : decode cX12_copyNode 165 = .ok (.sipush 4096, 3) := by decide +kernel
theorem dX12_copyNode_168 : decode cX12_copyNode 168 = .ok (.iload_n 1, 1) := by decide +kernel
theorem dX12_copyNode_169 : decode cX12_copyNode 169 = .ok (.imul, 1) := by decide +kernel
theorem dX12_copyNode_170 : decode cX12_copyNode 170 = .ok (.iload_n 3, 1) := by decide +kernel
theorem dX12_copyNode_171 : decode cX12_copyNode 171 = .ok (.iadd, 1) := by decide +kernel
theorem dX12_copyNode_172 : decode cX12_copyNode 172 = .ok (.baload, 1) := by decide +kernel
theorem dX12_copyNode_173 : decode cX12_copyNode 173 = .ok (.bastore, 1) := by decide +kernel
theorem dX12_copyNode_174 : decode cX12_copyNode 174 = .ok (.iinc 3 1, 3) := by decide +kernel
theorem dX12_copyNode_177 : decode cX12_copyNode 177 = .ok (.goto (-34), 3) := by decide +kernel
theorem dX12_copyNode_180 : decode cX12_copyNode 180 = .ok (.return_, 1) := by decide +kernel
set_option maxRecDepth 100000 in
set_option maxHeartbeats 4000000 in
theorem c_X12_copyNode (l : Launch) (D : va_G) (t : Nat → ClassId) (h0 : Nat) (L : Nat → Nat) (σ : HS) (hM : MdI h0 L σ) (a1 : Int32) (a2 : Int32) (post : HS → Prop) (hw : F_X12_copyNode h0 L a1 a2 post σ) (sz : Nat) : RMv l D t yX12_copyNode cX12_copyNode 4 ({ frames := 0, cells := 0, slots := 0, locals := 0 }) h0 L σ sz [.ref h0, .int a1, .int a2] post := by
  refine h_go (τ := τT) okT (by decide) (Nat.le_of_ble_eq_true rfl) ?_
  intro p e s m below meth c ls A hF hr hlk hAe hH0 hA hl
  unfold hB
  rw [hAe]
  clear hAe
  have hF : FX p m c cX12_copyNode 4 s _ RX12 D t := hF
  have hx := hF.1.1
  have hb := hF.1.2.1
  have hH : RT D t A s.heap h0 L σ s.heap [] := ⟨hH0, hM⟩
  have hl : lv_has ls 4 [(0, .ref h0), (1, .int a1), (2, .int a2)] := hl
  unfold F_X12_copyNode at hw
  refine lv_aload_n hx hb dX12_copyNode_0 rfl (lv_at hl 0 rfl) ?_
  refine w_getA 1 hF hH fk_X12_13 dX12_copyNode_1 (by decide) rfl ?_
  refine lv_iload_n hx hb dX12_copyNode_4 rfl (lv_at hl 2 rfl) ?_
  refine lv_aload_n hx hb dX12_copyNode_5 rfl (lv_at hl 0 rfl) ?_
  refine w_getA 1 hF hH fk_X12_13 dX12_copyNode_6 (by decide) rfl ?_
  refine lv_iload_n hx hb dX12_copyNode_9 rfl (lv_at hl 1 rfl) ?_
  refine w_zald 1 160 hF hH dX12_copyNode_10 (by decide) rfl rfl hw (fun z1 hw => ?_)
  refine w_zast 1 160 hF hH dX12_copyNode_11 (by decide) rfl rfl hw (fun σ2 H locs hw hH => ?_)
  refine lv_aload_n hx hb dX12_copyNode_12 rfl (lv_at hl 0 rfl) ?_
  refine w_getA 2 hF hH fk_X12_17 dX12_copyNode_13 (by decide) rfl ?_
  refine lv_iload_n hx hb dX12_copyNode_16 rfl (lv_at hl 2 rfl) ?_
  refine lv_aload_n hx hb dX12_copyNode_17 rfl (lv_at hl 0 rfl) ?_
  refine w_getA 2 hF hH fk_X12_17 dX12_copyNode_18 (by decide) rfl ?_
  refine lv_iload_n hx hb dX12_copyNode_21 rfl (lv_at hl 1 rfl) ?_
  refine w_iald 2 160 hF hH dX12_copyNode_22 (by decide) rfl rfl hw (fun z3 hw => ?_)
  refine w_iast 2 160 hF hH dX12_copyNode_23 (by decide) rfl rfl hw (fun σ4 H locs hw hH => ?_)
  refine lv_aload_n hx hb dX12_copyNode_24 rfl (lv_at hl 0 rfl) ?_
  refine w_getA 3 hF hH fk_X12_21 dX12_copyNode_25 (by decide) rfl ?_
  refine lv_iload_n hx hb dX12_copyNode_28 rfl (lv_at hl 2 rfl) ?_
  refine lv_aload_n hx hb dX12_copyNode_29 rfl (lv_at hl 0 rfl) ?_
  refine w_getA 3 hF hH fk_X12_21 dX12_copyNode_30 (by decide) rfl ?_
  refine lv_iload_n hx hb dX12_copyNode_33 rfl (lv_at hl 1 rfl) ?_
  refine w_zald 3 160 hF hH dX12_copyNode_34 (by decide) rfl rfl hw (fun z5 hw => ?_)
  refine w_zast 3 160 hF hH dX12_copyNode_35 (by decide) rfl rfl hw (fun σ6 H locs hw hH => ?_)
  refine lv_aload_n hx hb dX12_copyNode_36 rfl (lv_at hl 0 rfl) ?_
  refine w_getA 5 hF hH fk_X12_27 dX12_copyNode_37 (by decide) rfl ?_
  refine lv_iload_n hx hb dX12_copyNode_40 rfl (lv_at hl 2 rfl) ?_
  refine lv_aload_n hx hb dX12_copyNode_41 rfl (lv_at hl 0 rfl) ?_
  refine w_getA 5 hF hH fk_X12_27 dX12_copyNode_42 (by decide) rfl ?_
  refine lv_iload_n hx hb dX12_copyNode_45 rfl (lv_at hl 1 rfl) ?_
  refine w_iald 5 160 hF hH dX12_copyNode_46 (by decide) rfl rfl hw (fun z7 hw => ?_)
  refine w_iast 5 160 hF hH dX12_copyNode_47 (by decide) rfl rfl hw (fun σ8 H locs hw hH => ?_)
  refine lv_aload_n hx hb dX12_copyNode_48 rfl (lv_at hl 0 rfl) ?_
  refine w_getA 6 hF hH fk_X12_30 dX12_copyNode_49 (by decide) rfl ?_
  refine lv_iload_n hx hb dX12_copyNode_52 rfl (lv_at hl 2 rfl) ?_
  refine lv_aload_n hx hb dX12_copyNode_53 rfl (lv_at hl 0 rfl) ?_
  refine w_getA 6 hF hH fk_X12_30 dX12_copyNode_54 (by decide) rfl ?_
  refine lv_iload_n hx hb dX12_copyNode_57 rfl (lv_at hl 1 rfl) ?_
  refine w_iald 6 160 hF hH dX12_copyNode_58 (by decide) rfl rfl hw (fun z9 hw => ?_)
  refine w_iast 6 160 hF hH dX12_copyNode_59 (by decide) rfl rfl hw (fun σ10 H locs hw hH => ?_)
  refine lv_aload_n hx hb dX12_copyNode_60 rfl (lv_at hl 0 rfl) ?_
  refine w_getA 8 hF hH fk_X12_37 dX12_copyNode_61 (by decide) rfl ?_
  refine lv_iload_n hx hb dX12_copyNode_64 rfl (lv_at hl 2 rfl) ?_
  refine lv_aload_n hx hb dX12_copyNode_65 rfl (lv_at hl 0 rfl) ?_
  refine w_getA 8 hF hH fk_X12_37 dX12_copyNode_66 (by decide) rfl ?_
  refine lv_iload_n hx hb dX12_copyNode_69 rfl (lv_at hl 1 rfl) ?_
  refine w_iald 8 160 hF hH dX12_copyNode_70 (by decide) rfl rfl hw (fun z11 hw => ?_)
  refine w_iast 8 160 hF hH dX12_copyNode_71 (by decide) rfl rfl hw (fun σ12 H locs hw hH => ?_)
  refine lv_iconst (v := 0) hx hb dX12_copyNode_72 (by decide) ?_
  refine lv_istore_n (lv' := [(3, .int 0), (0, .ref h0), (1, .int a1), (2, .int a2)]) hx hb dX12_copyNode_73 rfl hl (by decide) rfl (fun ls hl => ?_)
  have hl : lv_has ls 4 [(3, .int 0), (2, .int a2), (1, .int a1), (0, .ref h0)] := lv_sub hl [0, 3, 2, 1] rfl
  refine w_loop (β := Int32) (fun x13 => [(3, .int x13), (2, .int a2), (1, .int a1), (0, .ref h0)]) 0 hl hw hH (fun K15 x13 σ14 ls H locs hl hw hH ih16 => ?_)
  have hl : lv_has ls 4 [(3, .int x13), (2, .int a2), (1, .int a1), (0, .ref h0)] := hl
  refine lv_iload_n hx hb dX12_copyNode_74 rfl (lv_at hl 0 rfl) ?_
  refine lv_bipush (v := 12) hx hb dX12_copyNode_75 (by decide) ?_
  refine w_icmp_ge (tgt := 108) hF dX12_copyNode_77 rfl hw (fun hw => ?_) (fun hw => ?_)
  · refine lv_iconst (v := 0) hx hb dX12_copyNode_108 (by decide) ?_
    refine lv_istore_n (lv' := [(3, .int 0), (2, .int a2), (1, .int a1), (0, .ref h0)]) hx hb dX12_copyNode_109 rfl hl (by decide) rfl (fun ls hl => ?_)
    refine w_loop (β := Int32) (fun x17 => [(3, .int x17), (2, .int a2), (1, .int a1), (0, .ref h0)]) 0 hl hw hH (fun K19 x17 σ18 ls H locs hl hw hH ih20 => ?_)
    have hl : lv_has ls 4 [(3, .int x17), (2, .int a2), (1, .int a1), (0, .ref h0)] := hl
    refine lv_iload_n hx hb dX12_copyNode_110 rfl (lv_at hl 0 rfl) ?_
    refine lv_iconst (v := 4) hx hb dX12_copyNode_111 (by decide) ?_
    refine w_icmp_ge (tgt := 141) hF dX12_copyNode_112 rfl hw (fun hw => ?_) (fun hw => ?_)
    · refine lv_iconst (v := 0) hx hb dX12_copyNode_141 (by decide) ?_
      refine lv_istore_n (lv' := [(3, .int 0), (2, .int a2), (1, .int a1), (0, .ref h0)]) hx hb dX12_copyNode_142 rfl hl (by decide) rfl (fun ls hl => ?_)
      refine w_loop (β := Int32) (fun x21 => [(3, .int x21), (2, .int a2), (1, .int a1), (0, .ref h0)]) 0 hl hw hH (fun K23 x21 σ22 ls H locs hl hw hH ih24 => ?_)
      have hl : lv_has ls 4 [(3, .int x21), (2, .int a2), (1, .int a1), (0, .ref h0)] := hl
      refine lv_iload_n hx hb dX12_copyNode_143 rfl (lv_at hl 0 rfl) ?_
      refine lv_sipush (v := 4096) hx hb dX12_copyNode_144 (by decide) ?_
      refine w_icmp_ge (tgt := 180) hF dX12_copyNode_147 rfl hw (fun hw => ?_) (fun hw => ?_)
      · exact w_retv hF hH hr hlk dX12_copyNode_180 hw
      · refine lv_aload_n hx hb dX12_copyNode_150 rfl (lv_at hl 3 rfl) ?_
        refine w_getA 9 hF hH fk_X12_41 dX12_copyNode_151 (by decide) rfl ?_
        refine lv_sipush (v := 4096) hx hb dX12_copyNode_154 (by decide) ?_
        refine lv_iload_n hx hb dX12_copyNode_157 rfl (lv_at hl 1 rfl) ?_
        refine lv_imul hx hb dX12_copyNode_158 ?_
        refine w_nmi hw (fun z25 hw => ?_)
        refine lv_iload_n hx hb dX12_copyNode_159 rfl (lv_at hl 0 rfl) ?_
        refine lv_iadd hx hb dX12_copyNode_160 ?_
        refine w_nmi hw (fun z26 hw => ?_)
        refine lv_aload_n hx hb dX12_copyNode_161 rfl (lv_at hl 3 rfl) ?_
        refine w_getA 9 hF hH fk_X12_41 dX12_copyNode_162 (by decide) rfl ?_
        refine lv_sipush (v := 4096) hx hb dX12_copyNode_165 (by decide) ?_
        refine lv_iload_n hx hb dX12_copyNode_168 rfl (lv_at hl 2 rfl) ?_
        refine lv_imul hx hb dX12_copyNode_169 ?_
        refine w_nmi hw (fun z27 hw => ?_)
        refine lv_iload_n hx hb dX12_copyNode_170 rfl (lv_at hl 0 rfl) ?_
        refine lv_iadd hx hb dX12_copyNode_171 ?_
        refine w_nmi hw (fun z28 hw => ?_)
        refine w_bald 9 655360 hF hH dX12_copyNode_172 (by decide) rfl rfl hw (fun z29 hw => ?_)
        refine w_bast 9 655360 hF hH dX12_copyNode_173 (by decide) rfl rfl hw (fun σ30 H locs hw hH => ?_)
        obtain ⟨z31, ez31⟩ : ∃ z : Int32, z = x21 + 1 := ⟨_, rfl⟩
        have hw := hw z31 ez31
        refine lv_iinc (lv' := [(3, .int z31), (2, .int a2), (1, .int a1), (0, .ref h0)]) (k := 0) (v := z31) hx hb dX12_copyNode_174 hl rfl ez31.symm (by decide) rfl (fun ls hl => ?_)
        refine lv_goto (tgt := 143) hx hb dX12_copyNode_177 rfl ?_
        exact ih24 z31 σ30 ls _ _ hl hw hH
    · refine lv_aload_n hx hb dX12_copyNode_115 rfl (lv_at hl 3 rfl) ?_
      refine w_getA 7 hF hH fk_X12_33 dX12_copyNode_116 (by decide) rfl ?_
      refine lv_iconst (v := 4) hx hb dX12_copyNode_119 (by decide) ?_
      refine lv_iload_n hx hb dX12_copyNode_120 rfl (lv_at hl 1 rfl) ?_
      refine lv_imul hx hb dX12_copyNode_121 ?_
      refine w_nmi hw (fun z32 hw => ?_)
      refine lv_iload_n hx hb dX12_copyNode_122 rfl (lv_at hl 0 rfl) ?_
      refine lv_iadd hx hb dX12_copyNode_123 ?_
      refine w_nmi hw (fun z33 hw => ?_)
      refine lv_aload_n hx hb dX12_copyNode_124 rfl (lv_at hl 3 rfl) ?_
      refine w_getA 7 hF hH fk_X12_33 dX12_copyNode_125 (by decide) rfl ?_
      refine lv_iconst (v := 4) hx hb dX12_copyNode_128 (by decide) ?_
      refine lv_iload_n hx hb dX12_copyNode_129 rfl (lv_at hl 2 rfl) ?_
      refine lv_imul hx hb dX12_copyNode_130 ?_
      refine w_nmi hw (fun z34 hw => ?_)
      refine lv_iload_n hx hb dX12_copyNode_131 rfl (lv_at hl 0 rfl) ?_
      refine lv_iadd hx hb dX12_copyNode_132 ?_
      refine w_nmi hw (fun z35 hw => ?_)
      refine w_lald 7 640 hF hH dX12_copyNode_133 (by decide) rfl rfl hw (fun z36 hw => ?_)
      refine w_last 7 640 hF hH dX12_copyNode_134 (by decide) rfl rfl hw (fun σ37 H locs hw hH => ?_)
      obtain ⟨z38, ez38⟩ : ∃ z : Int32, z = x17 + 1 := ⟨_, rfl⟩
      have hw := hw z38 ez38
      refine lv_iinc (lv' := [(3, .int z38), (2, .int a2), (1, .int a1), (0, .ref h0)]) (k := 0) (v := z38) hx hb dX12_copyNode_135 hl rfl ez38.symm (by decide) rfl (fun ls hl => ?_)
      refine lv_goto (tgt := 110) hx hb dX12_copyNode_138 rfl ?_
      exact ih20 z38 σ37 ls _ _ hl hw hH
  · refine lv_aload_n hx hb dX12_copyNode_80 rfl (lv_at hl 3 rfl) ?_
    refine w_getA 4 hF hH fk_X12_24 dX12_copyNode_81 (by decide) rfl ?_
    refine lv_bipush (v := 12) hx hb dX12_copyNode_84 (by decide) ?_
    refine lv_iload_n hx hb dX12_copyNode_86 rfl (lv_at hl 1 rfl) ?_
    refine lv_imul hx hb dX12_copyNode_87 ?_
    refine w_nmi hw (fun z39 hw => ?_)
    refine lv_iload_n hx hb dX12_copyNode_88 rfl (lv_at hl 0 rfl) ?_
    refine lv_iadd hx hb dX12_copyNode_89 ?_
    refine w_nmi hw (fun z40 hw => ?_)
    refine lv_aload_n hx hb dX12_copyNode_90 rfl (lv_at hl 3 rfl) ?_
    refine w_getA 4 hF hH fk_X12_24 dX12_copyNode_91 (by decide) rfl ?_
    refine lv_bipush (v := 12) hx hb dX12_copyNode_94 (by decide) ?_
    refine lv_iload_n hx hb dX12_copyNode_96 rfl (lv_at hl 2 rfl) ?_
    refine lv_imul hx hb dX12_copyNode_97 ?_
    refine w_nmi hw (fun z41 hw => ?_)
    refine lv_iload_n hx hb dX12_copyNode_98 rfl (lv_at hl 0 rfl) ?_
    refine lv_iadd hx hb dX12_copyNode_99 ?_
    refine w_nmi hw (fun z42 hw => ?_)
    refine w_bald 4 1920 hF hH dX12_copyNode_100 (by decide) rfl rfl hw (fun z43 hw => ?_)
    refine w_bast 4 1920 hF hH dX12_copyNode_101 (by decide) rfl rfl hw (fun σ44 H locs hw hH => ?_)
    obtain ⟨z45, ez45⟩ : ∃ z : Int32, z = x13 + 1 := ⟨_, rfl⟩
    have hw := hw z45 ez45
    refine lv_iinc (lv' := [(3, .int z45), (2, .int a2), (1, .int a1), (0, .ref h0)]) (k := 0) (v := z45) hx hb dX12_copyNode_102 hl rfl ez45.symm (by decide) rfl (fun ls hl => ?_)
    refine lv_goto (tgt := 74) hx hb dX12_copyNode_105 rfl ?_
    exact ih16 z45 σ44 ls _ _ hl hw hH
def F_X12_record (h0 : Nat) (L : Nat → Nat) (a1 : Int32) (a2 : Int32) (post : Int32 → HS → Prop) (σ : HS) : Prop := ∀ z1 : Int32, z1 = sI σ h0 16 → (0 ≤ z1.toInt ∧ z1.toInt < 9) ∧ ∀ σ2 : HS, σ2 = h_uI σ (L 14) z1.toInt.toNat a1 → (0 ≤ z1.toInt ∧ z1.toInt < 9) ∧ ∀ σ3 : HS, σ3 = h_uI σ2 (L 15) z1.toInt.toNat a2 → (0 ≤ a2.toInt ∧ a2.toInt < 160) ∧ ∀ z4 : Int32, z4 = sI σ3 (L 2) a2.toInt.toNat → (0 ≤ z1.toInt ∧ z1.toInt < 9) ∧ ∀ σ5 : HS, σ5 = h_uI σ3 (L 16) z1.toInt.toNat z4 → (0 ≤ a2.toInt ∧ a2.toInt < 160) ∧ ∀ z6 : Int32, z6 = sI σ5 (L 3) a2.toInt.toNat → (0 ≤ z1.toInt ∧ z1.toInt < 9) ∧ ∀ σ7 : HS, σ7 = h_uI σ5 (L 17) z1.toInt.toNat (vp_nar .boolean z6) → (0 ≤ a2.toInt ∧ a2.toInt < 160) ∧ ∀ z8 : Int32, z8 = sI σ7 (L 5) a2.toInt.toNat → (0 ≤ z1.toInt ∧ z1.toInt < 9) ∧ ∀ σ9 : HS, σ9 = h_uI σ7 (L 19) z1.toInt.toNat z8 → (0 ≤ a2.toInt ∧ a2.toInt < 160) ∧ ∀ z10 : Int32, z10 = sI σ9 (L 6) a2.toInt.toNat → (0 ≤ z1.toInt ∧ z1.toInt < 9) ∧ ∀ σ11 : HS, σ11 = h_uI σ9 (L 20) z1.toInt.toNat z10 → (0 ≤ z1.toInt ∧ z1.toInt < 9) ∧ ∀ σ12 : HS, σ12 = h_uI σ11 (L 22) z1.toInt.toNat 0 → (0 ≤ z1.toInt ∧ z1.toInt < 9) ∧ ∀ σ13 : HS, σ13 = h_uI σ12 (L 23) z1.toInt.toNat 0 → lw (fun (K16 : Int32 → HS → Prop) (x14 : Int32) (σ15 : HS) => (((12 : Int32).toInt ≤ x14.toInt) → lw (fun (K20 : Int32 → HS → Prop) (x18 : Int32) (σ19 : HS) => (((4 : Int32).toInt ≤ x18.toInt) → post z1 σ19) ∧ ((x18.toInt < (4 : Int32).toInt) → ∀ z22 : Int32, z22 = 4 * z1 → ∀ z23 : Int32, z23 = z22 + x18 → ∀ z24 : Int32, z24 = 4 * a2 → ∀ z25 : Int32, z25 = z24 + x18 → (0 ≤ z25.toInt ∧ z25.toInt < 640) ∧ ∀ z26 : Int64, z26 = sJ σ19 (L 7) z25.toInt.toNat → (0 ≤ z23.toInt ∧ z23.toInt < 36) ∧ ∀ σ27 : HS, σ27 = h_uJ σ19 (L 21) z23.toInt.toNat z26 → ∀ z28 : Int32, z28 = x18 + 1 → K20 z28 σ27)) 0 σ15) ∧ ((x14.toInt < (12 : Int32).toInt) → ∀ z29 : Int32, z29 = 12 * z1 → ∀ z30 : Int32, z30 = z29 + x14 → ∀ z31 : Int32, z31 = 12 * a2 → ∀ z32 : Int32, z32 = z31 + x14 → (0 ≤ z32.toInt ∧ z32.toInt < 1920) ∧ ∀ z33 : Int32, z33 = sI σ15 (L 4) z32.toInt.toNat → (0 ≤ z30.toInt ∧ z30.toInt < 108) ∧ ∀ σ34 : HS, σ34 = h_uI σ15 (L 18) z30.toInt.toNat (vp_nar .byte z33) → ∀ z35 : Int32, z35 = x14 + 1 → K16 z35 σ34)) 0 σ13
theorem dX12_record_0 : decode cX12_record 0 = .ok (.aload_n 0, 1) := by decide +kernel
theorem dX12_record_1 : decode cX12_record 1 = .ok (.getfield 271, 3) := by decide +kernel
theorem dX12_record_4 : decode cX12_record 4 = .ok (.istore_n 3, 1) := by decide +kernel
theorem dX12_record_5 : decode cX12_record 5 = .ok (.aload_n 0, 1) := by decide +kernel
theorem dX12_record_6 : decode cX12_record 6 = .ok (.getfield 56, 3) := by decide +kernel
theorem dX12_record_9 : decode cX12_record 9 = .ok (.iload_n 3, 1) := by decide +kernel
theorem dX12_record_10 : decode cX12_record 10 = .ok (.iload_n 1, 1) := by decide +kernel
theorem dX12_record_11 : decode cX12_record 11 = .ok (.iastore, 1) := by decide +kernel
theorem dX12_record_12 : decode cX12_record 12 = .ok (.aload_n 0, 1) := by decide +kernel
theorem dX12_record_13 : decode cX12_record 13 = .ok (.getfield 59, 3) := by decide +kernel
theorem dX12_record_16 : decode cX12_record 16 = .ok (.iload_n 3, 1) := by decide +kernel
theorem dX12_record_17 : decode cX12_record 17 = .ok (.iload_n 2, 1) := by decide +kernel
theorem dX12_record_18 : decode cX12_record 18 = .ok (.iastore, 1) := by decide +kernel
theorem dX12_record_19 : decode cX12_record 19 = .ok (.aload_n 0, 1) := by decide +kernel
theorem dX12_record_20 : decode cX12_record 20 = .ok (.getfield 62, 3) := by decide +kernel
theorem dX12_record_23 : decode cX12_record 23 = .ok (.iload_n 3, 1) := by decide +kernel
theorem dX12_record_24 : decode cX12_record 24 = .ok (.aload_n 0, 1) := by decide +kernel
theorem dX12_record_25 : decode cX12_record 25 = .ok (.getfield 17, 3) := by decide +kernel
theorem dX12_record_28 : decode cX12_record 28 = .ok (.iload_n 2, 1) := by decide +kernel
theorem dX12_record_29 : decode cX12_record 29 = .ok (.iaload, 1) := by decide +kernel
theorem dX12_record_30 : decode cX12_record 30 = .ok (.iastore, 1) := by decide +kernel
theorem dX12_record_31 : decode cX12_record 31 = .ok (.aload_n 0, 1) := by decide +kernel
theorem dX12_record_32 : decode cX12_record 32 = .ok (.getfield 65, 3) := by decide +kernel
theorem dX12_record_35 : decode cX12_record 35 = .ok (.iload_n 3, 1) := by decide +kernel
theorem dX12_record_36 : decode cX12_record 36 = .ok (.aload_n 0, 1) := by decide +kernel
theorem dX12_record_37 : decode cX12_record 37 = .ok (.getfield 21, 3) := by decide +kernel
theorem dX12_record_40 : decode cX12_record 40 = .ok (.iload_n 2, 1) := by decide +kernel
theorem dX12_record_41 : decode cX12_record 41 = .ok (.baload, 1) := by decide +kernel
theorem dX12_record_42 : decode cX12_record 42 = .ok (.bastore, 1) := by decide +kernel
theorem dX12_record_43 : decode cX12_record 43 = .ok (.aload_n 0, 1) := by decide +kernel
theorem dX12_record_44 : decode cX12_record 44 = .ok (.getfield 71, 3) := by decide +kernel
theorem dX12_record_47 : decode cX12_record 47 = .ok (.iload_n 3, 1) := by decide +kernel
theorem dX12_record_48 : decode cX12_record 48 = .ok (.aload_n 0, 1) := by decide +kernel
theorem dX12_record_49 : decode cX12_record 49 = .ok (.getfield 27, 3) := by decide +kernel
theorem dX12_record_52 : decode cX12_record 52 = .ok (.iload_n 2, 1) := by decide +kernel
theorem dX12_record_53 : decode cX12_record 53 = .ok (.iaload, 1) := by decide +kernel
theorem dX12_record_54 : decode cX12_record 54 = .ok (.iastore, 1) := by decide +kernel
theorem dX12_record_55 : decode cX12_record 55 = .ok (.aload_n 0, 1) := by decide +kernel
theorem dX12_record_56 : decode cX12_record 56 = .ok (.getfield 74, 3) := by decide +kernel
theorem dX12_record_59 : decode cX12_record 59 = .ok (.iload_n 3, 1) := by decide +kernel
theorem dX12_record_60 : decode cX12_record 60 = .ok (.aload_n 0, 1) := by decide +kernel
theorem dX12_record_61 : decode cX12_record 61 = .ok (.getfield 30, 3) := by decide +kernel
theorem dX12_record_64 : decode cX12_record 64 = .ok (.iload_n 2, 1) := by decide +kernel
theorem dX12_record_65 : decode cX12_record 65 = .ok (.iaload, 1) := by decide +kernel
theorem dX12_record_66 : decode cX12_record 66 = .ok (.iastore, 1) := by decide +kernel
theorem dX12_record_67 : decode cX12_record 67 = .ok (.aload_n 0, 1) := by decide +kernel
theorem dX12_record_68 : decode cX12_record 68 = .ok (.getfield 80, 3) := by decide +kernel
theorem dX12_record_71 : decode cX12_record 71 = .ok (.iload_n 3, 1) := by decide +kernel
theorem dX12_record_72 : decode cX12_record 72 = .ok (.iconst 0, 1) := by decide +kernel
theorem dX12_record_73 : decode cX12_record 73 = .ok (.iastore, 1) := by decide +kernel
theorem dX12_record_74 : decode cX12_record 74 = .ok (.aload_n 0, 1) := by decide +kernel
theorem dX12_record_75 : decode cX12_record 75 = .ok (.getfield 83, 3) := by decide +kernel
theorem dX12_record_78 : decode cX12_record 78 = .ok (.iload_n 3, 1) := by decide +kernel
theorem dX12_record_79 : decode cX12_record 79 = .ok (.iconst 0, 1) := by decide +kernel
theorem dX12_record_80 : decode cX12_record 80 = .ok (.iastore, 1) := by decide +kernel
theorem dX12_record_81 : decode cX12_record 81 = .ok (.iconst 0, 1) := by decide +kernel
theorem dX12_record_82 : decode cX12_record 82 = .ok (.istore 4, 2) := by decide +kernel
theorem dX12_record_84 : decode cX12_record 84 = .ok (.iload 4, 2) := by decide +kernel
theorem dX12_record_86 : decode cX12_record 86 = .ok (.bipush 12, 2) := by decide +kernel
theorem dX12_record_88 : decode cX12_record 88 = .ok (.if_icmp .ge 33, 3) := by decide +kernel
theorem dX12_record_91 : decode cX12_record 91 = .ok (.aload_n 0, 1) := by decide +kernel
theorem dX12_record_92 : decode cX12_record 92 = .ok (.getfield 68, 3) := by decide +kernel
theorem dX12_record_95 : decode cX12_record 95 = .ok (.bipush 12, 2) := by decide +kernel
theorem dX12_record_97 : decode cX12_record 97 = .ok (.iload_n 3, 1) := by decide +kernel
theorem dX12_record_98 : decode cX12_record 98 = .ok (.imul, 1) := by decide +kernel
theorem dX12_record_99 : decode cX12_record 99 = .ok (.iload 4, 2) := by decide +kernel
theorem dX12_record_101 : decode cX12_record 101 = .ok (.iadd, 1) := by decide +kernel
theorem dX12_record_102 : decode cX12_record 102 = .ok (.aload_n 0, 1) := by decide +kernel
theorem dX12_record_103 : decode cX12_record 103 = .ok (.getfield 24, 3) := by decide +kernel
theorem dX12_record_106 : decode cX12_record 106 = .ok (.bipush 12, 2) := by decide +kernel
theorem dX12_record_108 : decode cX12_record 108 = .ok (.iload_n 2, 1) := by decide +kernel
theorem dX12_record_109 : decode cX12_record 109 = .ok (.imul, 1) := by decide +kernel
theorem dX12_record_110 : decode cX12_record 110 = .ok (.iload 4, 2) := by decide +kernel
theorem dX12_record_112 : decode cX12_record 112 = .ok (.iadd, 1) := by decide +kernel
theorem dX12_record_113 : decode cX12_record 113 = .ok (.baload, 1) := by decide +kernel
theorem dX12_record_114 : decode cX12_record 114 = .ok (.bastore, 1) := by decide +kernel
theorem dX12_record_115 : decode cX12_record 115 = .ok (.iinc 4 1, 3) := by decide +kernel
theorem dX12_record_118 : decode cX12_record 118 = .ok (.goto (-34), 3) := by decide +kernel
theorem dX12_record_121 : decode cX12_record 121 = .ok (.iconst 0, 1) := by decide +kernel
theorem dX12_record_122 : decode cX12_record 122 = .ok (.istore 4, 2) := by decide +kernel
theorem dX12_record_124 : decode cX12_record 124 = .ok (.iload 4, 2) := by decide +kernel
theorem dX12_record_126 : decode cX12_record 126 = .ok (.iconst 4, 1) := by decide +kernel
theorem dX12_record_127 : decode cX12_record 127 = .ok (.if_icmp .ge 31, 3) := by decide +kernel
theorem dX12_record_130 : decode cX12_record 130 = .ok (.aload_n 0, 1) := by decide +kernel
theorem dX12_record_131 : decode cX12_record 131 = .ok (.getfield 77, 3) := by decide +kernel
theorem dX12_record_134 : decode cX12_record 134 = .ok (.iconst 4, 1) := by decide +kernel
theorem dX12_record_135 : decode cX12_record 135 = .ok (.iload_n 3, 1) := by decide +kernel
theorem dX12_record_136 : decode cX12_record 136 = .ok (.imul, 1) := by decide +kernel
theorem dX12_record_137 : decode cX12_record 137 = .ok (.iload 4, 2) := by decide +kernel
theorem dX12_record_139 : decode cX12_record 139 = .ok (.iadd, 1) := by decide +kernel
theorem dX12_record_140 : decode cX12_record 140 = .ok (.aload_n 0, 1) := by decide +kernel
theorem dX12_record_141 : decode cX12_record 141 = .ok (.getfield 33, 3) := by decide +kernel
theorem dX12_record_144 : decode cX12_record 144 = .ok (.iconst 4, 1) := by decide +kernel
theorem dX12_record_145 : decode cX12_record 145 = .ok (.iload_n 2, 1) := by decide +kernel
theorem dX12_record_146 : decode cX12_record 146 = .ok (.imul, 1) := by decide +kernel
theorem dX12_record_147 : decode cX12_record 147 = .ok (.iload 4, 2) := by decide +kernel
theorem dX12_record_149 : decode cX12_record 149 = .ok (.iadd, 1) := by decide +kernel
theorem dX12_record_150 : decode cX12_record 150 = .ok (.laload, 1) := by decide +kernel
theorem dX12_record_151 : decode cX12_record 151 = .ok (.lastore, 1) := by decide +kernel
theorem dX12_record_152 : decode cX12_record 152 = .ok (.iinc 4 1, 3) := by decide +kernel
theorem dX12_record_155 : decode cX12_record 155 = .ok (.goto (-31), 3) := by decide +kernel
theorem dX12_record_158 : decode cX12_record 158 = .ok (.iload_n 3, 1) := by decide +kernel
theorem dX12_record_159 : decode cX12_record 159 = .ok (.ireturn, 1) := by decide +kernel
set_option maxRecDepth 100000 in
set_option maxHeartbeats 4000000 in
theorem c_X12_record (l : Launch) (D : va_G) (t : Nat → ClassId) (h0 : Nat) (L : Nat → Nat) (σ : HS) (hM : MdI h0 L σ) (a1 : Int32) (a2 : Int32) (post : Int32 → HS → Prop) (hw : F_X12_record h0 L a1 a2 post σ) (sz : Nat) : RMi l D t yX12_record cX12_record 5 (some .int) ({ frames := 0, cells := 0, slots := 0, locals := 0 }) h0 L σ sz [.ref h0, .int a1, .int a2] post := by
  refine h_go (τ := τT) okT (by decide) (Nat.le_of_ble_eq_true rfl) ?_
  intro p e s m below meth c ls A hF hr hlk hAe hH0 hA hl
  unfold hB
  rw [hAe]
  clear hAe
  have hF : FX p m c cX12_record 5 s _ RX12 D t := hF
  have hx := hF.1.1
  have hb := hF.1.2.1
  have hH : RT D t A s.heap h0 L σ s.heap [] := ⟨hH0, hM⟩
  have hl : lv_has ls 5 [(0, .ref h0), (1, .int a1), (2, .int a2)] := hl
  unfold F_X12_record at hw
  refine lv_aload_n hx hb dX12_record_0 rfl (lv_at hl 0 rfl) ?_
  refine w_getI hF hH fk_X12_271 dX12_record_1 hw (fun z1 hw => ?_)
  refine lv_istore_n (lv' := [(3, .int z1), (0, .ref h0), (1, .int a1), (2, .int a2)]) hx hb dX12_record_4 rfl hl (by decide) rfl (fun ls hl => ?_)
  refine lv_aload_n hx hb dX12_record_5 rfl (lv_at hl 1 rfl) ?_
  refine w_getA 14 hF hH fk_X12_56 dX12_record_6 (by decide) rfl ?_
  refine lv_iload_n hx hb dX12_record_9 rfl (lv_at hl 0 rfl) ?_
  refine lv_iload_n hx hb dX12_record_10 rfl (lv_at hl 2 rfl) ?_
  refine w_iast 14 9 hF hH dX12_record_11 (by decide) rfl rfl hw (fun σ2 H locs hw hH => ?_)
  refine lv_aload_n hx hb dX12_record_12 rfl (lv_at hl 1 rfl) ?_
  refine w_getA 15 hF hH fk_X12_59 dX12_record_13 (by decide) rfl ?_
  refine lv_iload_n hx hb dX12_record_16 rfl (lv_at hl 0 rfl) ?_
  refine lv_iload_n hx hb dX12_record_17 rfl (lv_at hl 3 rfl) ?_
  refine w_iast 15 9 hF hH dX12_record_18 (by decide) rfl rfl hw (fun σ3 H locs hw hH => ?_)
  refine lv_aload_n hx hb dX12_record_19 rfl (lv_at hl 1 rfl) ?_
  refine w_getA 16 hF hH fk_X12_62 dX12_record_20 (by decide) rfl ?_
  refine lv_iload_n hx hb dX12_record_23 rfl (lv_at hl 0 rfl) ?_
  refine lv_aload_n hx hb dX12_record_24 rfl (lv_at hl 1 rfl) ?_
  refine w_getA 2 hF hH fk_X12_17 dX12_record_25 (by decide) rfl ?_
  refine lv_iload_n hx hb dX12_record_28 rfl (lv_at hl 3 rfl) ?_
  refine w_iald 2 160 hF hH dX12_record_29 (by decide) rfl rfl hw (fun z4 hw => ?_)
  refine w_iast 16 9 hF hH dX12_record_30 (by decide) rfl rfl hw (fun σ5 H locs hw hH => ?_)
  refine lv_aload_n hx hb dX12_record_31 rfl (lv_at hl 1 rfl) ?_
  refine w_getA 17 hF hH fk_X12_65 dX12_record_32 (by decide) rfl ?_
  refine lv_iload_n hx hb dX12_record_35 rfl (lv_at hl 0 rfl) ?_
  refine lv_aload_n hx hb dX12_record_36 rfl (lv_at hl 1 rfl) ?_
  refine w_getA 3 hF hH fk_X12_21 dX12_record_37 (by decide) rfl ?_
  refine lv_iload_n hx hb dX12_record_40 rfl (lv_at hl 3 rfl) ?_
  refine w_zald 3 160 hF hH dX12_record_41 (by decide) rfl rfl hw (fun z6 hw => ?_)
  refine w_zast 17 9 hF hH dX12_record_42 (by decide) rfl rfl hw (fun σ7 H locs hw hH => ?_)
  refine lv_aload_n hx hb dX12_record_43 rfl (lv_at hl 1 rfl) ?_
  refine w_getA 19 hF hH fk_X12_71 dX12_record_44 (by decide) rfl ?_
  refine lv_iload_n hx hb dX12_record_47 rfl (lv_at hl 0 rfl) ?_
  refine lv_aload_n hx hb dX12_record_48 rfl (lv_at hl 1 rfl) ?_
  refine w_getA 5 hF hH fk_X12_27 dX12_record_49 (by decide) rfl ?_
  refine lv_iload_n hx hb dX12_record_52 rfl (lv_at hl 3 rfl) ?_
  refine w_iald 5 160 hF hH dX12_record_53 (by decide) rfl rfl hw (fun z8 hw => ?_)
  refine w_iast 19 9 hF hH dX12_record_54 (by decide) rfl rfl hw (fun σ9 H locs hw hH => ?_)
  refine lv_aload_n hx hb dX12_record_55 rfl (lv_at hl 1 rfl) ?_
  refine w_getA 20 hF hH fk_X12_74 dX12_record_56 (by decide) rfl ?_
  refine lv_iload_n hx hb dX12_record_59 rfl (lv_at hl 0 rfl) ?_
  refine lv_aload_n hx hb dX12_record_60 rfl (lv_at hl 1 rfl) ?_
  refine w_getA 6 hF hH fk_X12_30 dX12_record_61 (by decide) rfl ?_
  refine lv_iload_n hx hb dX12_record_64 rfl (lv_at hl 3 rfl) ?_
  refine w_iald 6 160 hF hH dX12_record_65 (by decide) rfl rfl hw (fun z10 hw => ?_)
  refine w_iast 20 9 hF hH dX12_record_66 (by decide) rfl rfl hw (fun σ11 H locs hw hH => ?_)
  refine lv_aload_n hx hb dX12_record_67 rfl (lv_at hl 1 rfl) ?_
  refine w_getA 22 hF hH fk_X12_80 dX12_record_68 (by decide) rfl ?_
  refine lv_iload_n hx hb dX12_record_71 rfl (lv_at hl 0 rfl) ?_
  refine lv_iconst (v := 0) hx hb dX12_record_72 (by decide) ?_
  refine w_iast 22 9 hF hH dX12_record_73 (by decide) rfl rfl hw (fun σ12 H locs hw hH => ?_)
  refine lv_aload_n hx hb dX12_record_74 rfl (lv_at hl 1 rfl) ?_
  refine w_getA 23 hF hH fk_X12_83 dX12_record_75 (by decide) rfl ?_
  refine lv_iload_n hx hb dX12_record_78 rfl (lv_at hl 0 rfl) ?_
  refine lv_iconst (v := 0) hx hb dX12_record_79 (by decide) ?_
  refine w_iast 23 9 hF hH dX12_record_80 (by decide) rfl rfl hw (fun σ13 H locs hw hH => ?_)
  refine lv_iconst (v := 0) hx hb dX12_record_81 (by decide) ?_
  refine lv_istore (lv' := [(4, .int 0), (3, .int z1), (0, .ref h0), (1, .int a1), (2, .int a2)]) hx hb dX12_record_82 hl (by decide) rfl (fun ls hl => ?_)
  have hl : lv_has ls 5 [(4, .int 0), (3, .int z1), (2, .int a2), (0, .ref h0)] := lv_sub hl [0, 1, 4, 2] rfl
  refine w_loop (β := Int32) (fun x14 => [(4, .int x14), (3, .int z1), (2, .int a2), (0, .ref h0)]) 0 hl hw hH (fun K16 x14 σ15 ls H locs hl hw hH ih17 => ?_)
  have hl : lv_has ls 5 [(4, .int x14), (3, .int z1), (2, .int a2), (0, .ref h0)] := hl
  refine lv_iload hx hb dX12_record_84 (lv_at hl 0 rfl) ?_
  refine lv_bipush (v := 12) hx hb dX12_record_86 (by decide) ?_
  refine w_icmp_ge (tgt := 121) hF dX12_record_88 rfl hw (fun hw => ?_) (fun hw => ?_)
  · refine lv_iconst (v := 0) hx hb dX12_record_121 (by decide) ?_
    refine lv_istore (lv' := [(4, .int 0), (3, .int z1), (2, .int a2), (0, .ref h0)]) hx hb dX12_record_122 hl (by decide) rfl (fun ls hl => ?_)
    refine w_loop (β := Int32) (fun x18 => [(4, .int x18), (3, .int z1), (2, .int a2), (0, .ref h0)]) 0 hl hw hH (fun K20 x18 σ19 ls H locs hl hw hH ih21 => ?_)
    have hl : lv_has ls 5 [(4, .int x18), (3, .int z1), (2, .int a2), (0, .ref h0)] := hl
    refine lv_iload hx hb dX12_record_124 (lv_at hl 0 rfl) ?_
    refine lv_iconst (v := 4) hx hb dX12_record_126 (by decide) ?_
    refine w_icmp_ge (tgt := 158) hF dX12_record_127 rfl hw (fun hw => ?_) (fun hw => ?_)
    · refine lv_iload_n hx hb dX12_record_158 rfl (lv_at hl 1 rfl) ?_
      exact w_reti hF hH hr hlk rfl dX12_record_159 hw
    · refine lv_aload_n hx hb dX12_record_130 rfl (lv_at hl 3 rfl) ?_
      refine w_getA 21 hF hH fk_X12_77 dX12_record_131 (by decide) rfl ?_
      refine lv_iconst (v := 4) hx hb dX12_record_134 (by decide) ?_
      refine lv_iload_n hx hb dX12_record_135 rfl (lv_at hl 1 rfl) ?_
      refine lv_imul hx hb dX12_record_136 ?_
      refine w_nmi hw (fun z22 hw => ?_)
      refine lv_iload hx hb dX12_record_137 (lv_at hl 0 rfl) ?_
      refine lv_iadd hx hb dX12_record_139 ?_
      refine w_nmi hw (fun z23 hw => ?_)
      refine lv_aload_n hx hb dX12_record_140 rfl (lv_at hl 3 rfl) ?_
      refine w_getA 7 hF hH fk_X12_33 dX12_record_141 (by decide) rfl ?_
      refine lv_iconst (v := 4) hx hb dX12_record_144 (by decide) ?_
      refine lv_iload_n hx hb dX12_record_145 rfl (lv_at hl 2 rfl) ?_
      refine lv_imul hx hb dX12_record_146 ?_
      refine w_nmi hw (fun z24 hw => ?_)
      refine lv_iload hx hb dX12_record_147 (lv_at hl 0 rfl) ?_
      refine lv_iadd hx hb dX12_record_149 ?_
      refine w_nmi hw (fun z25 hw => ?_)
      refine w_lald 7 640 hF hH dX12_record_150 (by decide) rfl rfl hw (fun z26 hw => ?_)
      refine w_last 21 36 hF hH dX12_record_151 (by decide) rfl rfl hw (fun σ27 H locs hw hH => ?_)
      obtain ⟨z28, ez28⟩ : ∃ z : Int32, z = x18 + 1 := ⟨_, rfl⟩
      have hw := hw z28 ez28
      refine lv_iinc (lv' := [(4, .int z28), (3, .int z1), (2, .int a2), (0, .ref h0)]) (k := 0) (v := z28) hx hb dX12_record_152 hl rfl ez28.symm (by decide) rfl (fun ls hl => ?_)
      refine lv_goto (tgt := 124) hx hb dX12_record_155 rfl ?_
      exact ih21 z28 σ27 ls _ _ hl hw hH
  · refine lv_aload_n hx hb dX12_record_91 rfl (lv_at hl 3 rfl) ?_
    refine w_getA 18 hF hH fk_X12_68 dX12_record_92 (by decide) rfl ?_
    refine lv_bipush (v := 12) hx hb dX12_record_95 (by decide) ?_
    refine lv_iload_n hx hb dX12_record_97 rfl (lv_at hl 1 rfl) ?_
    refine lv_imul hx hb dX12_record_98 ?_
    refine w_nmi hw (fun z29 hw => ?_)
    refine lv_iload hx hb dX12_record_99 (lv_at hl 0 rfl) ?_
    refine lv_iadd hx hb dX12_record_101 ?_
    refine w_nmi hw (fun z30 hw => ?_)
    refine lv_aload_n hx hb dX12_record_102 rfl (lv_at hl 3 rfl) ?_
    refine w_getA 4 hF hH fk_X12_24 dX12_record_103 (by decide) rfl ?_
    refine lv_bipush (v := 12) hx hb dX12_record_106 (by decide) ?_
    refine lv_iload_n hx hb dX12_record_108 rfl (lv_at hl 2 rfl) ?_
    refine lv_imul hx hb dX12_record_109 ?_
    refine w_nmi hw (fun z31 hw => ?_)
    refine lv_iload hx hb dX12_record_110 (lv_at hl 0 rfl) ?_
    refine lv_iadd hx hb dX12_record_112 ?_
    refine w_nmi hw (fun z32 hw => ?_)
    refine w_bald 4 1920 hF hH dX12_record_113 (by decide) rfl rfl hw (fun z33 hw => ?_)
    refine w_bast 18 108 hF hH dX12_record_114 (by decide) rfl rfl hw (fun σ34 H locs hw hH => ?_)
    obtain ⟨z35, ez35⟩ : ∃ z : Int32, z = x14 + 1 := ⟨_, rfl⟩
    have hw := hw z35 ez35
    refine lv_iinc (lv' := [(4, .int z35), (3, .int z1), (2, .int a2), (0, .ref h0)]) (k := 0) (v := z35) hx hb dX12_record_115 hl rfl ez35.symm (by decide) rfl (fun ls hl => ?_)
    refine lv_goto (tgt := 84) hx hb dX12_record_118 rfl ?_
    exact ih17 z35 σ34 ls _ _ hl hw hH
def F_X12_zero (h0 : Nat) (L : Nat → Nat) (a1 : Int32) (a2 : Int32) (a3 : Int32) (post : HS → Prop) (σ : HS) : Prop := lw (fun (K3 : Int32 → HS → Prop) (x1 : Int32) (σ2 : HS) => ((a3.toInt ≤ x1.toInt) → post σ2) ∧ ((x1.toInt < a3.toInt) → ∀ z5 : Int32, z5 = 4096 * a1 → ∀ z6 : Int32, z6 = z5 + x1 → (0 ≤ z6.toInt ∧ z6.toInt < 655360) ∧ ∀ σ7 : HS, σ7 = h_uI σ2 (L 9) z6.toInt.toNat (vp_nar .byte 0) → ∀ z8 : Int32, z8 = x1 + 1 → K3 z8 σ7)) a2 σ
theorem dX12_zero_0 : decode cX12_zero 0 = .ok (.iload_n 2, 1) := by decide +kernel
theorem dX12_zero_1 : decode cX12_zero 1 = .ok (.istore 4, 2) := by decide +kernel
theorem dX12_zero_3 : decode cX12_zero 3 = .ok (.iload 4, 2) := by decide +kernel
theorem dX12_zero_5 : decode cX12_zero 5 = .ok (.iload_n 3, 1) := by decide +kernel
theorem dX12_zero_6 : decode cX12_zero 6 = .ok (.if_icmp .ge 23, 3) := by decide +kernel
theorem dX12_zero_9 : decode cX12_zero 9 = .ok (.aload_n 0, 1) := by decide +kernel
theorem dX12_zero_10 : decode cX12_zero 10 = .ok (.getfield 41, 3) := by decide +kernel
theorem dX12_zero_13 : decode cX12_zero 13 = .ok (.sipush 4096, 3) := by decide +kernel
theorem dX12_zero_16 : decode cX12_zero 16 = .ok (.iload_n 1, 1) := by decide +kernel
theorem dX12_zero_17 : decode cX12_zero 17 = .ok (.imul, 1) := by decide +kernel
theorem dX12_zero_18 : decode cX12_zero 18 = .ok (.iload 4, 2) := by decide +kernel
theorem dX12_zero_20 : decode cX12_zero 20 = .ok (.iadd, 1) := by decide +kernel
theorem dX12_zero_21 : decode cX12_zero 21 = .ok (.iconst 0, 1) := by decide +kernel
theorem dX12_zero_22 : decode cX12_zero 22 = .ok (.bastore, 1) := by decide +kernel
theorem dX12_zero_23 : decode cX12_zero 23 = .ok (.iinc 4 1, 3) := by decide +kernel
theorem dX12_zero_26 : decode cX12_zero 26 = .ok (.goto (-23), 3) := by decide +kernel
theorem dX12_zero_29 : decode cX12_zero 29 = .ok (.return_, 1) := by decide +kernel
set_option maxRecDepth 100000 in
set_option maxHeartbeats 4000000 in
theorem c_X12_zero (l : Launch) (D : va_G) (t : Nat → ClassId) (h0 : Nat) (L : Nat → Nat) (σ : HS) (hM : MdI h0 L σ) (a1 : Int32) (a2 : Int32) (a3 : Int32) (post : HS → Prop) (hw : F_X12_zero h0 L a1 a2 a3 post σ) (sz : Nat) : RMv l D t yX12_zero cX12_zero 5 ({ frames := 0, cells := 0, slots := 0, locals := 0 }) h0 L σ sz [.ref h0, .int a1, .int a2, .int a3] post := by
  refine h_go (τ := τT) okT (by decide) (Nat.le_of_ble_eq_true rfl) ?_
  intro p e s m below meth c ls A hF hr hlk hAe hH0 hA hl
  unfold hB
  rw [hAe]
  clear hAe
  have hF : FX p m c cX12_zero 5 s _ RX12 D t := hF
  have hx := hF.1.1
  have hb := hF.1.2.1
  have hH : RT D t A s.heap h0 L σ s.heap [] := ⟨hH0, hM⟩
  have hl : lv_has ls 5 [(0, .ref h0), (1, .int a1), (2, .int a2), (3, .int a3)] := hl
  unfold F_X12_zero at hw
  refine lv_iload_n hx hb dX12_zero_0 rfl (lv_at hl 2 rfl) ?_
  refine lv_istore (lv' := [(4, .int a2), (0, .ref h0), (1, .int a1), (2, .int a2), (3, .int a3)]) hx hb dX12_zero_1 hl (by decide) rfl (fun ls hl => ?_)
  have hl : lv_has ls 5 [(4, .int a2), (3, .int a3), (1, .int a1), (0, .ref h0)] := lv_sub hl [0, 4, 2, 1] rfl
  refine w_loop (β := Int32) (fun x1 => [(4, .int x1), (3, .int a3), (1, .int a1), (0, .ref h0)]) a2 hl hw hH (fun K3 x1 σ2 ls H locs hl hw hH ih4 => ?_)
  have hl : lv_has ls 5 [(4, .int x1), (3, .int a3), (1, .int a1), (0, .ref h0)] := hl
  refine lv_iload hx hb dX12_zero_3 (lv_at hl 0 rfl) ?_
  refine lv_iload_n hx hb dX12_zero_5 rfl (lv_at hl 1 rfl) ?_
  refine w_icmp_ge (tgt := 29) hF dX12_zero_6 rfl hw (fun hw => ?_) (fun hw => ?_)
  · exact w_retv hF hH hr hlk dX12_zero_29 hw
  · refine lv_aload_n hx hb dX12_zero_9 rfl (lv_at hl 3 rfl) ?_
    refine w_getA 9 hF hH fk_X12_41 dX12_zero_10 (by decide) rfl ?_
    refine lv_sipush (v := 4096) hx hb dX12_zero_13 (by decide) ?_
    refine lv_iload_n hx hb dX12_zero_16 rfl (lv_at hl 2 rfl) ?_
    refine lv_imul hx hb dX12_zero_17 ?_
    refine w_nmi hw (fun z5 hw => ?_)
    refine lv_iload hx hb dX12_zero_18 (lv_at hl 0 rfl) ?_
    refine lv_iadd hx hb dX12_zero_20 ?_
    refine w_nmi hw (fun z6 hw => ?_)
    refine lv_iconst (v := 0) hx hb dX12_zero_21 (by decide) ?_
    refine w_bast 9 655360 hF hH dX12_zero_22 (by decide) rfl rfl hw (fun σ7 H locs hw hH => ?_)
    obtain ⟨z8, ez8⟩ : ∃ z : Int32, z = x1 + 1 := ⟨_, rfl⟩
    have hw := hw z8 ez8
    refine lv_iinc (lv' := [(4, .int z8), (3, .int a3), (1, .int a1), (0, .ref h0)]) (k := 0) (v := z8) hx hb dX12_zero_23 hl rfl ez8.symm (by decide) rfl (fun ls hl => ?_)
    refine lv_goto (tgt := 3) hx hb dX12_zero_26 rfl ?_
    exact ih4 z8 σ7 ls _ _ hl hw hH
def F_X12_apply (h0 : Nat) (L : Nat → Nat) (a1 : Int32) (a2 : Int32) (post : HS → Prop) (σ : HS) : Prop := (0 ≤ a1.toInt ∧ a1.toInt < 9) ∧ ∀ z1 : Int32, z1 = sI σ (L 15) a1.toInt.toNat → ∀ z2 : Int32, z2 = a2 + z1 → (0 ≤ a1.toInt ∧ a1.toInt < 9) ∧ ∀ z3 : Int32, z3 = sI σ (L 14) a1.toInt.toNat → ((¬ z3.toInt = (5 : Int32).toInt) → (0 ≤ a1.toInt ∧ a1.toInt < 9) ∧ ∀ z4 : Int32, z4 = sI σ (L 14) a1.toInt.toNat → jn (fun (K7 : Unit → HS → Prop) => ((¬ z4.toInt = 0) → K7 () σ) ∧ ((z4.toInt = 0) → (0 ≤ z2.toInt ∧ z2.toInt < 160) ∧ ∀ σ109 : HS, σ109 = h_uI σ (L 1) z2.toInt.toNat (vp_nar .boolean 1) → (0 ≤ a1.toInt ∧ a1.toInt < 9) ∧ ∀ z110 : Int32, z110 = sI σ109 (L 17) a1.toInt.toNat → (0 ≤ z2.toInt ∧ z2.toInt < 160) ∧ ∀ σ111 : HS, σ111 = h_uI σ109 (L 3) z2.toInt.toNat (vp_nar .boolean z110) → (0 ≤ z2.toInt ∧ z2.toInt < 160) ∧ ∀ σ112 : HS, σ112 = h_uI σ111 (L 8) z2.toInt.toNat 0 → K7 () σ112)) (fun (x5 : Unit) (σ6 : HS) => (0 ≤ a1.toInt ∧ a1.toInt < 9) ∧ ∀ z10 : Int32, z10 = sI σ6 (L 14) a1.toInt.toNat → jn (fun (K13 : Unit → HS → Prop) => jn (fun (K90 : Unit → HS → Prop) => ((z10.toInt = 0) → K90 () σ6) ∧ ((¬ z10.toInt = 0) → (0 ≤ a1.toInt ∧ a1.toInt < 9) ∧ ∀ z108 : Int32, z108 = sI σ6 (L 14) a1.toInt.toNat → ((¬ z108.toInt = (4 : Int32).toInt) → K13 () σ6) ∧ ((z108.toInt = (4 : Int32).toInt) → K90 () σ6))) (fun (x88 : Unit) (σ89 : HS) => (0 ≤ a1.toInt ∧ a1.toInt < 9) ∧ ∀ z93 : Int32, z93 = sI σ89 (L 16) a1.toInt.toNat → (0 ≤ z2.toInt ∧ z2.toInt < 160) ∧ ∀ σ94 : HS, σ94 = h_uI σ89 (L 2) z2.toInt.toNat z93 → (0 ≤ a1.toInt ∧ a1.toInt < 9) ∧ ∀ z95 : Int32, z95 = sI σ94 (L 19) a1.toInt.toNat → (0 ≤ z2.toInt ∧ z2.toInt < 160) ∧ ∀ σ96 : HS, σ96 = h_uI σ94 (L 5) z2.toInt.toNat z95 → lw (fun (K99 : Int32 → HS → Prop) (x97 : Int32) (σ98 : HS) => (((12 : Int32).toInt ≤ x97.toInt) → K13 () σ98) ∧ ((x97.toInt < (12 : Int32).toInt) → ∀ z101 : Int32, z101 = 12 * z2 → ∀ z102 : Int32, z102 = z101 + x97 → ∀ z103 : Int32, z103 = 12 * a1 → ∀ z104 : Int32, z104 = z103 + x97 → (0 ≤ z104.toInt ∧ z104.toInt < 108) ∧ ∀ z105 : Int32, z105 = sI σ98 (L 18) z104.toInt.toNat → (0 ≤ z102.toInt ∧ z102.toInt < 1920) ∧ ∀ σ106 : HS, σ106 = h_uI σ98 (L 4) z102.toInt.toNat (vp_nar .byte z105) → ∀ z107 : Int32, z107 = x97 + 1 → K99 z107 σ106)) 0 σ96)) (fun (x11 : Unit) (σ12 : HS) => (0 ≤ a1.toInt ∧ a1.toInt < 9) ∧ ∀ z16 : Int32, z16 = sI σ12 (L 14) a1.toInt.toNat → jn (fun (K19 : Unit → HS → Prop) => jn (fun (K82 : Unit → HS → Prop) => ((z16.toInt = 0) → K82 () σ12) ∧ ((¬ z16.toInt = 0) → (0 ≤ a1.toInt ∧ a1.toInt < 9) ∧ ∀ z87 : Int32, z87 = sI σ12 (L 14) a1.toInt.toNat → ((¬ z87.toInt = (3 : Int32).toInt) → K19 () σ12) ∧ ((z87.toInt = (3 : Int32).toInt) → K82 () σ12))) (fun (x80 : Unit) (σ81 : HS) => (0 ≤ a1.toInt ∧ a1.toInt < 9) ∧ ∀ z85 : Int32, z85 = sI σ81 (L 20) a1.toInt.toNat → (0 ≤ z2.toInt ∧ z2.toInt < 160) ∧ ∀ σ86 : HS, σ86 = h_uI σ81 (L 6) z2.toInt.toNat z85 → K19 () σ86)) (fun (x17 : Unit) (σ18 : HS) => (0 ≤ a1.toInt ∧ a1.toInt < 9) ∧ ∀ z22 : Int32, z22 = sI σ18 (L 14) a1.toInt.toNat → jn (fun (K25 : Unit → HS → Prop) => ((¬ z22.toInt = (1 : Int32).toInt) → K25 () σ18) ∧ ((z22.toInt = (1 : Int32).toInt) → (0 ≤ z2.toInt ∧ z2.toInt < 160) ∧ ∀ z51 : Int32, z51 = sI σ18 (L 8) z2.toInt.toNat → (0 ≤ a1.toInt ∧ a1.toInt < 9) ∧ ∀ z52 : Int32, z52 = sI σ18 (L 22) a1.toInt.toNat → F_X12_zero h0 L z2 z51 z52 (fun (σ53 : HS) => lw (fun (K57 : Int32 → HS → Prop) (x55 : Int32) (σ56 : HS) => (0 ≤ a1.toInt ∧ a1.toInt < 9) ∧ ∀ z59 : Int32, z59 = sI σ56 (L 23) a1.toInt.toNat → ((z59.toInt ≤ x55.toInt) → (0 ≤ a1.toInt ∧ a1.toInt < 9) ∧ ∀ z60 : Int32, z60 = sI σ56 (L 22) a1.toInt.toNat → (0 ≤ a1.toInt ∧ a1.toInt < 9) ∧ ∀ z61 : Int32, z61 = sI σ56 (L 23) a1.toInt.toNat → ∀ z62 : Int32, z62 = z60 + z61 → (0 ≤ z2.toInt ∧ z2.toInt < 160) ∧ ∀ z63 : Int32, z63 = sI σ56 (L 8) z2.toInt.toNat → jn (fun (K66 : Int32 → HS → Prop) => ((z62.toInt ≤ z63.toInt) → (0 ≤ z2.toInt ∧ z2.toInt < 160) ∧ ∀ z70 : Int32, z70 = sI σ56 (L 8) z2.toInt.toNat → K66 z70 σ56) ∧ ((z63.toInt < z62.toInt) → K66 z62 σ56)) (fun (x64 : Int32) (σ65 : HS) => (0 ≤ z2.toInt ∧ z2.toInt < 160) ∧ ∀ σ69 : HS, σ69 = h_uI σ65 (L 8) z2.toInt.toNat x64 → K25 () σ69)) ∧ ((x55.toInt < z59.toInt) → ∀ z71 : Int32, z71 = 4096 * z2 → (0 ≤ a1.toInt ∧ a1.toInt < 9) ∧ ∀ z72 : Int32, z72 = sI σ56 (L 22) a1.toInt.toNat → ∀ z73 : Int32, z73 = z71 + z72 → ∀ z74 : Int32, z74 = z73 + x55 → ∀ z75 : Int32, z75 = 1024 * a1 → ∀ z76 : Int32, z76 = z75 + x55 → (0 ≤ z76.toInt ∧ z76.toInt < 9216) ∧ ∀ z77 : Int32, z77 = sI σ56 (L 24) z76.toInt.toNat → (0 ≤ z74.toInt ∧ z74.toInt < 655360) ∧ ∀ σ78 : HS, σ78 = h_uI σ56 (L 9) z74.toInt.toNat (vp_nar .byte z77) → ∀ z79 : Int32, z79 = x55 + 1 → K57 z79 σ78)) 0 σ53) σ18)) (fun (x23 : Unit) (σ24 : HS) => (0 ≤ a1.toInt ∧ a1.toInt < 9) ∧ ∀ z28 : Int32, z28 = sI σ24 (L 14) a1.toInt.toNat → jn (fun (K31 : Unit → HS → Prop) => ((¬ z28.toInt = (2 : Int32).toInt) → K31 () σ24) ∧ ((z28.toInt = (2 : Int32).toInt) → (0 ≤ z2.toInt ∧ z2.toInt < 160) ∧ ∀ z45 : Int32, z45 = sI σ24 (L 8) z2.toInt.toNat → (0 ≤ a1.toInt ∧ a1.toInt < 9) ∧ ∀ z46 : Int32, z46 = sI σ24 (L 22) a1.toInt.toNat → F_X12_zero h0 L z2 z45 z46 (fun (σ47 : HS) => (0 ≤ a1.toInt ∧ a1.toInt < 9) ∧ ∀ z49 : Int32, z49 = sI σ47 (L 22) a1.toInt.toNat → (0 ≤ z2.toInt ∧ z2.toInt < 160) ∧ ∀ σ50 : HS, σ50 = h_uI σ47 (L 8) z2.toInt.toNat z49 → K31 () σ50) σ24)) (fun (x29 : Unit) (σ30 : HS) => lw (fun (K36 : Int32 → HS → Prop) (x34 : Int32) (σ35 : HS) => (((4 : Int32).toInt ≤ x34.toInt) → post σ35) ∧ ((x34.toInt < (4 : Int32).toInt) → ∀ z38 : Int32, z38 = 4 * z2 → ∀ z39 : Int32, z39 = z38 + x34 → ∀ z40 : Int32, z40 = 4 * a1 → ∀ z41 : Int32, z41 = z40 + x34 → (0 ≤ z41.toInt ∧ z41.toInt < 36) ∧ ∀ z42 : Int64, z42 = sJ σ35 (L 21) z41.toInt.toNat → (0 ≤ z39.toInt ∧ z39.toInt < 640) ∧ ∀ σ43 : HS, σ43 = h_uJ σ35 (L 7) z39.toInt.toNat z42 → ∀ z44 : Int32, z44 = x34 + 1 → K36 z44 σ43)) 0 σ30)))))) ∧ ((z3.toInt = (5 : Int32).toInt) → (0 ≤ z2.toInt ∧ z2.toInt < 160) ∧ ∀ σ113 : HS, σ113 = h_uI σ (L 1) z2.toInt.toNat (vp_nar .boolean 0) → post σ113)
theorem dX12_apply_0 : decode cX12_apply 0 = .ok (.iload_n 2, 1) := by decide +kernel
theorem dX12_apply_1 : decode cX12_apply 1 = .ok (.aload_n 0, 1) := by decide +kernel
theorem dX12_apply_2 : decode cX12_apply 2 = .ok (.getfield 59, 3) := by decide +kernel
theorem dX12_apply_5 : decode cX12_apply 5 = .ok (.iload_n 1, 1) := by decide +kernel
theorem dX12_apply_6 : decode cX12_apply 6 = .ok (.iaload, 1) := by decide +kernel
theorem dX12_apply_7 : decode cX12_apply 7 = .ok (.iadd, 1) := by decide +kernel
theorem dX12_apply_8 : decode cX12_apply 8 = .ok (.istore_n 3, 1) := by decide +kernel
theorem dX12_apply_9 : decode cX12_apply 9 = .ok (.aload_n 0, 1) := by decide +kernel
theorem dX12_apply_10 : decode cX12_apply 10 = .ok (.getfield 56, 3) := by decide +kernel
theorem dX12_apply_13 : decode cX12_apply 13 = .ok (.iload_n 1, 1) := by decide +kernel
theorem dX12_apply_14 : decode cX12_apply 14 = .ok (.iaload, 1) := by decide +kernel
theorem dX12_apply_15 : decode cX12_apply 15 = .ok (.iconst 5, 1) := by decide +kernel
theorem dX12_apply_16 : decode cX12_apply 16 = .ok (.if_icmp .ne 11, 3) := by decide +kernel
theorem dX12_apply_19 : decode cX12_apply 19 = .ok (.aload_n 0, 1) := by decide +kernel
theorem dX12_apply_20 : decode cX12_apply 20 = .ok (.getfield 13, 3) := by decide +kernel
theorem dX12_apply_23 : decode cX12_apply 23 = .ok (.iload_n 3, 1) := by decide +kernel
theorem dX12_apply_24 : decode cX12_apply 24 = .ok (.iconst 0, 1) := by decide +kernel
theorem dX12_apply_25 : decode cX12_apply 25 = .ok (.bastore, 1) := by decide +kernel
theorem dX12_apply_26 : decode cX12_apply 26 = .ok (.return_, 1) := by decide +kernel
theorem dX12_apply_27 : decode cX12_apply 27 = .ok (.aload_n 0, 1) := by decide +kernel
theorem dX12_apply_28 : decode cX12_apply 28 = .ok (.getfield 56, 3) := by decide +kernel
theorem dX12_apply_31 : decode cX12_apply 31 = .ok (.iload_n 1, 1) := by decide +kernel
theorem dX12_apply_32 : decode cX12_apply 32 = .ok (.iaload, 1) := by decide +kernel
theorem dX12_apply_33 : decode cX12_apply 33 = .ok (.ifCond .ne 29, 3) := by decide +kernel
theorem dX12_apply_36 : decode cX12_apply 36 = .ok (.aload_n 0, 1) := by decide +kernel
theorem dX12_apply_37 : decode cX12_apply 37 = .ok (.getfield 13, 3) := by decide +kernel
theorem dX12_apply_40 : decode cX12_apply 40 = .ok (.iload_n 3, 1) := by decide +kernel
theorem dX12_apply_41 : decode cX12_apply 41 = .ok (.iconst 1, 1) := by decide +kernel
theorem dX12_apply_42 : decode cX12_apply 42 = .ok (.bastore, 1) := by decide +kernel
theorem dX12_apply_43 : decode cX12_apply 43 = .ok (.aload_n 0, 1) := by decide +kernel
theorem dX12_apply_44 : decode cX12_apply 44 = .ok (.getfield 21, 3) := by decide +kernel
theorem dX12_apply_47 : decode cX12_apply 47 = .ok (.iload_n 3, 1) := by decide +kernel
theorem dX12_apply_48 : decode cX12_apply 48 = .ok (.aload_n 0, 1) := by decide +kernel
theorem dX12_apply_49 : decode cX12_apply 49 = .ok (.getfield 65, 3) := by decide +kernel
theorem dX12_apply_52 : decode cX12_apply 52 = .ok (.iload_n 1, 1) := by decide +kernel
theorem dX12_apply_53 : decode cX12_apply 53 = .ok (.baload, 1) := by decide +kernel
theorem dX12_apply_54 : decode cX12_apply 54 = .ok (.bastore, 1) := by decide +kernel
theorem dX12_apply_55 : decode cX12_apply 55 = .ok (.aload_n 0, 1) := by decide +kernel
theorem dX12_apply_56 : decode cX12_apply 56 = .ok (.getfield 37, 3) := by decide +kernel
theorem dX12_apply_59 : decode cX12_apply 59 = .ok (.iload_n 3, 1) := by decide +kernel
theorem dX12_apply_60 : decode cX12_apply 60 = .ok (.iconst 0, 1) := by decide +kernel
theorem dX12_apply_61 : decode cX12_apply 61 = .ok (.iastore, 1) := by decide +kernel
theorem dX12_apply_62 : decode cX12_apply 62 = .ok (.aload_n 0, 1) := by decide +kernel
theorem dX12_apply_63 : decode cX12_apply 63 = .ok (.getfield 56, 3) := by decide +kernel
theorem dX12_apply_66 : decode cX12_apply 66 = .ok (.iload_n 1, 1) := by decide +kernel
theorem dX12_apply_67 : decode cX12_apply 67 = .ok (.iaload, 1) := by decide +kernel
theorem dX12_apply_68 : decode cX12_apply 68 = .ok (.ifCond .eq 13, 3) := by decide +kernel
theorem dX12_apply_71 : decode cX12_apply 71 = .ok (.aload_n 0, 1) := by decide +kernel
theorem dX12_apply_72 : decode cX12_apply 72 = .ok (.getfield 56, 3) := by decide +kernel
theorem dX12_apply_75 : decode cX12_apply 75 = .ok (.iload_n 1, 1) := by decide +kernel
theorem dX12_apply_76 : decode cX12_apply 76 = .ok (.iaload, 1) := by decide +kernel
theorem dX12_apply_77 : decode cX12_apply 77 = .ok (.iconst 4, 1) := by decide +kernel
theorem dX12_apply_78 : decode cX12_apply 78 = .ok (.if_icmp .ne 67, 3) := by decide +kernel
theorem dX12_apply_81 : decode cX12_apply 81 = .ok (.aload_n 0, 1) := by decide +kernel
theorem dX12_apply_82 : decode cX12_apply 82 = .ok (.getfield 17, 3) := by decide +kernel
theorem dX12_apply_85 : decode cX12_apply 85 = .ok (.iload_n 3, 1) := by decide +kernel
theorem dX12_apply_86 : decode cX12_apply 86 = .ok (.aload_n 0, 1) := by decide +kernel
theorem dX12_apply_87 : decode cX12_apply 87 = .ok (.getfield 62, 3) := by decide +kernel
theorem dX12_apply_90 : decode cX12_apply 90 = .ok (.iload_n 1, 1) := by decide +kernel
theorem dX12_apply_91 : decode cX12_apply 91 = .ok (.iaload, 1) := by decide +kernel
theorem dX12_apply_92 : decode cX12_apply 92 = .ok (.iastore, 1) := by decide +kernel
theorem dX12_apply_93 : decode cX12_apply 93 = .ok (.aload_n 0, 1) := by decide +kernel
theorem dX12_apply_94 : decode cX12_apply 94 = .ok (.getfield 27, 3) := by decide +kernel
theorem dX12_apply_97 : decode cX12_apply 97 = .ok (.iload_n 3, 1) := by decide +kernel
theorem dX12_apply_98 : decode cX12_apply 98 = .ok (.aload_n 0, 1) := by decide +kernel
theorem dX12_apply_99 : decode cX12_apply 99 = .ok (.getfield 71, 3) := by decide +kernel
theorem dX12_apply_102 : decode cX12_apply 102 = .ok (.iload_n 1, 1) := by decide +kernel
theorem dX12_apply_103 : decode cX12_apply 103 = .ok (.iaload, 1) := by decide +kernel
theorem dX12_apply_104 : decode cX12_apply 104 = .ok (.iastore, 1) := by decide +kernel
theorem dX12_apply_105 : decode cX12_apply 105 = .ok (.iconst 0, 1) := by decide +kernel
theorem dX12_apply_106 : decode cX12_apply 106 = .ok (.istore 4, 2) := by decide +kernel
theorem dX12_apply_108 : decode cX12_apply 108 = .ok (.iload 4, 2) := by decide +kernel
theorem dX12_apply_110 : decode cX12_apply 110 = .ok (.bipush 12, 2) := by decide +kernel
theorem dX12_apply_112 : decode cX12_apply 112 = .ok (.if_icmp .ge 33, 3) := by decide +kernel
theorem dX12_apply_115 : decode cX12_apply 115 = .ok (.aload_n 0, 1) := by decide +kernel
theorem dX12_apply_116 : decode cX12_apply 116 = .ok (.getfield 24, 3) := by decide +kernel
theorem dX12_apply_119 : decode cX12_apply 119 = .ok (.bipush 12, 2) := by decide +kernel
theorem dX12_apply_121 : decode cX12_apply 121 = .ok (.iload_n 3, 1) := by decide +kernel
theorem dX12_apply_122 : decode cX12_apply 122 = .ok (.imul, 1) := by decide +kernel
theorem dX12_apply_123 : decode cX12_apply 123 = .ok (.iload 4, 2) := by decide +kernel
theorem dX12_apply_125 : decode cX12_apply 125 = .ok (.iadd, 1) := by decide +kernel
theorem dX12_apply_126 : decode cX12_apply 126 = .ok (.aload_n 0, 1) := by decide +kernel
theorem dX12_apply_127 : decode cX12_apply 127 = .ok (.getfield 68, 3) := by decide +kernel
theorem dX12_apply_130 : decode cX12_apply 130 = .ok (.bipush 12, 2) := by decide +kernel
theorem dX12_apply_132 : decode cX12_apply 132 = .ok (.iload_n 1, 1) := by decide +kernel
theorem dX12_apply_133 : decode cX12_apply 133 = .ok (.imul, 1) := by decide +kernel
theorem dX12_apply_134 : decode cX12_apply 134 = .ok (.iload 4, 2) := by decide +kernel
theorem dX12_apply_136 : decode cX12_apply 136 = .ok (.iadd, 1) := by decide +kernel
theorem dX12_apply_137 : decode cX12_apply 137 = .ok (.baload, 1) := by decide +kernel
theorem dX12_apply_138 : decode cX12_apply 138 = .ok (.bastore, 1) := by decide +kernel
theorem dX12_apply_139 : decode cX12_apply 139 = .ok (.iinc 4 1, 3) := by decide +kernel
theorem dX12_apply_142 : decode cX12_apply 142 = .ok (.goto (-34), 3) := by decide +kernel
theorem dX12_apply_145 : decode cX12_apply 145 = .ok (.aload_n 0, 1) := by decide +kernel
theorem dX12_apply_146 : decode cX12_apply 146 = .ok (.getfield 56, 3) := by decide +kernel
theorem dX12_apply_149 : decode cX12_apply 149 = .ok (.iload_n 1, 1) := by decide +kernel
theorem dX12_apply_150 : decode cX12_apply 150 = .ok (.iaload, 1) := by decide +kernel
theorem dX12_apply_151 : decode cX12_apply 151 = .ok (.ifCond .eq 13, 3) := by decide +kernel
theorem dX12_apply_154 : decode cX12_apply 154 = .ok (.aload_n 0, 1) := by decide +kernel
theorem dX12_apply_155 : decode cX12_apply 155 = .ok (.getfield 56, 3) := by decide +kernel
theorem dX12_apply_158 : decode cX12_apply 158 = .ok (.iload_n 1, 1) := by decide +kernel
theorem dX12_apply_159 : decode cX12_apply 159 = .ok (.iaload, 1) := by decide +kernel
theorem dX12_apply_160 : decode cX12_apply 160 = .ok (.iconst 3, 1) := by decide +kernel
theorem dX12_apply_161 : decode cX12_apply 161 = .ok (.if_icmp .ne 15, 3) := by decide +kernel
theorem dX12_apply_164 : decode cX12_apply 164 = .ok (.aload_n 0, 1) := by decide +kernel
theorem dX12_apply_165 : decode cX12_apply 165 = .ok (.getfield 30, 3) := by decide +kernel
theorem dX12_apply_168 : decode cX12_apply 168 = .ok (.iload_n 3, 1) := by decide +kernel
theorem dX12_apply_169 : decode cX12_apply 169 = .ok (.aload_n 0, 1) := by decide +kernel
theorem dX12_apply_170 : decode cX12_apply 170 = .ok (.getfield 74, 3) := by decide +kernel
theorem dX12_apply_173 : decode cX12_apply 173 = .ok (.iload_n 1, 1) := by decide +kernel
theorem dX12_apply_174 : decode cX12_apply 174 = .ok (.iaload, 1) := by decide +kernel
theorem dX12_apply_175 : decode cX12_apply 175 = .ok (.iastore, 1) := by decide +kernel
theorem dX12_apply_176 : decode cX12_apply 176 = .ok (.aload_n 0, 1) := by decide +kernel
theorem dX12_apply_177 : decode cX12_apply 177 = .ok (.getfield 56, 3) := by decide +kernel
theorem dX12_apply_180 : decode cX12_apply 180 = .ok (.iload_n 1, 1) := by decide +kernel
theorem dX12_apply_181 : decode cX12_apply 181 = .ok (.iaload, 1) := by decide +kernel
theorem dX12_apply_182 : decode cX12_apply 182 = .ok (.iconst 1, 1) := by decide +kernel
theorem dX12_apply_183 : decode cX12_apply 183 = .ok (.if_icmp .ne 116, 3) := by decide +kernel
theorem dX12_apply_186 : decode cX12_apply 186 = .ok (.aload_n 0, 1) := by decide +kernel
theorem dX12_apply_187 : decode cX12_apply 187 = .ok (.iload_n 3, 1) := by decide +kernel
theorem dX12_apply_188 : decode cX12_apply 188 = .ok (.aload_n 0, 1) := by decide +kernel
theorem dX12_apply_189 : decode cX12_apply 189 = .ok (.getfield 37, 3) := by decide +kernel
theorem dX12_apply_192 : decode cX12_apply 192 = .ok (.iload_n 3, 1) := by decide +kernel
theorem dX12_apply_193 : decode cX12_apply 193 = .ok (.iaload, 1) := by decide +kernel
theorem dX12_apply_194 : decode cX12_apply 194 = .ok (.aload_n 0, 1) := by decide +kernel
theorem dX12_apply_195 : decode cX12_apply 195 = .ok (.getfield 80, 3) := by decide +kernel
theorem dX12_apply_198 : decode cX12_apply 198 = .ok (.iload_n 1, 1) := by decide +kernel
theorem dX12_apply_199 : decode cX12_apply 199 = .ok (.iaload, 1) := by decide +kernel
theorem dX12_apply_200 : decode cX12_apply 200 = .ok (.invokevirtual 285, 3) := by decide +kernel
theorem dX12_apply_203 : decode cX12_apply 203 = .ok (.iconst 0, 1) := by decide +kernel
theorem dX12_apply_204 : decode cX12_apply 204 = .ok (.istore 4, 2) := by decide +kernel
theorem dX12_apply_206 : decode cX12_apply 206 = .ok (.iload 4, 2) := by decide +kernel
theorem dX12_apply_208 : decode cX12_apply 208 = .ok (.aload_n 0, 1) := by decide +kernel
theorem dX12_apply_209 : decode cX12_apply 209 = .ok (.getfield 83, 3) := by decide +kernel
theorem dX12_apply_212 : decode cX12_apply 212 = .ok (.iload_n 1, 1) := by decide +kernel
theorem dX12_apply_213 : decode cX12_apply 213 = .ok (.iaload, 1) := by decide +kernel
theorem dX12_apply_214 : decode cX12_apply 214 = .ok (.if_icmp .ge 42, 3) := by decide +kernel
theorem dX12_apply_217 : decode cX12_apply 217 = .ok (.aload_n 0, 1) := by decide +kernel
theorem dX12_apply_218 : decode cX12_apply 218 = .ok (.getfield 41, 3) := by decide +kernel
theorem dX12_apply_221 : decode cX12_apply 221 = .ok (.sipush 4096, 3) := by decide +kernel
theorem dX12_apply_224 : decode cX12_apply 224 = .ok (.iload_n 3, 1) := by decide +kernel
theorem dX12_apply_225 : decode cX12_apply 225 = .ok (.imul, 1) := by decide +kernel
theorem dX12_apply_226 : decode cX12_apply 226 = .ok (.aload_n 0, 1) := by decide +kernel
theorem dX12_apply_227 : decode cX12_apply 227 = .ok (.getfield 80, 3) := by decide +kernel
theorem dX12_apply_230 : decode cX12_apply 230 = .ok (.iload_n 1, 1) := by decide +kernel
theorem dX12_apply_231 : decode cX12_apply 231 = .ok (.iaload, 1) := by decide +kernel
theorem dX12_apply_232 : decode cX12_apply 232 = .ok (.iadd, 1) := by decide +kernel
theorem dX12_apply_233 : decode cX12_apply 233 = .ok (.iload 4, 2) := by decide +kernel
theorem dX12_apply_235 : decode cX12_apply 235 = .ok (.iadd, 1) := by decide +kernel
theorem dX12_apply_236 : decode cX12_apply 236 = .ok (.aload_n 0, 1) := by decide +kernel
theorem dX12_apply_237 : decode cX12_apply 237 = .ok (.getfield 86, 3) := by decide +kernel
theorem dX12_apply_240 : decode cX12_apply 240 = .ok (.sipush 1024, 3) := by decide +kernel
theorem dX12_apply_243 : decode cX12_apply 243 = .ok (.iload_n 1, 1) := by decide +kernel
theorem dX12_apply_244 : decode cX12_apply 244 = .ok (.imul, 1) := by decide +kernel
theorem dX12_apply_245 : decode cX12_apply 245 = .ok (.iload 4, 2) := by decide +kernel
theorem dX12_apply_247 : decode cX12_apply 247 = .ok (.iadd, 1) := by decide +kernel
theorem dX12_apply_248 : decode cX12_apply 248 = .ok (.baload, 1) := by decide +kernel
theorem dX12_apply_249 : decode cX12_apply 249 = .ok (.bastore, 1) := by decide +kernel
theorem dX12_apply_250 : decode cX12_apply 250 = .ok (.iinc 4 1, 3) := by decide +kernel
theorem dX12_apply_253 : decode cX12_apply 253 = .ok (.goto (-47), 3) := by decide +kernel
theorem dX12_apply_256 : decode cX12_apply 256 = .ok (.aload_n 0, 1) := by decide +kernel
theorem dX12_apply_257 : decode cX12_apply 257 = .ok (.getfield 80, 3) := by decide +kernel
theorem dX12_apply_260 : decode cX12_apply 260 = .ok (.iload_n 1, 1) := by decide +kernel
theorem dX12_apply_261 : decode cX12_apply 261 = .ok (.iaload, 1) := by decide +kernel
theorem dX12_apply_262 : decode cX12_apply 262 = .ok (.aload_n 0, 1) := by decide +kernel
theorem dX12_apply_263 : decode cX12_apply 263 = .ok (.getfield 83, 3) := by decide +kernel
theorem dX12_apply_266 : decode cX12_apply 266 = .ok (.iload_n 1, 1) := by decide +kernel
theorem dX12_apply_267 : decode cX12_apply 267 = .ok (.iaload, 1) := by decide +kernel
theorem dX12_apply_268 : decode cX12_apply 268 = .ok (.iadd, 1) := by decide +kernel
theorem dX12_apply_269 : decode cX12_apply 269 = .ok (.istore 4, 2) := by decide +kernel
theorem dX12_apply_271 : decode cX12_apply 271 = .ok (.aload_n 0, 1) := by decide +kernel
theorem dX12_apply_272 : decode cX12_apply 272 = .ok (.getfield 37, 3) := by decide +kernel
theorem dX12_apply_275 : decode cX12_apply 275 = .ok (.iload_n 3, 1) := by decide +kernel
theorem dX12_apply_276 : decode cX12_apply 276 = .ok (.aload_n 0, 1) := by decide +kernel
theorem dX12_apply_277 : decode cX12_apply 277 = .ok (.getfield 37, 3) := by decide +kernel
theorem dX12_apply_280 : decode cX12_apply 280 = .ok (.iload_n 3, 1) := by decide +kernel
theorem dX12_apply_281 : decode cX12_apply 281 = .ok (.iaload, 1) := by decide +kernel
theorem dX12_apply_282 : decode cX12_apply 282 = .ok (.iload 4, 2) := by decide +kernel
theorem dX12_apply_284 : decode cX12_apply 284 = .ok (.if_icmp .ge 8, 3) := by decide +kernel
theorem dX12_apply_287 : decode cX12_apply 287 = .ok (.iload 4, 2) := by decide +kernel
theorem dX12_apply_289 : decode cX12_apply 289 = .ok (.goto 9, 3) := by decide +kernel
theorem dX12_apply_292 : decode cX12_apply 292 = .ok (.aload_n 0, 1) := by decide +kernel
theorem dX12_apply_293 : decode cX12_apply 293 = .ok (.getfield 37, 3) := by decide +kernel
theorem dX12_apply_296 : decode cX12_apply 296 = .ok (.iload_n 3, 1) := by decide +kernel
theorem dX12_apply_297 : decode cX12_apply 297 = .ok (.iaload, 1) := by decide +kernel
theorem dX12_apply_298 : decode cX12_apply 298 = .ok (.iastore, 1) := by decide +kernel
theorem dX12_apply_299 : decode cX12_apply 299 = .ok (.aload_n 0, 1) := by decide +kernel
theorem dX12_apply_300 : decode cX12_apply 300 = .ok (.getfield 56, 3) := by decide +kernel
theorem dX12_apply_303 : decode cX12_apply 303 = .ok (.iload_n 1, 1) := by decide +kernel
theorem dX12_apply_304 : decode cX12_apply 304 = .ok (.iaload, 1) := by decide +kernel
theorem dX12_apply_305 : decode cX12_apply 305 = .ok (.iconst 2, 1) := by decide +kernel
theorem dX12_apply_306 : decode cX12_apply 306 = .ok (.if_icmp .ne 32, 3) := by decide +kernel
theorem dX12_apply_309 : decode cX12_apply 309 = .ok (.aload_n 0, 1) := by decide +kernel
theorem dX12_apply_310 : decode cX12_apply 310 = .ok (.iload_n 3, 1) := by decide +kernel
theorem dX12_apply_311 : decode cX12_apply 311 = .ok (.aload_n 0, 1) := by decide +kernel
theorem dX12_apply_312 : decode cX12_apply 312 = .ok (.getfield 37, 3) := by decide +kernel
theorem dX12_apply_315 : decode cX12_apply 315 = .ok (.iload_n 3, 1) := by decide +kernel
theorem dX12_apply_316 : decode cX12_apply 316 = .ok (.iaload, 1) := by decide +kernel
theorem dX12_apply_317 : decode cX12_apply 317 = .ok (.aload_n 0, 1) := by decide +kernel
theorem dX12_apply_318 : decode cX12_apply 318 = .ok (.getfield 80, 3) := by decide +kernel
theorem dX12_apply_321 : decode cX12_apply 321 = .ok (.iload_n 1, 1) := by decide +kernel
theorem dX12_apply_322 : decode cX12_apply 322 = .ok (.iaload, 1) := by decide +kernel
theorem dX12_apply_323 : decode cX12_apply 323 = .ok (.invokevirtual 285, 3) := by decide +kernel
theorem dX12_apply_326 : decode cX12_apply 326 = .ok (.aload_n 0, 1) := by decide +kernel
theorem dX12_apply_327 : decode cX12_apply 327 = .ok (.getfield 37, 3) := by decide +kernel
theorem dX12_apply_330 : decode cX12_apply 330 = .ok (.iload_n 3, 1) := by decide +kernel
theorem dX12_apply_331 : decode cX12_apply 331 = .ok (.aload_n 0, 1) := by decide +kernel
theorem dX12_apply_332 : decode cX12_apply 332 = .ok (.getfield 80, 3) := by decide +kernel
theorem dX12_apply_335 : decode cX12_apply 335 = .ok (.iload_n 1, 1) := by decide +kernel
theorem dX12_apply_336 : decode cX12_apply 336 = .ok (.iaload, 1) := by decide +kernel
theorem dX12_apply_337 : decode cX12_apply 337 = .ok (.iastore, 1) := by decide +kernel
theorem dX12_apply_338 : decode cX12_apply 338 = .ok (.iconst 0, 1) := by decide +kernel
theorem dX12_apply_339 : decode cX12_apply 339 = .ok (.istore 4, 2) := by decide +kernel
theorem dX12_apply_341 : decode cX12_apply 341 = .ok (.iload 4, 2) := by decide +kernel
theorem dX12_apply_343 : decode cX12_apply 343 = .ok (.iconst 4, 1) := by decide +kernel
theorem dX12_apply_344 : decode cX12_apply 344 = .ok (.if_icmp .ge 31, 3) := by decide +kernel
theorem dX12_apply_347 : decode cX12_apply 347 = .ok (.aload_n 0, 1) := by decide +kernel
theorem dX12_apply_348 : decode cX12_apply 348 = .ok (.getfield 33, 3) := by decide +kernel
theorem dX12_apply_351 : decode cX12_apply 351 = .ok (.iconst 4, 1) := by decide +kernel
theorem dX12_apply_352 : decode cX12_apply 352 = .ok (.iload_n 3, 1) := by decide +kernel
theorem dX12_apply_353 : decode cX12_apply 353 = .ok (.imul, 1) := by decide +kernel
theorem dX12_apply_354 : decode cX12_apply 354 = .ok (.iload 4, 2) := by decide +kernel
theorem dX12_apply_356 : decode cX12_apply 356 = .ok (.iadd, 1) := by decide +kernel
theorem dX12_apply_357 : decode cX12_apply 357 = .ok (.aload_n 0, 1) := by decide +kernel
theorem dX12_apply_358 : decode cX12_apply 358 = .ok (.getfield 77, 3) := by decide +kernel
theorem dX12_apply_361 : decode cX12_apply 361 = .ok (.iconst 4, 1) := by decide +kernel
theorem dX12_apply_362 : decode cX12_apply 362 = .ok (.iload_n 1, 1) := by decide +kernel
theorem dX12_apply_363 : decode cX12_apply 363 = .ok (.imul, 1) := by decide +kernel
theorem dX12_apply_364 : decode cX12_apply 364 = .ok (.iload 4, 2) := by decide +kernel
theorem dX12_apply_366 : decode cX12_apply 366 = .ok (.iadd, 1) := by decide +kernel
theorem dX12_apply_367 : decode cX12_apply 367 = .ok (.laload, 1) := by decide +kernel
theorem dX12_apply_368 : decode cX12_apply 368 = .ok (.lastore, 1) := by decide +kernel
theorem dX12_apply_369 : decode cX12_apply 369 = .ok (.iinc 4 1, 3) := by decide +kernel
theorem dX12_apply_372 : decode cX12_apply 372 = .ok (.goto (-31), 3) := by decide +kernel
theorem dX12_apply_375 : decode cX12_apply 375 = .ok (.return_, 1) := by decide +kernel
set_option maxRecDepth 100000 in
set_option maxHeartbeats 4000000 in
theorem c_X12_apply (l : Launch) (D : va_G) (t : Nat → ClassId) (h0 : Nat) (L : Nat → Nat) (σ : HS) (hM : MdI h0 L σ) (a1 : Int32) (a2 : Int32) (post : HS → Prop) (hw : F_X12_apply h0 L a1 a2 post σ) (sz : Nat) : RMv l D t yX12_apply cX12_apply 5 ({ frames := 1, cells := 0, slots := 0, locals := 24 }) h0 L σ sz [.ref h0, .int a1, .int a2] post := by
  refine h_go (τ := τT) okT (by decide) (Nat.le_of_ble_eq_true rfl) ?_
  intro p e s m below meth c ls A hF hr hlk hAe hH0 hA hl
  unfold hB
  rw [hAe]
  clear hAe
  have hF : FX p m c cX12_apply 5 s _ RX12 D t := hF
  have hx := hF.1.1
  have hb := hF.1.2.1
  have hH : RT D t A s.heap h0 L σ s.heap [] := ⟨hH0, hM⟩
  have hl : lv_has ls 5 [(0, .ref h0), (1, .int a1), (2, .int a2)] := hl
  unfold F_X12_apply at hw
  refine lv_iload_n hx hb dX12_apply_0 rfl (lv_at hl 2 rfl) ?_
  refine lv_aload_n hx hb dX12_apply_1 rfl (lv_at hl 0 rfl) ?_
  refine w_getA 15 hF hH fk_X12_59 dX12_apply_2 (by decide) rfl ?_
  refine lv_iload_n hx hb dX12_apply_5 rfl (lv_at hl 1 rfl) ?_
  refine w_iald 15 9 hF hH dX12_apply_6 (by decide) rfl rfl hw (fun z1 hw => ?_)
  refine lv_iadd hx hb dX12_apply_7 ?_
  refine w_nmi hw (fun z2 hw => ?_)
  refine lv_istore_n (lv' := [(3, .int z2), (0, .ref h0), (1, .int a1), (2, .int a2)]) hx hb dX12_apply_8 rfl hl (by decide) rfl (fun ls hl => ?_)
  refine lv_aload_n hx hb dX12_apply_9 rfl (lv_at hl 1 rfl) ?_
  refine w_getA 14 hF hH fk_X12_56 dX12_apply_10 (by decide) rfl ?_
  refine lv_iload_n hx hb dX12_apply_13 rfl (lv_at hl 2 rfl) ?_
  refine w_iald 14 9 hF hH dX12_apply_14 (by decide) rfl rfl hw (fun z3 hw => ?_)
  refine lv_iconst (v := 5) hx hb dX12_apply_15 (by decide) ?_
  refine w_icmp_ne (tgt := 27) hF dX12_apply_16 rfl hw (fun hw => ?_) (fun hw => ?_)
  · refine lv_aload_n hx hb dX12_apply_27 rfl (lv_at hl 1 rfl) ?_
    refine w_getA 14 hF hH fk_X12_56 dX12_apply_28 (by decide) rfl ?_
    refine lv_iload_n hx hb dX12_apply_31 rfl (lv_at hl 2 rfl) ?_
    refine w_iald 14 9 hF hH dX12_apply_32 (by decide) rfl rfl hw (fun z4 hw => ?_)
    obtain ⟨K7, hK8, hw⟩ := jn_open hw
    refine w_join (K := K7) 62 (fun (x5 : Unit) => [(3, .int z2), (1, .int a1), (0, .ref h0)]) (fun (x5 : Unit) => []) hl hH (fun x5 σ6 ls H locs hl hw hH => ?_) (fun jn9 => ?_)
    · have hw := hK8 x5 σ6 hw
      have hl : lv_has ls 5 [(3, .int z2), (1, .int a1), (0, .ref h0)] := hl
      refine lv_aload_n hx hb dX12_apply_62 rfl (lv_at hl 2 rfl) ?_
      refine w_getA 14 hF hH fk_X12_56 dX12_apply_63 (by decide) rfl ?_
      refine lv_iload_n hx hb dX12_apply_66 rfl (lv_at hl 1 rfl) ?_
      refine w_iald 14 9 hF hH dX12_apply_67 (by decide) rfl rfl hw (fun z10 hw => ?_)
      obtain ⟨K13, hK14, hw⟩ := jn_open hw
      refine w_join (K := K13) 145 (fun (x11 : Unit) => [(3, .int z2), (1, .int a1), (0, .ref h0)]) (fun (x11 : Unit) => []) hl hH (fun x11 σ12 ls H locs hl hw hH => ?_) (fun jn15 => ?_)
      · have hw := hK14 x11 σ12 hw
        have hl : lv_has ls 5 [(3, .int z2), (1, .int a1), (0, .ref h0)] := hl
        refine lv_aload_n hx hb dX12_apply_145 rfl (lv_at hl 2 rfl) ?_
        refine w_getA 14 hF hH fk_X12_56 dX12_apply_146 (by decide) rfl ?_
        refine lv_iload_n hx hb dX12_apply_149 rfl (lv_at hl 1 rfl) ?_
        refine w_iald 14 9 hF hH dX12_apply_150 (by decide) rfl rfl hw (fun z16 hw => ?_)
        obtain ⟨K19, hK20, hw⟩ := jn_open hw
        refine w_join (K := K19) 176 (fun (x17 : Unit) => [(3, .int z2), (1, .int a1), (0, .ref h0)]) (fun (x17 : Unit) => []) hl hH (fun x17 σ18 ls H locs hl hw hH => ?_) (fun jn21 => ?_)
        · have hw := hK20 x17 σ18 hw
          have hl : lv_has ls 5 [(3, .int z2), (1, .int a1), (0, .ref h0)] := hl
          refine lv_aload_n hx hb dX12_apply_176 rfl (lv_at hl 2 rfl) ?_
          refine w_getA 14 hF hH fk_X12_56 dX12_apply_177 (by decide) rfl ?_
          refine lv_iload_n hx hb dX12_apply_180 rfl (lv_at hl 1 rfl) ?_
          refine w_iald 14 9 hF hH dX12_apply_181 (by decide) rfl rfl hw (fun z22 hw => ?_)
          refine lv_iconst (v := 1) hx hb dX12_apply_182 (by decide) ?_
          obtain ⟨K25, hK26, hw⟩ := jn_open hw
          refine w_join (K := K25) 299 (fun (x23 : Unit) => [(3, .int z2), (1, .int a1), (0, .ref h0)]) (fun (x23 : Unit) => []) hl hH (fun x23 σ24 ls H locs hl hw hH => ?_) (fun jn27 => ?_)
          · have hw := hK26 x23 σ24 hw
            have hl : lv_has ls 5 [(3, .int z2), (1, .int a1), (0, .ref h0)] := hl
            refine lv_aload_n hx hb dX12_apply_299 rfl (lv_at hl 2 rfl) ?_
            refine w_getA 14 hF hH fk_X12_56 dX12_apply_300 (by decide) rfl ?_
            refine lv_iload_n hx hb dX12_apply_303 rfl (lv_at hl 1 rfl) ?_
            refine w_iald 14 9 hF hH dX12_apply_304 (by decide) rfl rfl hw (fun z28 hw => ?_)
            refine lv_iconst (v := 2) hx hb dX12_apply_305 (by decide) ?_
            obtain ⟨K31, hK32, hw⟩ := jn_open hw
            refine w_join (K := K31) 338 (fun (x29 : Unit) => [(3, .int z2), (1, .int a1), (0, .ref h0)]) (fun (x29 : Unit) => []) hl hH (fun x29 σ30 ls H locs hl hw hH => ?_) (fun jn33 => ?_)
            · have hw := hK32 x29 σ30 hw
              have hl : lv_has ls 5 [(3, .int z2), (1, .int a1), (0, .ref h0)] := hl
              refine lv_iconst (v := 0) hx hb dX12_apply_338 (by decide) ?_
              refine lv_istore (lv' := [(4, .int 0), (3, .int z2), (1, .int a1), (0, .ref h0)]) hx hb dX12_apply_339 hl (by decide) rfl (fun ls hl => ?_)
              refine w_loop (β := Int32) (fun x34 => [(4, .int x34), (3, .int z2), (1, .int a1), (0, .ref h0)]) 0 hl hw hH (fun K36 x34 σ35 ls H locs hl hw hH ih37 => ?_)
              have hl : lv_has ls 5 [(4, .int x34), (3, .int z2), (1, .int a1), (0, .ref h0)] := hl
              refine lv_iload hx hb dX12_apply_341 (lv_at hl 0 rfl) ?_
              refine lv_iconst (v := 4) hx hb dX12_apply_343 (by decide) ?_
              refine w_icmp_ge (tgt := 375) hF dX12_apply_344 rfl hw (fun hw => ?_) (fun hw => ?_)
              · exact w_retv hF hH hr hlk dX12_apply_375 hw
              · refine lv_aload_n hx hb dX12_apply_347 rfl (lv_at hl 3 rfl) ?_
                refine w_getA 7 hF hH fk_X12_33 dX12_apply_348 (by decide) rfl ?_
                refine lv_iconst (v := 4) hx hb dX12_apply_351 (by decide) ?_
                refine lv_iload_n hx hb dX12_apply_352 rfl (lv_at hl 1 rfl) ?_
                refine lv_imul hx hb dX12_apply_353 ?_
                refine w_nmi hw (fun z38 hw => ?_)
                refine lv_iload hx hb dX12_apply_354 (lv_at hl 0 rfl) ?_
                refine lv_iadd hx hb dX12_apply_356 ?_
                refine w_nmi hw (fun z39 hw => ?_)
                refine lv_aload_n hx hb dX12_apply_357 rfl (lv_at hl 3 rfl) ?_
                refine w_getA 21 hF hH fk_X12_77 dX12_apply_358 (by decide) rfl ?_
                refine lv_iconst (v := 4) hx hb dX12_apply_361 (by decide) ?_
                refine lv_iload_n hx hb dX12_apply_362 rfl (lv_at hl 2 rfl) ?_
                refine lv_imul hx hb dX12_apply_363 ?_
                refine w_nmi hw (fun z40 hw => ?_)
                refine lv_iload hx hb dX12_apply_364 (lv_at hl 0 rfl) ?_
                refine lv_iadd hx hb dX12_apply_366 ?_
                refine w_nmi hw (fun z41 hw => ?_)
                refine w_lald 21 36 hF hH dX12_apply_367 (by decide) rfl rfl hw (fun z42 hw => ?_)
                refine w_last 7 640 hF hH dX12_apply_368 (by decide) rfl rfl hw (fun σ43 H locs hw hH => ?_)
                obtain ⟨z44, ez44⟩ : ∃ z : Int32, z = x34 + 1 := ⟨_, rfl⟩
                have hw := hw z44 ez44
                refine lv_iinc (lv' := [(4, .int z44), (3, .int z2), (1, .int a1), (0, .ref h0)]) (k := 0) (v := z44) hx hb dX12_apply_369 hl rfl ez44.symm (by decide) rfl (fun ls hl => ?_)
                refine lv_goto (tgt := 341) hx hb dX12_apply_372 rfl ?_
                exact ih37 z44 σ43 ls _ _ hl hw hH
            · skip
              refine w_icmp_ne (tgt := 338) hF dX12_apply_306 rfl hw (fun hw => ?_) (fun hw => ?_)
              · exact jn33 () σ24 ls _ _ hl hw hH
              · refine lv_aload_n hx hb dX12_apply_309 rfl (lv_at hl 2 rfl) ?_
                refine lv_iload_n hx hb dX12_apply_310 rfl (lv_at hl 0 rfl) ?_
                refine lv_aload_n hx hb dX12_apply_311 rfl (lv_at hl 2 rfl) ?_
                refine w_getA 8 hF hH fk_X12_37 dX12_apply_312 (by decide) rfl ?_
                refine lv_iload_n hx hb dX12_apply_315 rfl (lv_at hl 0 rfl) ?_
                refine w_iald 8 160 hF hH dX12_apply_316 (by decide) rfl rfl hw (fun z45 hw => ?_)
                refine lv_aload_n hx hb dX12_apply_317 rfl (lv_at hl 2 rfl) ?_
                refine w_getA 22 hF hH fk_X12_80 dX12_apply_318 (by decide) rfl ?_
                refine lv_iload_n hx hb dX12_apply_321 rfl (lv_at hl 1 rfl) ?_
                refine w_iald 22 9 hF hH dX12_apply_322 (by decide) rfl rfl hw (fun z46 hw => ?_)
                refine w_cVv (As := [.int z2, .int z45, .int z46]) (rest := []) hF hH hA mv_X12_285 (fun sz => c_X12_zero l D t h0 L _ hH.2 z2 z45 z46 _ hw sz) dX12_apply_323 rfl rfl (by decide) rfl hl.1 (Nat.le_of_ble_eq_true rfl) (by decide) rfl (fun σ47 H locs hw hH => ?_)
                refine lv_aload_n hx hb dX12_apply_326 rfl (lv_at hl 2 rfl) ?_
                refine w_getA 8 hF hH fk_X12_37 dX12_apply_327 (by decide) rfl ?_
                refine lv_iload_n hx hb dX12_apply_330 rfl (lv_at hl 0 rfl) ?_
                refine lv_aload_n hx hb dX12_apply_331 rfl (lv_at hl 2 rfl) ?_
                refine w_getA 22 hF hH fk_X12_80 dX12_apply_332 (by decide) rfl ?_
                refine lv_iload_n hx hb dX12_apply_335 rfl (lv_at hl 1 rfl) ?_
                refine w_iald 22 9 hF hH dX12_apply_336 (by decide) rfl rfl hw (fun z49 hw => ?_)
                refine w_iast 8 160 hF hH dX12_apply_337 (by decide) rfl rfl hw (fun σ50 H locs hw hH => ?_)
                exact jn33 () σ50 ls _ _ hl hw hH
          · skip
            refine w_icmp_ne (tgt := 299) hF dX12_apply_183 rfl hw (fun hw => ?_) (fun hw => ?_)
            · exact jn27 () σ18 ls _ _ hl hw hH
            · refine lv_aload_n hx hb dX12_apply_186 rfl (lv_at hl 2 rfl) ?_
              refine lv_iload_n hx hb dX12_apply_187 rfl (lv_at hl 0 rfl) ?_
              refine lv_aload_n hx hb dX12_apply_188 rfl (lv_at hl 2 rfl) ?_
              refine w_getA 8 hF hH fk_X12_37 dX12_apply_189 (by decide) rfl ?_
              refine lv_iload_n hx hb dX12_apply_192 rfl (lv_at hl 0 rfl) ?_
              refine w_iald 8 160 hF hH dX12_apply_193 (by decide) rfl rfl hw (fun z51 hw => ?_)
              refine lv_aload_n hx hb dX12_apply_194 rfl (lv_at hl 2 rfl) ?_
              refine w_getA 22 hF hH fk_X12_80 dX12_apply_195 (by decide) rfl ?_
              refine lv_iload_n hx hb dX12_apply_198 rfl (lv_at hl 1 rfl) ?_
              refine w_iald 22 9 hF hH dX12_apply_199 (by decide) rfl rfl hw (fun z52 hw => ?_)
              refine w_cVv (As := [.int z2, .int z51, .int z52]) (rest := []) hF hH hA mv_X12_285 (fun sz => c_X12_zero l D t h0 L _ hH.2 z2 z51 z52 _ hw sz) dX12_apply_200 rfl rfl (by decide) rfl hl.1 (Nat.le_of_ble_eq_true rfl) (by decide) rfl (fun σ53 H locs hw hH => ?_)
              refine lv_iconst (v := 0) hx hb dX12_apply_203 (by decide) ?_
              refine lv_istore (lv' := [(4, .int 0), (3, .int z2), (1, .int a1), (0, .ref h0)]) hx hb dX12_apply_204 hl (by decide) rfl (fun ls hl => ?_)
              refine w_loop (β := Int32) (fun x55 => [(4, .int x55), (3, .int z2), (1, .int a1), (0, .ref h0)]) 0 hl hw hH (fun K57 x55 σ56 ls H locs hl hw hH ih58 => ?_)
              have hl : lv_has ls 5 [(4, .int x55), (3, .int z2), (1, .int a1), (0, .ref h0)] := hl
              refine lv_iload hx hb dX12_apply_206 (lv_at hl 0 rfl) ?_
              refine lv_aload_n hx hb dX12_apply_208 rfl (lv_at hl 3 rfl) ?_
              refine w_getA 23 hF hH fk_X12_83 dX12_apply_209 (by decide) rfl ?_
              refine lv_iload_n hx hb dX12_apply_212 rfl (lv_at hl 2 rfl) ?_
              refine w_iald 23 9 hF hH dX12_apply_213 (by decide) rfl rfl hw (fun z59 hw => ?_)
              refine w_icmp_ge (tgt := 256) hF dX12_apply_214 rfl hw (fun hw => ?_) (fun hw => ?_)
              · refine lv_aload_n hx hb dX12_apply_256 rfl (lv_at hl 3 rfl) ?_
                refine w_getA 22 hF hH fk_X12_80 dX12_apply_257 (by decide) rfl ?_
                refine lv_iload_n hx hb dX12_apply_260 rfl (lv_at hl 2 rfl) ?_
                refine w_iald 22 9 hF hH dX12_apply_261 (by decide) rfl rfl hw (fun z60 hw => ?_)
                refine lv_aload_n hx hb dX12_apply_262 rfl (lv_at hl 3 rfl) ?_
                refine w_getA 23 hF hH fk_X12_83 dX12_apply_263 (by decide) rfl ?_
                refine lv_iload_n hx hb dX12_apply_266 rfl (lv_at hl 2 rfl) ?_
                refine w_iald 23 9 hF hH dX12_apply_267 (by decide) rfl rfl hw (fun z61 hw => ?_)
                refine lv_iadd hx hb dX12_apply_268 ?_
                refine w_nmi hw (fun z62 hw => ?_)
                refine lv_istore (lv' := [(4, .int z62), (3, .int z2), (1, .int a1), (0, .ref h0)]) hx hb dX12_apply_269 hl (by decide) rfl (fun ls hl => ?_)
                refine lv_aload_n hx hb dX12_apply_271 rfl (lv_at hl 3 rfl) ?_
                refine w_getA 8 hF hH fk_X12_37 dX12_apply_272 (by decide) rfl ?_
                refine lv_iload_n hx hb dX12_apply_275 rfl (lv_at hl 1 rfl) ?_
                refine lv_aload_n hx hb dX12_apply_276 rfl (lv_at hl 3 rfl) ?_
                refine w_getA 8 hF hH fk_X12_37 dX12_apply_277 (by decide) rfl ?_
                refine lv_iload_n hx hb dX12_apply_280 rfl (lv_at hl 1 rfl) ?_
                refine w_iald 8 160 hF hH dX12_apply_281 (by decide) rfl rfl hw (fun z63 hw => ?_)
                refine lv_iload hx hb dX12_apply_282 (lv_at hl 0 rfl) ?_
                obtain ⟨K66, hK67, hw⟩ := jn_open hw
                refine w_join (K := K66) 298 (fun (x64 : Int32) => [(3, .int z2), (1, .int a1), (0, .ref h0)]) (fun (x64 : Int32) => [.int x64, .int z2, .ref (L 8)]) hl hH (fun x64 σ65 ls H locs hl hw hH => ?_) (fun jn68 => ?_)
                · have hw := hK67 x64 σ65 hw
                  have hl : lv_has ls 5 [(3, .int z2), (1, .int a1), (0, .ref h0)] := hl
                  refine w_iast 8 160 hF hH dX12_apply_298 (by decide) rfl rfl hw (fun σ69 H locs hw hH => ?_)
                  exact jn27 () σ69 ls _ _ hl hw hH
                · skip
                  refine w_icmp_ge (tgt := 292) hF dX12_apply_284 rfl hw (fun hw => ?_) (fun hw => ?_)
                  · refine lv_aload_n hx hb dX12_apply_292 rfl (lv_at hl 3 rfl) ?_
                    refine w_getA 8 hF hH fk_X12_37 dX12_apply_293 (by decide) rfl ?_
                    refine lv_iload_n hx hb dX12_apply_296 rfl (lv_at hl 1 rfl) ?_
                    refine w_iald 8 160 hF hH dX12_apply_297 (by decide) rfl rfl hw (fun z70 hw => ?_)
                    have hl : lv_has ls 5 [(3, .int z2), (1, .int a1), (0, .ref h0)] := lv_sub hl [1, 2, 3] rfl
                    exact jn68 z70 σ56 ls _ _ hl hw hH
                  · refine lv_iload hx hb dX12_apply_287 (lv_at hl 0 rfl) ?_
                    refine lv_goto (tgt := 298) hx hb dX12_apply_289 rfl ?_
                    have hl : lv_has ls 5 [(3, .int z2), (1, .int a1), (0, .ref h0)] := lv_sub hl [1, 2, 3] rfl
                    exact jn68 z62 σ56 ls _ _ hl hw hH
              · refine lv_aload_n hx hb dX12_apply_217 rfl (lv_at hl 3 rfl) ?_
                refine w_getA 9 hF hH fk_X12_41 dX12_apply_218 (by decide) rfl ?_
                refine lv_sipush (v := 4096) hx hb dX12_apply_221 (by decide) ?_
                refine lv_iload_n hx hb dX12_apply_224 rfl (lv_at hl 1 rfl) ?_
                refine lv_imul hx hb dX12_apply_225 ?_
                refine w_nmi hw (fun z71 hw => ?_)
                refine lv_aload_n hx hb dX12_apply_226 rfl (lv_at hl 3 rfl) ?_
                refine w_getA 22 hF hH fk_X12_80 dX12_apply_227 (by decide) rfl ?_
                refine lv_iload_n hx hb dX12_apply_230 rfl (lv_at hl 2 rfl) ?_
                refine w_iald 22 9 hF hH dX12_apply_231 (by decide) rfl rfl hw (fun z72 hw => ?_)
                refine lv_iadd hx hb dX12_apply_232 ?_
                refine w_nmi hw (fun z73 hw => ?_)
                refine lv_iload hx hb dX12_apply_233 (lv_at hl 0 rfl) ?_
                refine lv_iadd hx hb dX12_apply_235 ?_
                refine w_nmi hw (fun z74 hw => ?_)
                refine lv_aload_n hx hb dX12_apply_236 rfl (lv_at hl 3 rfl) ?_
                refine w_getA 24 hF hH fk_X12_86 dX12_apply_237 (by decide) rfl ?_
                refine lv_sipush (v := 1024) hx hb dX12_apply_240 (by decide) ?_
                refine lv_iload_n hx hb dX12_apply_243 rfl (lv_at hl 2 rfl) ?_
                refine lv_imul hx hb dX12_apply_244 ?_
                refine w_nmi hw (fun z75 hw => ?_)
                refine lv_iload hx hb dX12_apply_245 (lv_at hl 0 rfl) ?_
                refine lv_iadd hx hb dX12_apply_247 ?_
                refine w_nmi hw (fun z76 hw => ?_)
                refine w_bald 24 9216 hF hH dX12_apply_248 (by decide) rfl rfl hw (fun z77 hw => ?_)
                refine w_bast 9 655360 hF hH dX12_apply_249 (by decide) rfl rfl hw (fun σ78 H locs hw hH => ?_)
                obtain ⟨z79, ez79⟩ : ∃ z : Int32, z = x55 + 1 := ⟨_, rfl⟩
                have hw := hw z79 ez79
                refine lv_iinc (lv' := [(4, .int z79), (3, .int z2), (1, .int a1), (0, .ref h0)]) (k := 0) (v := z79) hx hb dX12_apply_250 hl rfl ez79.symm (by decide) rfl (fun ls hl => ?_)
                refine lv_goto (tgt := 206) hx hb dX12_apply_253 rfl ?_
                exact ih58 z79 σ78 ls _ _ hl hw hH
        · skip
          obtain ⟨K82, hK83, hw⟩ := jn_open hw
          refine w_join (K := K82) 164 (fun (x80 : Unit) => [(3, .int z2), (1, .int a1), (0, .ref h0)]) (fun (x80 : Unit) => []) hl hH (fun x80 σ81 ls H locs hl hw hH => ?_) (fun jn84 => ?_)
          · have hw := hK83 x80 σ81 hw
            have hl : lv_has ls 5 [(3, .int z2), (1, .int a1), (0, .ref h0)] := hl
            refine lv_aload_n hx hb dX12_apply_164 rfl (lv_at hl 2 rfl) ?_
            refine w_getA 6 hF hH fk_X12_30 dX12_apply_165 (by decide) rfl ?_
            refine lv_iload_n hx hb dX12_apply_168 rfl (lv_at hl 0 rfl) ?_
            refine lv_aload_n hx hb dX12_apply_169 rfl (lv_at hl 2 rfl) ?_
            refine w_getA 20 hF hH fk_X12_74 dX12_apply_170 (by decide) rfl ?_
            refine lv_iload_n hx hb dX12_apply_173 rfl (lv_at hl 1 rfl) ?_
            refine w_iald 20 9 hF hH dX12_apply_174 (by decide) rfl rfl hw (fun z85 hw => ?_)
            refine w_iast 6 160 hF hH dX12_apply_175 (by decide) rfl rfl hw (fun σ86 H locs hw hH => ?_)
            exact jn21 () σ86 ls _ _ hl hw hH
          · skip
            refine w_if_eq (tgt := 164) hF dX12_apply_151 rfl hw (fun hw => ?_) (fun hw => ?_)
            · exact jn84 () σ12 ls _ _ hl hw hH
            · refine lv_aload_n hx hb dX12_apply_154 rfl (lv_at hl 2 rfl) ?_
              refine w_getA 14 hF hH fk_X12_56 dX12_apply_155 (by decide) rfl ?_
              refine lv_iload_n hx hb dX12_apply_158 rfl (lv_at hl 1 rfl) ?_
              refine w_iald 14 9 hF hH dX12_apply_159 (by decide) rfl rfl hw (fun z87 hw => ?_)
              refine lv_iconst (v := 3) hx hb dX12_apply_160 (by decide) ?_
              refine w_icmp_ne (tgt := 176) hF dX12_apply_161 rfl hw (fun hw => ?_) (fun hw => ?_)
              · exact jn21 () σ12 ls _ _ hl hw hH
              · exact jn84 () σ12 ls _ _ hl hw hH
      · skip
        obtain ⟨K90, hK91, hw⟩ := jn_open hw
        refine w_join (K := K90) 81 (fun (x88 : Unit) => [(3, .int z2), (1, .int a1), (0, .ref h0)]) (fun (x88 : Unit) => []) hl hH (fun x88 σ89 ls H locs hl hw hH => ?_) (fun jn92 => ?_)
        · have hw := hK91 x88 σ89 hw
          have hl : lv_has ls 5 [(3, .int z2), (1, .int a1), (0, .ref h0)] := hl
          refine lv_aload_n hx hb dX12_apply_81 rfl (lv_at hl 2 rfl) ?_
          refine w_getA 2 hF hH fk_X12_17 dX12_apply_82 (by decide) rfl ?_
          refine lv_iload_n hx hb dX12_apply_85 rfl (lv_at hl 0 rfl) ?_
          refine lv_aload_n hx hb dX12_apply_86 rfl (lv_at hl 2 rfl) ?_
          refine w_getA 16 hF hH fk_X12_62 dX12_apply_87 (by decide) rfl ?_
          refine lv_iload_n hx hb dX12_apply_90 rfl (lv_at hl 1 rfl) ?_
          refine w_iald 16 9 hF hH dX12_apply_91 (by decide) rfl rfl hw (fun z93 hw => ?_)
          refine w_iast 2 160 hF hH dX12_apply_92 (by decide) rfl rfl hw (fun σ94 H locs hw hH => ?_)
          refine lv_aload_n hx hb dX12_apply_93 rfl (lv_at hl 2 rfl) ?_
          refine w_getA 5 hF hH fk_X12_27 dX12_apply_94 (by decide) rfl ?_
          refine lv_iload_n hx hb dX12_apply_97 rfl (lv_at hl 0 rfl) ?_
          refine lv_aload_n hx hb dX12_apply_98 rfl (lv_at hl 2 rfl) ?_
          refine w_getA 19 hF hH fk_X12_71 dX12_apply_99 (by decide) rfl ?_
          refine lv_iload_n hx hb dX12_apply_102 rfl (lv_at hl 1 rfl) ?_
          refine w_iald 19 9 hF hH dX12_apply_103 (by decide) rfl rfl hw (fun z95 hw => ?_)
          refine w_iast 5 160 hF hH dX12_apply_104 (by decide) rfl rfl hw (fun σ96 H locs hw hH => ?_)
          refine lv_iconst (v := 0) hx hb dX12_apply_105 (by decide) ?_
          refine lv_istore (lv' := [(4, .int 0), (3, .int z2), (1, .int a1), (0, .ref h0)]) hx hb dX12_apply_106 hl (by decide) rfl (fun ls hl => ?_)
          refine w_loop (β := Int32) (fun x97 => [(4, .int x97), (3, .int z2), (1, .int a1), (0, .ref h0)]) 0 hl hw hH (fun K99 x97 σ98 ls H locs hl hw hH ih100 => ?_)
          have hl : lv_has ls 5 [(4, .int x97), (3, .int z2), (1, .int a1), (0, .ref h0)] := hl
          refine lv_iload hx hb dX12_apply_108 (lv_at hl 0 rfl) ?_
          refine lv_bipush (v := 12) hx hb dX12_apply_110 (by decide) ?_
          refine w_icmp_ge (tgt := 145) hF dX12_apply_112 rfl hw (fun hw => ?_) (fun hw => ?_)
          · have hl : lv_has ls 5 [(3, .int z2), (1, .int a1), (0, .ref h0)] := lv_sub hl [1, 2, 3] rfl
            exact jn15 () σ98 ls _ _ hl hw hH
          · refine lv_aload_n hx hb dX12_apply_115 rfl (lv_at hl 3 rfl) ?_
            refine w_getA 4 hF hH fk_X12_24 dX12_apply_116 (by decide) rfl ?_
            refine lv_bipush (v := 12) hx hb dX12_apply_119 (by decide) ?_
            refine lv_iload_n hx hb dX12_apply_121 rfl (lv_at hl 1 rfl) ?_
            refine lv_imul hx hb dX12_apply_122 ?_
            refine w_nmi hw (fun z101 hw => ?_)
            refine lv_iload hx hb dX12_apply_123 (lv_at hl 0 rfl) ?_
            refine lv_iadd hx hb dX12_apply_125 ?_
            refine w_nmi hw (fun z102 hw => ?_)
            refine lv_aload_n hx hb dX12_apply_126 rfl (lv_at hl 3 rfl) ?_
            refine w_getA 18 hF hH fk_X12_68 dX12_apply_127 (by decide) rfl ?_
            refine lv_bipush (v := 12) hx hb dX12_apply_130 (by decide) ?_
            refine lv_iload_n hx hb dX12_apply_132 rfl (lv_at hl 2 rfl) ?_
            refine lv_imul hx hb dX12_apply_133 ?_
            refine w_nmi hw (fun z103 hw => ?_)
            refine lv_iload hx hb dX12_apply_134 (lv_at hl 0 rfl) ?_
            refine lv_iadd hx hb dX12_apply_136 ?_
            refine w_nmi hw (fun z104 hw => ?_)
            refine w_bald 18 108 hF hH dX12_apply_137 (by decide) rfl rfl hw (fun z105 hw => ?_)
            refine w_bast 4 1920 hF hH dX12_apply_138 (by decide) rfl rfl hw (fun σ106 H locs hw hH => ?_)
            obtain ⟨z107, ez107⟩ : ∃ z : Int32, z = x97 + 1 := ⟨_, rfl⟩
            have hw := hw z107 ez107
            refine lv_iinc (lv' := [(4, .int z107), (3, .int z2), (1, .int a1), (0, .ref h0)]) (k := 0) (v := z107) hx hb dX12_apply_139 hl rfl ez107.symm (by decide) rfl (fun ls hl => ?_)
            refine lv_goto (tgt := 108) hx hb dX12_apply_142 rfl ?_
            exact ih100 z107 σ106 ls _ _ hl hw hH
        · skip
          refine w_if_eq (tgt := 81) hF dX12_apply_68 rfl hw (fun hw => ?_) (fun hw => ?_)
          · exact jn92 () σ6 ls _ _ hl hw hH
          · refine lv_aload_n hx hb dX12_apply_71 rfl (lv_at hl 2 rfl) ?_
            refine w_getA 14 hF hH fk_X12_56 dX12_apply_72 (by decide) rfl ?_
            refine lv_iload_n hx hb dX12_apply_75 rfl (lv_at hl 1 rfl) ?_
            refine w_iald 14 9 hF hH dX12_apply_76 (by decide) rfl rfl hw (fun z108 hw => ?_)
            refine lv_iconst (v := 4) hx hb dX12_apply_77 (by decide) ?_
            refine w_icmp_ne (tgt := 145) hF dX12_apply_78 rfl hw (fun hw => ?_) (fun hw => ?_)
            · exact jn15 () σ6 ls _ _ hl hw hH
            · exact jn92 () σ6 ls _ _ hl hw hH
    · skip
      refine w_if_ne (tgt := 62) hF dX12_apply_33 rfl hw (fun hw => ?_) (fun hw => ?_)
      · have hl : lv_has ls 5 [(3, .int z2), (1, .int a1), (0, .ref h0)] := lv_sub hl [0, 2, 1] rfl
        exact jn9 () σ ls _ _ hl hw hH
      · refine lv_aload_n hx hb dX12_apply_36 rfl (lv_at hl 1 rfl) ?_
        refine w_getA 1 hF hH fk_X12_13 dX12_apply_37 (by decide) rfl ?_
        refine lv_iload_n hx hb dX12_apply_40 rfl (lv_at hl 0 rfl) ?_
        refine lv_iconst (v := 1) hx hb dX12_apply_41 (by decide) ?_
        refine w_zast 1 160 hF hH dX12_apply_42 (by decide) rfl rfl hw (fun σ109 H locs hw hH => ?_)
        refine lv_aload_n hx hb dX12_apply_43 rfl (lv_at hl 1 rfl) ?_
        refine w_getA 3 hF hH fk_X12_21 dX12_apply_44 (by decide) rfl ?_
        refine lv_iload_n hx hb dX12_apply_47 rfl (lv_at hl 0 rfl) ?_
        refine lv_aload_n hx hb dX12_apply_48 rfl (lv_at hl 1 rfl) ?_
        refine w_getA 17 hF hH fk_X12_65 dX12_apply_49 (by decide) rfl ?_
        refine lv_iload_n hx hb dX12_apply_52 rfl (lv_at hl 2 rfl) ?_
        refine w_zald 17 9 hF hH dX12_apply_53 (by decide) rfl rfl hw (fun z110 hw => ?_)
        refine w_zast 3 160 hF hH dX12_apply_54 (by decide) rfl rfl hw (fun σ111 H locs hw hH => ?_)
        refine lv_aload_n hx hb dX12_apply_55 rfl (lv_at hl 1 rfl) ?_
        refine w_getA 8 hF hH fk_X12_37 dX12_apply_56 (by decide) rfl ?_
        refine lv_iload_n hx hb dX12_apply_59 rfl (lv_at hl 0 rfl) ?_
        refine lv_iconst (v := 0) hx hb dX12_apply_60 (by decide) ?_
        refine w_iast 8 160 hF hH dX12_apply_61 (by decide) rfl rfl hw (fun σ112 H locs hw hH => ?_)
        have hl : lv_has ls 5 [(3, .int z2), (1, .int a1), (0, .ref h0)] := lv_sub hl [0, 2, 1] rfl
        exact jn9 () σ112 ls _ _ hl hw hH
  · refine lv_aload_n hx hb dX12_apply_19 rfl (lv_at hl 1 rfl) ?_
    refine w_getA 1 hF hH fk_X12_13 dX12_apply_20 (by decide) rfl ?_
    refine lv_iload_n hx hb dX12_apply_23 rfl (lv_at hl 0 rfl) ?_
    refine lv_iconst (v := 0) hx hb dX12_apply_24 (by decide) ?_
    refine w_zast 1 160 hF hH dX12_apply_25 (by decide) rfl rfl hw (fun σ113 H locs hw hH => ?_)
    exact w_retv hF hH hr hlk dX12_apply_26 hw
def F_X12_come (h0 : Nat) (L : Nat → Nat) (a1 : Int32) (a2 : Int32) (post : HS → Prop) (σ : HS) : Prop := lw (fun (K3 : Int32 → HS → Prop) (x1 : Int32) (σ2 : HS) => ((a1.toInt ≤ x1.toInt) → ∀ σ5 : HS, σ5 = h_uI σ2 h0 16 0 → post σ5) ∧ ((x1.toInt < a1.toInt) → F_X12_apply h0 L x1 80 (fun (σ6 : HS) => ∀ z8 : Int32, z8 = x1 + 1 → K3 z8 σ6) σ2)) 0 σ
theorem dX12_come_0 : decode cX12_come 0 = .ok (.iconst 0, 1) := by decide +kernel
theorem dX12_come_1 : decode cX12_come 1 = .ok (.istore_n 3, 1) := by decide +kernel
theorem dX12_come_2 : decode cX12_come 2 = .ok (.iload_n 3, 1) := by decide +kernel
theorem dX12_come_3 : decode cX12_come 3 = .ok (.iload_n 1, 1) := by decide +kernel
theorem dX12_come_4 : decode cX12_come 4 = .ok (.if_icmp .ge 16, 3) := by decide +kernel
theorem dX12_come_7 : decode cX12_come 7 = .ok (.aload_n 0, 1) := by decide +kernel
theorem dX12_come_8 : decode cX12_come 8 = .ok (.iload_n 3, 1) := by decide +kernel
theorem dX12_come_9 : decode cX12_come 9 = .ok (.bipush 80, 2) := by decide +kernel
theorem dX12_come_11 : decode cX12_come 11 = .ok (.invokevirtual 274, 3) := by decide +kernel
theorem dX12_come_14 : decode cX12_come 14 = .ok (.iinc 3 1, 3) := by decide +kernel
theorem dX12_come_17 : decode cX12_come 17 = .ok (.goto (-15), 3) := by decide +kernel
theorem dX12_come_20 : decode cX12_come 20 = .ok (.aload_n 0, 1) := by decide +kernel
theorem dX12_come_21 : decode cX12_come 21 = .ok (.iconst 0, 1) := by decide +kernel
theorem dX12_come_22 : decode cX12_come 22 = .ok (.putfield 271, 3) := by decide +kernel
theorem dX12_come_25 : decode cX12_come 25 = .ok (.return_, 1) := by decide +kernel
set_option maxRecDepth 100000 in
set_option maxHeartbeats 4000000 in
theorem c_X12_come (l : Launch) (D : va_G) (t : Nat → ClassId) (h0 : Nat) (L : Nat → Nat) (σ : HS) (hM : MdI h0 L σ) (a1 : Int32) (a2 : Int32) (post : HS → Prop) (hw : F_X12_come h0 L a1 a2 post σ) (sz : Nat) : RMv l D t yX12_come cX12_come 4 ({ frames := 2, cells := 0, slots := 0, locals := 48 }) h0 L σ sz [.ref h0, .int a1, .int a2] post := by
  refine h_go (τ := τT) okT (by decide) (Nat.le_of_ble_eq_true rfl) ?_
  intro p e s m below meth c ls A hF hr hlk hAe hH0 hA hl
  unfold hB
  rw [hAe]
  clear hAe
  have hF : FX p m c cX12_come 4 s _ RX12 D t := hF
  have hx := hF.1.1
  have hb := hF.1.2.1
  have hH : RT D t A s.heap h0 L σ s.heap [] := ⟨hH0, hM⟩
  have hl : lv_has ls 4 [(0, .ref h0), (1, .int a1), (2, .int a2)] := hl
  unfold F_X12_come at hw
  refine lv_iconst (v := 0) hx hb dX12_come_0 (by decide) ?_
  refine lv_istore_n (lv' := [(3, .int 0), (0, .ref h0), (1, .int a1), (2, .int a2)]) hx hb dX12_come_1 rfl hl (by decide) rfl (fun ls hl => ?_)
  have hl : lv_has ls 4 [(3, .int 0), (1, .int a1), (0, .ref h0)] := lv_sub hl [0, 2, 1] rfl
  refine w_loop (β := Int32) (fun x1 => [(3, .int x1), (1, .int a1), (0, .ref h0)]) 0 hl hw hH (fun K3 x1 σ2 ls H locs hl hw hH ih4 => ?_)
  have hl : lv_has ls 4 [(3, .int x1), (1, .int a1), (0, .ref h0)] := hl
  refine lv_iload_n hx hb dX12_come_2 rfl (lv_at hl 0 rfl) ?_
  refine lv_iload_n hx hb dX12_come_3 rfl (lv_at hl 1 rfl) ?_
  refine w_icmp_ge (tgt := 20) hF dX12_come_4 rfl hw (fun hw => ?_) (fun hw => ?_)
  · refine lv_aload_n hx hb dX12_come_20 rfl (lv_at hl 2 rfl) ?_
    refine lv_iconst (v := 0) hx hb dX12_come_21 (by decide) ?_
    refine w_putI hF hH fk_X12_271 dX12_come_22 rfl rfl rfl hw (fun σ5 H locs hw hH => ?_)
    exact w_retv hF hH hr hlk dX12_come_25 hw
  · refine lv_aload_n hx hb dX12_come_7 rfl (lv_at hl 2 rfl) ?_
    refine lv_iload_n hx hb dX12_come_8 rfl (lv_at hl 0 rfl) ?_
    refine lv_bipush (v := 80) hx hb dX12_come_9 (by decide) ?_
    refine w_cVv (As := [.int x1, .int 80]) (rest := []) hF hH hA mv_X12_274 (fun sz => c_X12_apply l D t h0 L _ hH.2 x1 80 _ hw sz) dX12_come_11 rfl rfl (by decide) rfl hl.1 (Nat.le_of_ble_eq_true rfl) (by decide) rfl (fun σ6 H locs hw hH => ?_)
    obtain ⟨z8, ez8⟩ : ∃ z : Int32, z = x1 + 1 := ⟨_, rfl⟩
    have hw := hw z8 ez8
    refine lv_iinc (lv' := [(3, .int z8), (1, .int a1), (0, .ref h0)]) (k := 0) (v := z8) hx hb dX12_come_14 hl rfl ez8.symm (by decide) rfl (fun ls hl => ?_)
    refine lv_goto (tgt := 2) hx hb dX12_come_17 rfl ?_
    exact ih4 z8 σ6 ls _ _ hl hw hH
def F_X12_allCome (h0 : Nat) (L : Nat → Nat)  (post : HS → Prop) (σ : HS) : Prop := ∀ z1 : Int32, z1 = sI σ h0 16 → F_X12_come h0 L z1 1 (fun (σ2 : HS) => post σ2) σ
theorem dX12_allCome_0 : decode cX12_allCome 0 = .ok (.aload_n 0, 1) := by decide +kernel
theorem dX12_allCome_1 : decode cX12_allCome 1 = .ok (.aload_n 0, 1) := by decide +kernel
theorem dX12_allCome_2 : decode cX12_allCome 2 = .ok (.getfield 271, 3) := by decide +kernel
theorem dX12_allCome_5 : decode cX12_allCome 5 = .ok (.iconst 1, 1) := by decide +kernel
theorem dX12_allCome_6 : decode cX12_allCome 6 = .ok (.invokevirtual 281, 3) := by decide +kernel
theorem dX12_allCome_9 : decode cX12_allCome 9 = .ok (.return_, 1) := by decide +kernel
set_option maxRecDepth 100000 in
set_option maxHeartbeats 4000000 in
theorem c_X12_allCome (l : Launch) (D : va_G) (t : Nat → ClassId) (h0 : Nat) (L : Nat → Nat) (σ : HS) (hM : MdI h0 L σ)  (post : HS → Prop) (hw : F_X12_allCome h0 L  post σ) (sz : Nat) : RMv l D t yX12_allCome cX12_allCome 1 ({ frames := 3, cells := 0, slots := 0, locals := 71 }) h0 L σ sz [.ref h0] post := by
  refine h_go (τ := τT) okT (by decide) (Nat.le_of_ble_eq_true rfl) ?_
  intro p e s m below meth c ls A hF hr hlk hAe hH0 hA hl
  unfold hB
  rw [hAe]
  clear hAe
  have hF : FX p m c cX12_allCome 1 s _ RX12 D t := hF
  have hx := hF.1.1
  have hb := hF.1.2.1
  have hH : RT D t A s.heap h0 L σ s.heap [] := ⟨hH0, hM⟩
  have hl : lv_has ls 1 [(0, .ref h0)] := hl
  unfold F_X12_allCome at hw
  refine lv_aload_n hx hb dX12_allCome_0 rfl (lv_at hl 0 rfl) ?_
  refine lv_aload_n hx hb dX12_allCome_1 rfl (lv_at hl 0 rfl) ?_
  refine w_getI hF hH fk_X12_271 dX12_allCome_2 hw (fun z1 hw => ?_)
  refine lv_iconst (v := 1) hx hb dX12_allCome_5 (by decide) ?_
  refine w_cVv (As := [.int z1, .int 1]) (rest := []) hF hH hA mv_X12_281 (fun sz => c_X12_come l D t h0 L _ hH.2 z1 1 _ hw sz) dX12_allCome_6 rfl rfl (by decide) rfl hl.1 (Nat.le_of_ble_eq_true rfl) (by decide) rfl (fun σ2 H locs hw hH => ?_)
  exact w_retv hF hH hr hlk dX12_allCome_9 hw
def F_X12_done (h0 : Nat) (L : Nat → Nat)  (post : HS → Prop) (σ : HS) : Prop := ∀ z1 : Int32, z1 = sI σ h0 16 → F_X12_apply h0 L z1 0 (fun (σ2 : HS) => ∀ z4 : Int32, z4 = sI σ2 h0 16 → ∀ z5 : Int32, z5 = z4 + 1 → ∀ σ6 : HS, σ6 = h_uI σ2 h0 16 z5 → ∀ z7 : Int32, z7 = sI σ6 h0 16 → jn (fun (K10 : Unit → HS → Prop) => ((¬ z7.toInt = (8 : Int32).toInt) → K10 () σ6) ∧ ((z7.toInt = (8 : Int32).toInt) → F_X12_allCome h0 L  (fun (σ13 : HS) => K10 () σ13) σ6)) (fun (x8 : Unit) (σ9 : HS) => post σ9)) σ
theorem dX12_done_0 : decode cX12_done 0 = .ok (.aload_n 0, 1) := by decide +kernel
theorem dX12_done_1 : decode cX12_done 1 = .ok (.aload_n 0, 1) := by decide +kernel
theorem dX12_done_2 : decode cX12_done 2 = .ok (.getfield 271, 3) := by decide +kernel
theorem dX12_done_5 : decode cX12_done 5 = .ok (.iconst 0, 1) := by decide +kernel
theorem dX12_done_6 : decode cX12_done 6 = .ok (.invokevirtual 274, 3) := by decide +kernel
theorem dX12_done_9 : decode cX12_done 9 = .ok (.aload_n 0, 1) := by decide +kernel
theorem dX12_done_10 : decode cX12_done 10 = .ok (.dup, 1) := by decide +kernel
theorem dX12_done_11 : decode cX12_done 11 = .ok (.getfield 271, 3) := by decide +kernel
theorem dX12_done_14 : decode cX12_done 14 = .ok (.iconst 1, 1) := by decide +kernel
theorem dX12_done_15 : decode cX12_done 15 = .ok (.iadd, 1) := by decide +kernel
theorem dX12_done_16 : decode cX12_done 16 = .ok (.putfield 271, 3) := by decide +kernel
theorem dX12_done_19 : decode cX12_done 19 = .ok (.aload_n 0, 1) := by decide +kernel
theorem dX12_done_20 : decode cX12_done 20 = .ok (.getfield 271, 3) := by decide +kernel
theorem dX12_done_23 : decode cX12_done 23 = .ok (.bipush 8, 2) := by decide +kernel
theorem dX12_done_25 : decode cX12_done 25 = .ok (.if_icmp .ne 7, 3) := by decide +kernel
theorem dX12_done_28 : decode cX12_done 28 = .ok (.aload_n 0, 1) := by decide +kernel
theorem dX12_done_29 : decode cX12_done 29 = .ok (.invokevirtual 278, 3) := by decide +kernel
theorem dX12_done_32 : decode cX12_done 32 = .ok (.return_, 1) := by decide +kernel
set_option maxRecDepth 100000 in
set_option maxHeartbeats 4000000 in
theorem c_X12_done (l : Launch) (D : va_G) (t : Nat → ClassId) (h0 : Nat) (L : Nat → Nat) (σ : HS) (hM : MdI h0 L σ)  (post : HS → Prop) (hw : F_X12_done h0 L  post σ) (sz : Nat) : RMv l D t yX12_done cX12_done 1 ({ frames := 4, cells := 0, slots := 0, locals := 91 }) h0 L σ sz [.ref h0] post := by
  refine h_go (τ := τT) okT (by decide) (Nat.le_of_ble_eq_true rfl) ?_
  intro p e s m below meth c ls A hF hr hlk hAe hH0 hA hl
  unfold hB
  rw [hAe]
  clear hAe
  have hF : FX p m c cX12_done 1 s _ RX12 D t := hF
  have hx := hF.1.1
  have hb := hF.1.2.1
  have hH : RT D t A s.heap h0 L σ s.heap [] := ⟨hH0, hM⟩
  have hl : lv_has ls 1 [(0, .ref h0)] := hl
  unfold F_X12_done at hw
  refine lv_aload_n hx hb dX12_done_0 rfl (lv_at hl 0 rfl) ?_
  refine lv_aload_n hx hb dX12_done_1 rfl (lv_at hl 0 rfl) ?_
  refine w_getI hF hH fk_X12_271 dX12_done_2 hw (fun z1 hw => ?_)
  refine lv_iconst (v := 0) hx hb dX12_done_5 (by decide) ?_
  refine w_cVv (As := [.int z1, .int 0]) (rest := []) hF hH hA mv_X12_274 (fun sz => c_X12_apply l D t h0 L _ hH.2 z1 0 _ hw sz) dX12_done_6 rfl rfl (by decide) rfl hl.1 (Nat.le_of_ble_eq_true rfl) (by decide) rfl (fun σ2 H locs hw hH => ?_)
  refine lv_aload_n hx hb dX12_done_9 rfl (lv_at hl 0 rfl) ?_
  refine lv_dup hx hb dX12_done_10 rfl ?_
  refine w_getI hF hH fk_X12_271 dX12_done_11 hw (fun z4 hw => ?_)
  refine lv_iconst (v := 1) hx hb dX12_done_14 (by decide) ?_
  refine lv_iadd hx hb dX12_done_15 ?_
  refine w_nmi hw (fun z5 hw => ?_)
  refine w_putI hF hH fk_X12_271 dX12_done_16 rfl rfl rfl hw (fun σ6 H locs hw hH => ?_)
  refine lv_aload_n hx hb dX12_done_19 rfl (lv_at hl 0 rfl) ?_
  refine w_getI hF hH fk_X12_271 dX12_done_20 hw (fun z7 hw => ?_)
  refine lv_bipush (v := 8) hx hb dX12_done_23 (by decide) ?_
  obtain ⟨K10, hK11, hw⟩ := jn_open hw
  refine w_join (K := K10) 32 (fun (x8 : Unit) => []) (fun (x8 : Unit) => []) hl hH (fun x8 σ9 ls H locs hl hw hH => ?_) (fun jn12 => ?_)
  · have hw := hK11 x8 σ9 hw
    have hl : lv_has ls 1 [] := hl
    exact w_retv hF hH hr hlk dX12_done_32 hw
  · skip
    refine w_icmp_ne (tgt := 32) hF dX12_done_25 rfl hw (fun hw => ?_) (fun hw => ?_)
    · have hl : lv_has ls 1 [] := lv_sub hl [] rfl
      exact jn12 () σ6 ls _ _ hl hw hH
    · refine lv_aload_n hx hb dX12_done_28 rfl (lv_at hl 0 rfl) ?_
      refine w_cVv (As := []) (rest := []) hF hH hA mv_X12_278 (fun sz => c_X12_allCome l D t h0 L _ hH.2  _ hw sz) dX12_done_29 rfl rfl (by decide) rfl hl.1 (Nat.le_of_ble_eq_true rfl) (by decide) rfl (fun σ13 H locs hw hH => ?_)
      have hl : lv_has ls 1 [] := lv_sub hl [] rfl
      exact jn12 () σ13 ls _ _ hl hw hH

theorem dX12_lay_0 : decode cX12_lay 0 = .ok (.bipush 24, 2) := by decide +kernel
theorem dX12_lay_2 : decode cX12_lay 2 = .ok (.istore_n 2, 1) := by decide +kernel
theorem dX12_lay_3 : decode cX12_lay 3 = .ok (.iload_n 2, 1) := by decide +kernel
theorem dX12_lay_4 : decode cX12_lay 4 = .ok (.ifCond .lt 32, 3) := by decide +kernel
theorem dX12_lay_7 : decode cX12_lay 7 = .ok (.aload_n 0, 1) := by decide +kernel
theorem dX12_lay_8 : decode cX12_lay 8 = .ok (.getfield 7, 3) := by decide +kernel
theorem dX12_lay_11 : decode cX12_lay 11 = .ok (.aload_n 0, 1) := by decide +kernel
theorem dX12_lay_12 : decode cX12_lay 12 = .ok (.getfield 261, 3) := by decide +kernel
theorem dX12_lay_15 : decode cX12_lay 15 = .ok (.iload_n 1, 1) := by decide +kernel
theorem dX12_lay_16 : decode cX12_lay 16 = .ok (.iload_n 2, 1) := by decide +kernel
theorem dX12_lay_17 : decode cX12_lay 17 = .ok (.ishr, 1) := by decide +kernel
theorem dX12_lay_18 : decode cX12_lay 18 = .ok (.i2b, 1) := by decide +kernel
theorem dX12_lay_19 : decode cX12_lay 19 = .ok (.bastore, 1) := by decide +kernel
theorem dX12_lay_20 : decode cX12_lay 20 = .ok (.aload_n 0, 1) := by decide +kernel
theorem dX12_lay_21 : decode cX12_lay 21 = .ok (.dup, 1) := by decide +kernel
theorem dX12_lay_22 : decode cX12_lay 22 = .ok (.getfield 261, 3) := by decide +kernel
theorem dX12_lay_25 : decode cX12_lay 25 = .ok (.iconst 1, 1) := by decide +kernel
theorem dX12_lay_26 : decode cX12_lay 26 = .ok (.iadd, 1) := by decide +kernel
theorem dX12_lay_27 : decode cX12_lay 27 = .ok (.putfield 261, 3) := by decide +kernel
theorem dX12_lay_30 : decode cX12_lay 30 = .ok (.iinc 2 (-8), 3) := by decide +kernel
theorem dX12_lay_33 : decode cX12_lay 33 = .ok (.goto (-30), 3) := by decide +kernel
theorem dX12_lay_36 : decode cX12_lay 36 = .ok (.return_, 1) := by decide +kernel
set_option maxRecDepth 100000 in
set_option maxHeartbeats 4000000 in
theorem c_X12_lay (l : Launch) (D : va_G) (t : Nat → ClassId) (h0 : Nat) (L : Nat → Nat) (σ : HS) (hO : OK ph τ0 σ) (hM : MdI h0 L σ) (v : Int32) (hz : (sI σ h0 1).toInt + 4 ≤ 8000) (sz : Nat) : HMv ph τ0 l D t yX12_lay cX12_lay 3 ({ frames := 0, cells := 0, slots := 0, locals := 0 }) σ sz [.ref h0, .int v] 0 0 (fun σ' => MdI h0 L σ' ∧ Fr h0 L [1] [0] σ σ' ∧ ((sI σ' h0 1).toInt = (sI σ h0 1).toInt + 4)) := by
  refine h_go hO (by decide) (Nat.le_of_ble_eq_true rfl) ?_
  intro p e s m below meth c ls A hF hr hlk hAe hH0 hA hl
  unfold hB
  rw [hAe]
  clear hAe
  have hF : FX p m c cX12_lay 3 s _ RX12 D t := hF
  have hx := hF.1.1
  have hb := hF.1.2.1
  have hH : MT D t A s.heap h0 L σ s.heap [] := ⟨hH0, hM⟩
  have hle : HLe σ σ := HLe.rf
  have hfr : Fr h0 L [1] [0] σ σ := Fr.rf
  have k_0 : (0 : Int32).toInt = 0 := rfl
  have k_1 : (1 : Int32).toInt = 1 := rfl
  have k_24 : (24 : Int32).toInt = 24 := rfl
  have rg_1 := i_range v
  have hl : lv_has ls 3 [(0, .ref h0), (1, .int v)] := hl
  have hts := m_fld hH 1 (by decide) rfl
  have hts : (0 : Int) ≤ (sI σ h0 1).toInt ∧ (sI σ h0 1).toInt ≤ 8000 := hts
  refine lv_bipush (v := 24) hx hb dX12_lay_0 (by decide) ?_
  refine lv_istore_n (lv' := [(2, .int 24), (0, .ref h0), (1, .int v)]) hx hb dX12_lay_2 rfl hl (by decide) rfl (fun ls hl => ?_)
  have hl : lv_has ls 3 [(2, .int 24), (1, .int v), (0, .ref h0)] := lv_sub hl [0, 2, 1] rfl
  refine m_loop (β := Int32) (L0 := fun x => [(2, .int x), (1, .int v), (0, .ref h0)]) (I := fun x σ2 => HLe σ σ2 ∧ Fr h0 L [1] [0] σ σ2 ∧ ((-8 ≤ x.toInt ∧ x.toInt ≤ 24) ∧ 8 * ((sI σ2 h0 1).toInt - (sI σ h0 1).toInt) = 24 - x.toInt)) (fun x σ2 => (24 - (0 - x.toInt)).toNat) (24) hl ⟨hle, hfr, ⟨by (try dsimp only); omega, by (try dsimp only); omega⟩⟩ hH (fun x σL ls H locs hl hI hH ih => ?_)
  obtain ⟨x493, hx1⟩ : ∃ y, y = x := ⟨_, rfl⟩
  subst hx1
  obtain ⟨hle, hfr, hI⟩ := hI
  have hl : lv_has ls 3 [(2, .int x493), (1, .int v), (0, .ref h0)] := hl
  have hI : (-8 ≤ x493.toInt ∧ x493.toInt ≤ 24) ∧ 8 * ((sI σL h0 1).toInt - (sI σ h0 1).toInt) = 24 - x493.toInt := hI
  have rg_x493 := i_range x493
  have kf_1 : sI σL h0 1 = sI σL h0 1 := rfl
  refine lv_iload_n hx hb dX12_lay_3 rfl (lv_at hl 0 rfl) ?_
  refine lv_if_lt (tgt := 36) hx hb dX12_lay_4 rfl (fun h494 => ?_) (fun h494 => ?_)
  · have ch494 := i_lt h494
    exact h_retv hF hr hlk dX12_lay_36 hH.1 hle ⟨hH.2, hfr, by (try dsimp only); omega⟩
  · have ch494 := i_nlt h494
    refine lv_aload_n hx hb dX12_lay_7 rfl (lv_at hl 2 rfl) ?_
    refine m_getA 0 hF hH fk_X12_7 dX12_lay_8 (by decide) rfl ?_
    refine lv_aload_n hx hb dX12_lay_11 rfl (lv_at hl 2 rfl) ?_
    refine m_getI hF hH fk_X12_261 dX12_lay_12 0 8000 rfl rfl (fun z495 ez495 vz495 => ?_)
    have wz495 := i_eq ez495
    refine lv_iload_n hx hb dX12_lay_15 rfl (lv_at hl 1 rfl) ?_
    refine lv_iload_n hx hb dX12_lay_16 rfl (lv_at hl 0 rfl) ?_
    refine lv_ishr hx hb dX12_lay_17 ?_
    refine lv_topi (fun z496 ez496 => ?_)
    refine lv_i2b hx hb dX12_lay_18 rfl ?_
    refine lv_topi (fun z497 ez497 => ?_)
    have hMp := hH.2
    refine m_bast 0 8000 hF hH dX12_lay_19 (by decide) rfl rfl rfl rfl (by omega) (by omega) (fun σ498 H locs eσ498 hH => ?_)
    have kf_1 : sI σ498 h0 1 = sI σL h0 1 := (keepFA eσ498 hMp (by decide)).trans kf_1
    have hle := hle.tr (show HLe σL σ498 by rw [eσ498]; exact HLe.uI)
    have hfr := hfr.aI hMp (by decide) eσ498 (by decide)
    refine lv_aload_n hx hb dX12_lay_20 rfl (lv_at hl 2 rfl) ?_
    refine lv_dup hx hb dX12_lay_21 rfl ?_
    refine m_getI hF hH fk_X12_261 dX12_lay_22 0 8000 rfl rfl (fun z499 ez499 vz499 => ?_)
    have wz499 := i_eq (ez499.trans kf_1)
    refine lv_iconst (v := 1) hx hb dX12_lay_25 (by decide) ?_
    refine lv_iadd hx hb dX12_lay_26 ?_
    refine lv_topi (fun z500 ez500 => ?_)
    try have hz500 := i_add ez500 (by omega) (by omega)
    have hMp := hH.2
    refine m_putI hF hH fk_X12_261 dX12_lay_27 0 8000 rfl rfl (by omega) rfl rfl rfl (fun σ501 H locs eσ501 hH => ?_)
    have kf_1 : (sI σ501 h0 1).toInt = z500.toInt := by rw [eσ501]; exact congrArg Int32.toInt u2_same
    have hle := hle.tr (show HLe σ498 σ501 by rw [eσ501]; exact HLe.uI)
    have hfr := hfr.fI hMp eσ501 (by decide)
    obtain ⟨z502, ez502⟩ : ∃ z : Int32, z = x493 + Int32.ofInt (-8) := ⟨_, rfl⟩
    have hz502 := i_add ez502 (by rw [show (Int32.ofInt (-8)).toInt = (-8) from rfl]; omega) (by rw [show (Int32.ofInt (-8)).toInt = (-8) from rfl]; omega)
    rw [show (Int32.ofInt (-8)).toInt = (-8) from rfl] at hz502
    refine lv_iinc (lv' := [(2, .int z502), (1, .int v), (0, .ref h0)]) (k := 0) (v := z502) hx hb dX12_lay_30 hl rfl ez502.symm (by decide) rfl (fun ls hl => ?_)
    refine lv_goto (tgt := 3) hx hb dX12_lay_33 rfl ?_
    have hl : lv_has ls 3 [(2, .int z502), (1, .int v), (0, .ref h0)] := lv_sub hl [0, 1, 2] rfl
    exact ih (z502) σ501 ls H locs (by (try dsimp only); omega) hl ⟨hle, hfr, ⟨by (try dsimp only); omega, by (try dsimp only); omega⟩⟩ hH
theorem dX12_feed_0 : decode cX12_feed 0 = .ok (.aload_n 0, 1) := by decide +kernel
theorem dX12_feed_1 : decode cX12_feed 1 = .ok (.getfield 261, 3) := by decide +kernel
theorem dX12_feed_4 : decode cX12_feed 4 = .ok (.bipush 20, 2) := by decide +kernel
theorem dX12_feed_6 : decode cX12_feed 6 = .ok (.iadd, 1) := by decide +kernel
theorem dX12_feed_7 : decode cX12_feed 7 = .ok (.sipush 8000, 3) := by decide +kernel
theorem dX12_feed_10 : decode cX12_feed 10 = .ok (.if_icmp .le 5, 3) := by decide +kernel
theorem dX12_feed_13 : decode cX12_feed 13 = .ok (.iconst (-1), 1) := by decide +kernel
theorem dX12_feed_14 : decode cX12_feed 14 = .ok (.ireturn, 1) := by decide +kernel
theorem dX12_feed_15 : decode cX12_feed 15 = .ok (.aload_n 0, 1) := by decide +kernel
theorem dX12_feed_16 : decode cX12_feed 16 = .ok (.iload_n 1, 1) := by decide +kernel
theorem dX12_feed_17 : decode cX12_feed 17 = .ok (.invokevirtual 265, 3) := by decide +kernel
theorem dX12_feed_20 : decode cX12_feed 20 = .ok (.aload_n 0, 1) := by decide +kernel
theorem dX12_feed_21 : decode cX12_feed 21 = .ok (.iload_n 2, 1) := by decide +kernel
theorem dX12_feed_22 : decode cX12_feed 22 = .ok (.invokevirtual 265, 3) := by decide +kernel
theorem dX12_feed_25 : decode cX12_feed 25 = .ok (.aload_n 0, 1) := by decide +kernel
theorem dX12_feed_26 : decode cX12_feed 26 = .ok (.iload_n 3, 1) := by decide +kernel
theorem dX12_feed_27 : decode cX12_feed 27 = .ok (.invokevirtual 265, 3) := by decide +kernel
theorem dX12_feed_30 : decode cX12_feed 30 = .ok (.aload_n 0, 1) := by decide +kernel
theorem dX12_feed_31 : decode cX12_feed 31 = .ok (.iload 4, 2) := by decide +kernel
theorem dX12_feed_33 : decode cX12_feed 33 = .ok (.invokevirtual 265, 3) := by decide +kernel
theorem dX12_feed_36 : decode cX12_feed 36 = .ok (.aload_n 0, 1) := by decide +kernel
theorem dX12_feed_37 : decode cX12_feed 37 = .ok (.iload 5, 2) := by decide +kernel
theorem dX12_feed_39 : decode cX12_feed 39 = .ok (.invokevirtual 265, 3) := by decide +kernel
theorem dX12_feed_42 : decode cX12_feed 42 = .ok (.aload_n 0, 1) := by decide +kernel
theorem dX12_feed_43 : decode cX12_feed 43 = .ok (.getfield 261, 3) := by decide +kernel
theorem dX12_feed_46 : decode cX12_feed 46 = .ok (.ireturn, 1) := by decide +kernel
set_option maxRecDepth 100000 in
set_option maxHeartbeats 4000000 in
theorem c_X12_feed (l : Launch) (D : va_G) (t : Nat → ClassId) (h0 : Nat) (L : Nat → Nat) (σ : HS) (hO : OK ph τ0 σ) (hM : MdI h0 L σ) (k1 k2 k3 k4 k5 : Int32) (sz : Nat) : HMi ph τ0 l D t yX12_feed cX12_feed 6 (some .int) ({ frames := 1, cells := 0, slots := 0, locals := 22 }) σ sz [.ref h0, .int k1, .int k2, .int k3, .int k4, .int k5] 0 0 (fun r σ' => MdI h0 L σ' ∧ Fr h0 L [1] [0] σ σ' ∧ ((8000 < (sI σ h0 1).toInt + 20 ∧ r.toInt = -1 ∧ (sI σ' h0 1).toInt = (sI σ h0 1).toInt) ∨ ((sI σ h0 1).toInt + 20 ≤ 8000 ∧ r.toInt = (sI σ h0 1).toInt + 20 ∧ (sI σ' h0 1).toInt = (sI σ h0 1).toInt + 20))) := by
  refine h_go hO (by decide) (Nat.le_of_ble_eq_true rfl) ?_
  intro p e s m below meth c ls A hF hr hlk hAe hH0 hA hl
  unfold hB
  rw [hAe]
  clear hAe
  have hF : FX p m c cX12_feed 6 s _ RX12 D t := hF
  have hx := hF.1.1
  have hb := hF.1.2.1
  have hH : MT D t A s.heap h0 L σ s.heap [] := ⟨hH0, hM⟩
  have hle : HLe σ σ := HLe.rf
  have hfr : Fr h0 L [1] [0] σ σ := Fr.rf
  have k_m1 : ((-1) : Int32).toInt = (-1) := rfl
  have k_0 : (0 : Int32).toInt = 0 := rfl
  have k_20 : (20 : Int32).toInt = 20 := rfl
  have k_8000 : (8000 : Int32).toInt = 8000 := rfl
  have rg_1 := i_range k1
  have rg_2 := i_range k2
  have rg_3 := i_range k3
  have rg_4 := i_range k4
  have rg_5 := i_range k5
  have hl : lv_has ls 6 [(0, .ref h0), (1, .int k1), (2, .int k2), (3, .int k3), (4, .int k4), (5, .int k5)] := hl
  have hts := m_fld hH 1 (by decide) rfl
  have hts : (0 : Int) ≤ (sI σ h0 1).toInt ∧ (sI σ h0 1).toInt ≤ 8000 := hts
  refine lv_aload_n hx hb dX12_feed_0 rfl (lv_at hl 0 rfl) ?_
  refine m_getI hF hH fk_X12_261 dX12_feed_1 0 8000 rfl rfl (fun z503 ez503 vz503 => ?_)
  have wz503 := i_eq ez503
  refine lv_bipush (v := 20) hx hb dX12_feed_4 (by decide) ?_
  refine lv_iadd hx hb dX12_feed_6 ?_
  refine lv_topi (fun z504 ez504 => ?_)
  try have hz504 := i_add ez504 (by omega) (by omega)
  refine lv_sipush (v := 8000) hx hb dX12_feed_7 (by decide) ?_
  refine lv_icmp_le (tgt := 15) hx hb dX12_feed_10 rfl (fun h505 => ?_) (fun h505 => ?_)
  · have ch505 := i_le h505
    refine lv_aload_n hx hb dX12_feed_15 rfl (lv_at hl 0 rfl) ?_
    refine lv_iload_n hx hb dX12_feed_16 rfl (lv_at hl 1 rfl) ?_
    refine m_cVv (As := [.int k1]) (rest := []) hF hH hA mv_X12_265 (fun sz => c_X12_lay l D t h0 L _ hH.1.2.2.2 hH.2 k1 (by omega) sz) dX12_feed_17 rfl rfl (by decide) rfl hl.1 (Nat.le_of_ble_eq_true rfl) (by decide) rfl (fun σ507 H locs lσ507 pz506 hH => ?_)
    obtain ⟨fz506, pz506⟩ := pz506
    have hle := hle.tr lσ507
    have hfr := hfr.tr fz506 (by decide) (by decide)
    refine lv_aload_n hx hb dX12_feed_20 rfl (lv_at hl 0 rfl) ?_
    refine lv_iload_n hx hb dX12_feed_21 rfl (lv_at hl 2 rfl) ?_
    refine m_cVv (As := [.int k2]) (rest := []) hF hH hA mv_X12_265 (fun sz => c_X12_lay l D t h0 L _ hH.1.2.2.2 hH.2 k2 (by omega) sz) dX12_feed_22 rfl rfl (by decide) rfl hl.1 (Nat.le_of_ble_eq_true rfl) (by decide) rfl (fun σ509 H locs lσ509 pz508 hH => ?_)
    obtain ⟨fz508, pz508⟩ := pz508
    have hle := hle.tr lσ509
    have hfr := hfr.tr fz508 (by decide) (by decide)
    refine lv_aload_n hx hb dX12_feed_25 rfl (lv_at hl 0 rfl) ?_
    refine lv_iload_n hx hb dX12_feed_26 rfl (lv_at hl 3 rfl) ?_
    refine m_cVv (As := [.int k3]) (rest := []) hF hH hA mv_X12_265 (fun sz => c_X12_lay l D t h0 L _ hH.1.2.2.2 hH.2 k3 (by omega) sz) dX12_feed_27 rfl rfl (by decide) rfl hl.1 (Nat.le_of_ble_eq_true rfl) (by decide) rfl (fun σ511 H locs lσ511 pz510 hH => ?_)
    obtain ⟨fz510, pz510⟩ := pz510
    have hle := hle.tr lσ511
    have hfr := hfr.tr fz510 (by decide) (by decide)
    refine lv_aload_n hx hb dX12_feed_30 rfl (lv_at hl 0 rfl) ?_
    refine lv_iload hx hb dX12_feed_31 (lv_at hl 4 rfl) ?_
    refine m_cVv (As := [.int k4]) (rest := []) hF hH hA mv_X12_265 (fun sz => c_X12_lay l D t h0 L _ hH.1.2.2.2 hH.2 k4 (by omega) sz) dX12_feed_33 rfl rfl (by decide) rfl hl.1 (Nat.le_of_ble_eq_true rfl) (by decide) rfl (fun σ513 H locs lσ513 pz512 hH => ?_)
    obtain ⟨fz512, pz512⟩ := pz512
    have hle := hle.tr lσ513
    have hfr := hfr.tr fz512 (by decide) (by decide)
    refine lv_aload_n hx hb dX12_feed_36 rfl (lv_at hl 0 rfl) ?_
    refine lv_iload hx hb dX12_feed_37 (lv_at hl 5 rfl) ?_
    refine m_cVv (As := [.int k5]) (rest := []) hF hH hA mv_X12_265 (fun sz => c_X12_lay l D t h0 L _ hH.1.2.2.2 hH.2 k5 (by omega) sz) dX12_feed_39 rfl rfl (by decide) rfl hl.1 (Nat.le_of_ble_eq_true rfl) (by decide) rfl (fun σ515 H locs lσ515 pz514 hH => ?_)
    obtain ⟨fz514, pz514⟩ := pz514
    have hle := hle.tr lσ515
    have hfr := hfr.tr fz514 (by decide) (by decide)
    refine lv_aload_n hx hb dX12_feed_42 rfl (lv_at hl 0 rfl) ?_
    refine m_getI hF hH fk_X12_261 dX12_feed_43 0 8000 rfl rfl (fun z516 ez516 vz516 => ?_)
    have wz516 := i_eq ez516
    exact h_reti hF hr hlk rfl dX12_feed_46 hH.1 hle ⟨hH.2, hfr, by (try dsimp only); omega⟩
  · have ch505 := i_nle h505
    refine lv_iconst (v := (-1)) hx hb dX12_feed_13 (by decide) ?_
    exact h_reti hF hr hlk rfl dX12_feed_14 hH.1 hle ⟨hH.2, hfr, by (try dsimp only); omega⟩
theorem dX12_cut_0 : decode cX12_cut 0 = .ok (.iload_n 1, 1) := by decide +kernel
theorem dX12_cut_1 : decode cX12_cut 1 = .ok (.ifCond .lt 11, 3) := by decide +kernel
theorem dX12_cut_4 : decode cX12_cut 4 = .ok (.iload_n 1, 1) := by decide +kernel
theorem dX12_cut_5 : decode cX12_cut 5 = .ok (.aload_n 0, 1) := by decide +kernel
theorem dX12_cut_6 : decode cX12_cut 6 = .ok (.getfield 261, 3) := by decide +kernel
theorem dX12_cut_9 : decode cX12_cut 9 = .ok (.if_icmp .le 5, 3) := by decide +kernel
theorem dX12_cut_12 : decode cX12_cut 12 = .ok (.iconst (-1), 1) := by decide +kernel
theorem dX12_cut_13 : decode cX12_cut 13 = .ok (.ireturn, 1) := by decide +kernel
theorem dX12_cut_14 : decode cX12_cut 14 = .ok (.aload_n 0, 1) := by decide +kernel
theorem dX12_cut_15 : decode cX12_cut 15 = .ok (.getfield 261, 3) := by decide +kernel
theorem dX12_cut_18 : decode cX12_cut 18 = .ok (.iload_n 1, 1) := by decide +kernel
theorem dX12_cut_19 : decode cX12_cut 19 = .ok (.isub, 1) := by decide +kernel
theorem dX12_cut_20 : decode cX12_cut 20 = .ok (.istore_n 2, 1) := by decide +kernel
theorem dX12_cut_21 : decode cX12_cut 21 = .ok (.aload_n 0, 1) := by decide +kernel
theorem dX12_cut_22 : decode cX12_cut 22 = .ok (.iload_n 1, 1) := by decide +kernel
theorem dX12_cut_23 : decode cX12_cut 23 = .ok (.putfield 261, 3) := by decide +kernel
theorem dX12_cut_26 : decode cX12_cut 26 = .ok (.iload_n 2, 1) := by decide +kernel
theorem dX12_cut_27 : decode cX12_cut 27 = .ok (.ireturn, 1) := by decide +kernel
set_option maxRecDepth 100000 in
set_option maxHeartbeats 4000000 in
theorem c_X12_cut (l : Launch) (D : va_G) (t : Nat → ClassId) (h0 : Nat) (L : Nat → Nat) (σ : HS) (hO : OK ph τ0 σ) (hM : MdI h0 L σ) (k : Int32) (sz : Nat) : HMi ph τ0 l D t yX12_cut cX12_cut 3 (some .int) ({ frames := 0, cells := 0, slots := 0, locals := 0 }) σ sz [.ref h0, .int k] 0 0 (fun r σ' => MdI h0 L σ' ∧ Fr h0 L [1] [] σ σ' ∧ (((k.toInt < 0 ∨ (sI σ h0 1).toInt < k.toInt) ∧ r.toInt = -1 ∧ (sI σ' h0 1).toInt = (sI σ h0 1).toInt) ∨ (0 ≤ k.toInt ∧ k.toInt ≤ (sI σ h0 1).toInt ∧ r.toInt = (sI σ h0 1).toInt - k.toInt ∧ (sI σ' h0 1).toInt = k.toInt))) := by
  refine h_go hO (by decide) (Nat.le_of_ble_eq_true rfl) ?_
  intro p e s m below meth c ls A hF hr hlk hAe hH0 hA hl
  unfold hB
  rw [hAe]
  clear hAe
  have hF : FX p m c cX12_cut 3 s _ RX12 D t := hF
  have hx := hF.1.1
  have hb := hF.1.2.1
  have hH : MT D t A s.heap h0 L σ s.heap [] := ⟨hH0, hM⟩
  have hle : HLe σ σ := HLe.rf
  have hfr : Fr h0 L [1] [] σ σ := Fr.rf
  have k_m1 : ((-1) : Int32).toInt = (-1) := rfl
  have k_0 : (0 : Int32).toInt = 0 := rfl
  have rg_1 := i_range k
  have hl : lv_has ls 3 [(0, .ref h0), (1, .int k)] := hl
  have kf_1 : sI σ h0 1 = sI σ h0 1 := rfl
  refine lv_iload_n hx hb dX12_cut_0 rfl (lv_at hl 1 rfl) ?_
  refine lv_if_lt (tgt := 12) hx hb dX12_cut_1 rfl (fun h517 => ?_) (fun h517 => ?_)
  · have ch517 := i_lt h517
    refine lv_iconst (v := (-1)) hx hb dX12_cut_12 (by decide) ?_
    exact h_reti hF hr hlk rfl dX12_cut_13 hH.1 hle ⟨hH.2, hfr, by (try dsimp only); omega⟩
  · have ch517 := i_nlt h517
    refine lv_iload_n hx hb dX12_cut_4 rfl (lv_at hl 1 rfl) ?_
    refine lv_aload_n hx hb dX12_cut_5 rfl (lv_at hl 0 rfl) ?_
    refine m_getI hF hH fk_X12_261 dX12_cut_6 0 8000 rfl rfl (fun z518 ez518 vz518 => ?_)
    have wz518 := i_eq ez518
    refine lv_icmp_le (tgt := 14) hx hb dX12_cut_9 rfl (fun h519 => ?_) (fun h519 => ?_)
    · have ch519 := i_le h519
      refine lv_aload_n hx hb dX12_cut_14 rfl (lv_at hl 0 rfl) ?_
      refine m_getI hF hH fk_X12_261 dX12_cut_15 0 8000 rfl rfl (fun z520 ez520 vz520 => ?_)
      have wz520 := i_eq ez520
      refine lv_iload_n hx hb dX12_cut_18 rfl (lv_at hl 1 rfl) ?_
      refine lv_isub hx hb dX12_cut_19 ?_
      refine lv_topi (fun z521 ez521 => ?_)
      try have hz521 := i_sub ez521 (by omega) (by omega)
      refine lv_istore_n (lv' := [(2, .int z521), (0, .ref h0), (1, .int k)]) hx hb dX12_cut_20 rfl hl (by decide) rfl (fun ls hl => ?_)
      refine lv_aload_n hx hb dX12_cut_21 rfl (lv_at hl 1 rfl) ?_
      refine lv_iload_n hx hb dX12_cut_22 rfl (lv_at hl 2 rfl) ?_
      have hMp := hH.2
      refine m_putI hF hH fk_X12_261 dX12_cut_23 0 8000 rfl rfl (by omega) rfl rfl rfl (fun σ522 H locs eσ522 hH => ?_)
      have kf_1 : (sI σ522 h0 1).toInt = k.toInt := by rw [eσ522]; exact congrArg Int32.toInt u2_same
      have hle := hle.tr (show HLe σ σ522 by rw [eσ522]; exact HLe.uI)
      have hfr := hfr.fI hMp eσ522 (by decide)
      refine lv_iload_n hx hb dX12_cut_26 rfl (lv_at hl 0 rfl) ?_
      exact h_reti hF hr hlk rfl dX12_cut_27 hH.1 hle ⟨hH.2, hfr, by (try dsimp only); omega⟩
    · have ch519 := i_nle h519
      refine lv_iconst (v := (-1)) hx hb dX12_cut_12 (by decide) ?_
      exact h_reti hF hr hlk rfl dX12_cut_13 hH.1 hle ⟨hH.2, hfr, by (try dsimp only); omega⟩
theorem dX12_isOpen_0 : decode cX12_isOpen 0 = .ok (.iload_n 1, 1) := by decide +kernel
theorem dX12_isOpen_1 : decode cX12_isOpen 1 = .ok (.invokestatic 325, 3) := by decide +kernel
theorem dX12_isOpen_4 : decode cX12_isOpen 4 = .ok (.ifCond .eq 16, 3) := by decide +kernel
theorem dX12_isOpen_7 : decode cX12_isOpen 7 = .ok (.aload_n 0, 1) := by decide +kernel
theorem dX12_isOpen_8 : decode cX12_isOpen 8 = .ok (.getfield 89, 3) := by decide +kernel
theorem dX12_isOpen_11 : decode cX12_isOpen 11 = .ok (.iload_n 1, 1) := by decide +kernel
theorem dX12_isOpen_12 : decode cX12_isOpen 12 = .ok (.baload, 1) := by decide +kernel
theorem dX12_isOpen_13 : decode cX12_isOpen 13 = .ok (.ifCond .eq 7, 3) := by decide +kernel
theorem dX12_isOpen_16 : decode cX12_isOpen 16 = .ok (.iconst 1, 1) := by decide +kernel
theorem dX12_isOpen_17 : decode cX12_isOpen 17 = .ok (.goto 4, 3) := by decide +kernel
theorem dX12_isOpen_20 : decode cX12_isOpen 20 = .ok (.iconst 0, 1) := by decide +kernel
theorem dX12_isOpen_21 : decode cX12_isOpen 21 = .ok (.ireturn, 1) := by decide +kernel
set_option maxRecDepth 100000 in
set_option maxHeartbeats 4000000 in
theorem c_X12_isOpen (l : Launch) (D : va_G) (t : Nat → ClassId) (h0 : Nat) (L : Nat → Nat) (σ : HS) (hO : OK ph τ0 σ) (hM : MdI h0 L σ) (k : Int32) (sz : Nat) : HMi ph τ0 l D t yX12_isOpen cX12_isOpen 2 (some .boolean) ({ frames := 1, cells := 0, slots := 0, locals := 20 }) σ sz [.ref h0, .int k] 0 0 (fun r σ' => MdI h0 L σ' ∧ σ' = σ ∧ (0 ≤ r.toInt ∧ r.toInt ≤ 1)) := by
  refine h_go hO (by decide) (Nat.le_of_ble_eq_true rfl) ?_
  intro p e s m below meth c ls A hF hr hlk hAe hH0 hA hl
  unfold hB
  rw [hAe]
  clear hAe
  have hF : FX p m c cX12_isOpen 2 s _ RX12 D t := hF
  have hx := hF.1.1
  have hb := hF.1.2.1
  have hH : MT D t A s.heap h0 L σ s.heap [] := ⟨hH0, hM⟩
  have hle : HLe σ σ := HLe.rf
  have k_0 : (0 : Int32).toInt = 0 := rfl
  have k_1 : (1 : Int32).toInt = 1 := rfl
  have rg_1 := i_range k
  have hl : lv_has ls 2 [(0, .ref h0), (1, .int k)] := hl
  refine lv_iload_n hx hb dX12_isOpen_0 rfl (lv_at hl 1 rfl) ?_
  refine m_cSi (As := [.int k]) (rest := []) hF hH hA ms_X12_325 (fun sz => c_X12_isLine l D t h0 L _ hH.1.2.2.2 hH.2 k  sz) dX12_isOpen_1 rfl rfl (by decide) rfl hl.1 (Nat.le_of_ble_eq_true rfl) (by decide) rfl (fun _ _ h => h.1) (fun z523 H locs pz523 hH => ?_)
  have pz523 := pz523.2
  refine lv_if_eq (tgt := 20) hx hb dX12_isOpen_4 rfl (fun h525 => ?_) (fun h525 => ?_)
  · have ch525 := i_eq h525
    refine lv_iconst (v := 0) hx hb dX12_isOpen_20 (by decide) ?_
    exact h_reti hF hr hlk (i_01 (by omega)).1 dX12_isOpen_21 hH.1 hle ⟨hH.2, rfl, by (try dsimp only); omega⟩
  · have ch525 := i_ne h525
    refine lv_aload_n hx hb dX12_isOpen_7 rfl (lv_at hl 0 rfl) ?_
    refine m_getA 25 hF hH fk_X12_89 dX12_isOpen_8 (by decide) rfl ?_
    refine lv_iload_n hx hb dX12_isOpen_11 rfl (lv_at hl 1 rfl) ?_
    refine m_zald 25 6 hF hH dX12_isOpen_12 (by decide) rfl rfl 0 1 rfl rfl (by omega) (by omega) (fun z526 ez526 vz526 => ?_)
    have wz526 := i_eq ez526
    refine lv_if_eq (tgt := 20) hx hb dX12_isOpen_13 rfl (fun h527 => ?_) (fun h527 => ?_)
    · have ch527 := i_eq h527
      refine lv_iconst (v := 0) hx hb dX12_isOpen_20 (by decide) ?_
      exact h_reti hF hr hlk (i_01 (by omega)).1 dX12_isOpen_21 hH.1 hle ⟨hH.2, rfl, by (try dsimp only); omega⟩
    · have ch527 := i_ne h527
      refine lv_iconst (v := 1) hx hb dX12_isOpen_16 (by decide) ?_
      refine lv_goto (tgt := 21) hx hb dX12_isOpen_17 rfl ?_
      exact h_reti hF hr hlk (i_01 (by omega)).1 dX12_isOpen_21 hH.1 hle ⟨hH.2, rfl, by (try dsimp only); omega⟩
theorem dX12_outs_0 : decode cX12_outs 0 = .ok (.iload_n 1, 1) := by decide +kernel
theorem dX12_outs_1 : decode cX12_outs 1 = .ok (.invokestatic 325, 3) := by decide +kernel
theorem dX12_outs_4 : decode cX12_outs 4 = .ok (.ifCond .eq 12, 3) := by decide +kernel
theorem dX12_outs_7 : decode cX12_outs 7 = .ok (.aload_n 0, 1) := by decide +kernel
theorem dX12_outs_8 : decode cX12_outs 8 = .ok (.getfield 99, 3) := by decide +kernel
theorem dX12_outs_11 : decode cX12_outs 11 = .ok (.iload_n 1, 1) := by decide +kernel
theorem dX12_outs_12 : decode cX12_outs 12 = .ok (.iaload, 1) := by decide +kernel
theorem dX12_outs_13 : decode cX12_outs 13 = .ok (.goto 4, 3) := by decide +kernel
theorem dX12_outs_16 : decode cX12_outs 16 = .ok (.iconst (-1), 1) := by decide +kernel
theorem dX12_outs_17 : decode cX12_outs 17 = .ok (.ireturn, 1) := by decide +kernel
set_option maxRecDepth 100000 in
set_option maxHeartbeats 4000000 in
theorem c_X12_outs (l : Launch) (D : va_G) (t : Nat → ClassId) (h0 : Nat) (L : Nat → Nat) (σ : HS) (hO : OK ph τ0 σ) (hM : MdI h0 L σ) (k : Int32) (sz : Nat) : HMi ph τ0 l D t yX12_outs cX12_outs 2 (some .int) ({ frames := 1, cells := 0, slots := 0, locals := 20 }) σ sz [.ref h0, .int k] 0 0 (fun r σ' => MdI h0 L σ' ∧ σ' = σ ∧ (True)) := by
  refine h_go hO (by decide) (Nat.le_of_ble_eq_true rfl) ?_
  intro p e s m below meth c ls A hF hr hlk hAe hH0 hA hl
  unfold hB
  rw [hAe]
  clear hAe
  have hF : FX p m c cX12_outs 2 s _ RX12 D t := hF
  have hx := hF.1.1
  have hb := hF.1.2.1
  have hH : MT D t A s.heap h0 L σ s.heap [] := ⟨hH0, hM⟩
  have hle : HLe σ σ := HLe.rf
  have k_m1 : ((-1) : Int32).toInt = (-1) := rfl
  have k_0 : (0 : Int32).toInt = 0 := rfl
  have rg_1 := i_range k
  have hl : lv_has ls 2 [(0, .ref h0), (1, .int k)] := hl
  refine lv_iload_n hx hb dX12_outs_0 rfl (lv_at hl 1 rfl) ?_
  refine m_cSi (As := [.int k]) (rest := []) hF hH hA ms_X12_325 (fun sz => c_X12_isLine l D t h0 L _ hH.1.2.2.2 hH.2 k  sz) dX12_outs_1 rfl rfl (by decide) rfl hl.1 (Nat.le_of_ble_eq_true rfl) (by decide) rfl (fun _ _ h => h.1) (fun z528 H locs pz528 hH => ?_)
  have pz528 := pz528.2
  refine lv_if_eq (tgt := 16) hx hb dX12_outs_4 rfl (fun h530 => ?_) (fun h530 => ?_)
  · have ch530 := i_eq h530
    refine lv_iconst (v := (-1)) hx hb dX12_outs_16 (by decide) ?_
    exact h_reti hF hr hlk rfl dX12_outs_17 hH.1 hle ⟨hH.2, rfl, trivial⟩
  · have ch530 := i_ne h530
    refine lv_aload_n hx hb dX12_outs_7 rfl (lv_at hl 0 rfl) ?_
    refine m_getA 28 hF hH fk_X12_99 dX12_outs_8 (by decide) rfl ?_
    refine lv_iload_n hx hb dX12_outs_11 rfl (lv_at hl 1 rfl) ?_
    refine m_iald 28 6 hF hH dX12_outs_12 (by decide) rfl rfl 0 16000 rfl rfl (by omega) (by omega) (fun z531 ez531 vz531 => ?_)
    have wz531 := i_eq ez531
    refine lv_goto (tgt := 17) hx hb dX12_outs_13 rfl ?_
    exact h_reti hF hr hlk rfl dX12_outs_17 hH.1 hle ⟨hH.2, rfl, trivial⟩
theorem dX12_drop_0 : decode cX12_drop 0 = .ok (.iload_n 1, 1) := by decide +kernel
theorem dX12_drop_1 : decode cX12_drop 1 = .ok (.invokestatic 325, 3) := by decide +kernel
theorem dX12_drop_4 : decode cX12_drop 4 = .ok (.ifCond .ne 5, 3) := by decide +kernel
theorem dX12_drop_7 : decode cX12_drop 7 = .ok (.iconst (-1), 1) := by decide +kernel
theorem dX12_drop_8 : decode cX12_drop 8 = .ok (.ireturn, 1) := by decide +kernel
theorem dX12_drop_9 : decode cX12_drop 9 = .ok (.aload_n 0, 1) := by decide +kernel
theorem dX12_drop_10 : decode cX12_drop 10 = .ok (.getfield 99, 3) := by decide +kernel
theorem dX12_drop_13 : decode cX12_drop 13 = .ok (.iload_n 1, 1) := by decide +kernel
theorem dX12_drop_14 : decode cX12_drop 14 = .ok (.iaload, 1) := by decide +kernel
theorem dX12_drop_15 : decode cX12_drop 15 = .ok (.istore_n 2, 1) := by decide +kernel
theorem dX12_drop_16 : decode cX12_drop 16 = .ok (.aload_n 0, 1) := by decide +kernel
theorem dX12_drop_17 : decode cX12_drop 17 = .ok (.getfield 99, 3) := by decide +kernel
theorem dX12_drop_20 : decode cX12_drop 20 = .ok (.iload_n 1, 1) := by decide +kernel
theorem dX12_drop_21 : decode cX12_drop 21 = .ok (.iconst 0, 1) := by decide +kernel
theorem dX12_drop_22 : decode cX12_drop 22 = .ok (.iastore, 1) := by decide +kernel
theorem dX12_drop_23 : decode cX12_drop 23 = .ok (.iload_n 2, 1) := by decide +kernel
theorem dX12_drop_24 : decode cX12_drop 24 = .ok (.ireturn, 1) := by decide +kernel
set_option maxRecDepth 100000 in
set_option maxHeartbeats 4000000 in
theorem c_X12_drop (l : Launch) (D : va_G) (t : Nat → ClassId) (h0 : Nat) (L : Nat → Nat) (σ : HS) (hO : OK ph τ0 σ) (hM : MdI h0 L σ) (k : Int32) (sz : Nat) : HMi ph τ0 l D t yX12_drop cX12_drop 3 (some .int) ({ frames := 1, cells := 0, slots := 0, locals := 20 }) σ sz [.ref h0, .int k] 0 0 (fun r σ' => MdI h0 L σ' ∧ Fr h0 L [] [28] σ σ' ∧ (True)) := by
  refine h_go hO (by decide) (Nat.le_of_ble_eq_true rfl) ?_
  intro p e s m below meth c ls A hF hr hlk hAe hH0 hA hl
  unfold hB
  rw [hAe]
  clear hAe
  have hF : FX p m c cX12_drop 3 s _ RX12 D t := hF
  have hx := hF.1.1
  have hb := hF.1.2.1
  have hH : MT D t A s.heap h0 L σ s.heap [] := ⟨hH0, hM⟩
  have hle : HLe σ σ := HLe.rf
  have hfr : Fr h0 L [] [28] σ σ := Fr.rf
  have k_m1 : ((-1) : Int32).toInt = (-1) := rfl
  have k_0 : (0 : Int32).toInt = 0 := rfl
  have rg_1 := i_range k
  have hl : lv_has ls 3 [(0, .ref h0), (1, .int k)] := hl
  refine lv_iload_n hx hb dX12_drop_0 rfl (lv_at hl 1 rfl) ?_
  refine m_cSi (As := [.int k]) (rest := []) hF hH hA ms_X12_325 (fun sz => c_X12_isLine l D t h0 L _ hH.1.2.2.2 hH.2 k  sz) dX12_drop_1 rfl rfl (by decide) rfl hl.1 (Nat.le_of_ble_eq_true rfl) (by decide) rfl (fun _ _ h => h.1) (fun z532 H locs pz532 hH => ?_)
  have pz532 := pz532.2
  refine lv_if_ne (tgt := 9) hx hb dX12_drop_4 rfl (fun h534 => ?_) (fun h534 => ?_)
  · have ch534 := i_ne h534
    refine lv_aload_n hx hb dX12_drop_9 rfl (lv_at hl 0 rfl) ?_
    refine m_getA 28 hF hH fk_X12_99 dX12_drop_10 (by decide) rfl ?_
    refine lv_iload_n hx hb dX12_drop_13 rfl (lv_at hl 1 rfl) ?_
    refine m_iald 28 6 hF hH dX12_drop_14 (by decide) rfl rfl 0 16000 rfl rfl (by omega) (by omega) (fun z535 ez535 vz535 => ?_)
    have wz535 := i_eq ez535
    refine lv_istore_n (lv' := [(2, .int z535), (0, .ref h0), (1, .int k)]) hx hb dX12_drop_15 rfl hl (by decide) rfl (fun ls hl => ?_)
    refine lv_aload_n hx hb dX12_drop_16 rfl (lv_at hl 1 rfl) ?_
    refine m_getA 28 hF hH fk_X12_99 dX12_drop_17 (by decide) rfl ?_
    refine lv_iload_n hx hb dX12_drop_20 rfl (lv_at hl 2 rfl) ?_
    refine lv_iconst (v := 0) hx hb dX12_drop_21 (by decide) ?_
    have hMp := hH.2
    refine m_iast 28 6 hF hH dX12_drop_22 (by decide) rfl rfl 0 16000 rfl rfl (by omega) (by omega) (by omega) (fun σ536 H locs eσ536 hH => ?_)
    have hle := hle.tr (show HLe σ σ536 by rw [eσ536]; exact HLe.uI)
    have hfr := hfr.aI hMp (by decide) eσ536 (by decide)
    refine lv_iload_n hx hb dX12_drop_23 rfl (lv_at hl 0 rfl) ?_
    exact h_reti hF hr hlk rfl dX12_drop_24 hH.1 hle ⟨hH.2, hfr, trivial⟩
  · have ch534 := i_eq h534
    refine lv_iconst (v := (-1)) hx hb dX12_drop_7 (by decide) ?_
    exact h_reti hF hr hlk rfl dX12_drop_8 hH.1 hle ⟨hH.2, hfr, trivial⟩
theorem dX12_connect_0 : decode cX12_connect 0 = .ok (.iload_n 1, 1) := by decide +kernel
theorem dX12_connect_1 : decode cX12_connect 1 = .ok (.invokestatic 325, 3) := by decide +kernel
theorem dX12_connect_4 : decode cX12_connect 4 = .ok (.ifCond .eq 12, 3) := by decide +kernel
theorem dX12_connect_7 : decode cX12_connect 7 = .ok (.aload_n 0, 1) := by decide +kernel
theorem dX12_connect_8 : decode cX12_connect 8 = .ok (.getfield 89, 3) := by decide +kernel
theorem dX12_connect_11 : decode cX12_connect 11 = .ok (.iload_n 1, 1) := by decide +kernel
theorem dX12_connect_12 : decode cX12_connect 12 = .ok (.baload, 1) := by decide +kernel
theorem dX12_connect_13 : decode cX12_connect 13 = .ok (.ifCond .eq 5, 3) := by decide +kernel
theorem dX12_connect_16 : decode cX12_connect 16 = .ok (.iconst 0, 1) := by decide +kernel
theorem dX12_connect_17 : decode cX12_connect 17 = .ok (.ireturn, 1) := by decide +kernel
theorem dX12_connect_18 : decode cX12_connect 18 = .ok (.aload_n 0, 1) := by decide +kernel
theorem dX12_connect_19 : decode cX12_connect 19 = .ok (.getfield 89, 3) := by decide +kernel
theorem dX12_connect_22 : decode cX12_connect 22 = .ok (.iload_n 1, 1) := by decide +kernel
theorem dX12_connect_23 : decode cX12_connect 23 = .ok (.iconst 1, 1) := by decide +kernel
theorem dX12_connect_24 : decode cX12_connect 24 = .ok (.bastore, 1) := by decide +kernel
theorem dX12_connect_25 : decode cX12_connect 25 = .ok (.aload_n 0, 1) := by decide +kernel
theorem dX12_connect_26 : decode cX12_connect 26 = .ok (.getfield 92, 3) := by decide +kernel
theorem dX12_connect_29 : decode cX12_connect 29 = .ok (.iload_n 1, 1) := by decide +kernel
theorem dX12_connect_30 : decode cX12_connect 30 = .ok (.iconst 0, 1) := by decide +kernel
theorem dX12_connect_31 : decode cX12_connect 31 = .ok (.bastore, 1) := by decide +kernel
theorem dX12_connect_32 : decode cX12_connect 32 = .ok (.aload_n 0, 1) := by decide +kernel
theorem dX12_connect_33 : decode cX12_connect 33 = .ok (.getfield 99, 3) := by decide +kernel
theorem dX12_connect_36 : decode cX12_connect 36 = .ok (.iload_n 1, 1) := by decide +kernel
theorem dX12_connect_37 : decode cX12_connect 37 = .ok (.iconst 0, 1) := by decide +kernel
theorem dX12_connect_38 : decode cX12_connect 38 = .ok (.iastore, 1) := by decide +kernel
theorem dX12_connect_39 : decode cX12_connect 39 = .ok (.aload_n 0, 1) := by decide +kernel
theorem dX12_connect_40 : decode cX12_connect 40 = .ok (.getfield 106, 3) := by decide +kernel
theorem dX12_connect_43 : decode cX12_connect 43 = .ok (.iload_n 1, 1) := by decide +kernel
theorem dX12_connect_44 : decode cX12_connect 44 = .ok (.iconst 0, 1) := by decide +kernel
theorem dX12_connect_45 : decode cX12_connect 45 = .ok (.iastore, 1) := by decide +kernel
theorem dX12_connect_46 : decode cX12_connect 46 = .ok (.aload_n 0, 1) := by decide +kernel
theorem dX12_connect_47 : decode cX12_connect 47 = .ok (.getfield 112, 3) := by decide +kernel
theorem dX12_connect_50 : decode cX12_connect 50 = .ok (.iload_n 1, 1) := by decide +kernel
theorem dX12_connect_51 : decode cX12_connect 51 = .ok (.iconst 1, 1) := by decide +kernel
theorem dX12_connect_52 : decode cX12_connect 52 = .ok (.iastore, 1) := by decide +kernel
theorem dX12_connect_53 : decode cX12_connect 53 = .ok (.aload_n 0, 1) := by decide +kernel
theorem dX12_connect_54 : decode cX12_connect 54 = .ok (.getfield 109, 3) := by decide +kernel
theorem dX12_connect_57 : decode cX12_connect 57 = .ok (.bipush 16, 2) := by decide +kernel
theorem dX12_connect_59 : decode cX12_connect 59 = .ok (.iload_n 1, 1) := by decide +kernel
theorem dX12_connect_60 : decode cX12_connect 60 = .ok (.imul, 1) := by decide +kernel
theorem dX12_connect_61 : decode cX12_connect 61 = .ok (.lconst 0, 1) := by decide +kernel
theorem dX12_connect_62 : decode cX12_connect 62 = .ok (.lastore, 1) := by decide +kernel
theorem dX12_connect_63 : decode cX12_connect 63 = .ok (.aload_n 0, 1) := by decide +kernel
theorem dX12_connect_64 : decode cX12_connect 64 = .ok (.getfield 115, 3) := by decide +kernel
theorem dX12_connect_67 : decode cX12_connect 67 = .ok (.iload_n 1, 1) := by decide +kernel
theorem dX12_connect_68 : decode cX12_connect 68 = .ok (.lconst 0, 1) := by decide +kernel
theorem dX12_connect_69 : decode cX12_connect 69 = .ok (.lastore, 1) := by decide +kernel
theorem dX12_connect_70 : decode cX12_connect 70 = .ok (.iconst 1, 1) := by decide +kernel
theorem dX12_connect_71 : decode cX12_connect 71 = .ok (.ireturn, 1) := by decide +kernel
set_option maxRecDepth 100000 in
set_option maxHeartbeats 4000000 in
theorem c_X12_connect (l : Launch) (D : va_G) (t : Nat → ClassId) (h0 : Nat) (L : Nat → Nat) (σ : HS) (hO : OK ph τ0 σ) (hM : MdI h0 L σ) (k : Int32) (sz : Nat) : HMi ph τ0 l D t yX12_connect cX12_connect 2 (some .boolean) ({ frames := 1, cells := 0, slots := 0, locals := 20 }) σ sz [.ref h0, .int k] 0 0 (fun r σ' => MdI h0 L σ' ∧ Fr h0 L [] [25, 26, 28, 30, 31, 32, 33] σ σ' ∧ (0 ≤ r.toInt ∧ r.toInt ≤ 1)) := by
  refine h_go hO (by decide) (Nat.le_of_ble_eq_true rfl) ?_
  intro p e s m below meth c ls A hF hr hlk hAe hH0 hA hl
  unfold hB
  rw [hAe]
  clear hAe
  have hF : FX p m c cX12_connect 2 s _ RX12 D t := hF
  have hx := hF.1.1
  have hb := hF.1.2.1
  have hH : MT D t A s.heap h0 L σ s.heap [] := ⟨hH0, hM⟩
  have hle : HLe σ σ := HLe.rf
  have hfr : Fr h0 L [] [25, 26, 28, 30, 31, 32, 33] σ σ := Fr.rf
  have k_0 : (0 : Int32).toInt = 0 := rfl
  have k_1 : (1 : Int32).toInt = 1 := rfl
  have k_16 : (16 : Int32).toInt = 16 := rfl
  have rg_1 := i_range k
  have hl : lv_has ls 2 [(0, .ref h0), (1, .int k)] := hl
  refine lv_iload_n hx hb dX12_connect_0 rfl (lv_at hl 1 rfl) ?_
  refine m_cSi (As := [.int k]) (rest := []) hF hH hA ms_X12_325 (fun sz => c_X12_isLine l D t h0 L _ hH.1.2.2.2 hH.2 k  sz) dX12_connect_1 rfl rfl (by decide) rfl hl.1 (Nat.le_of_ble_eq_true rfl) (by decide) rfl (fun _ _ h => h.1) (fun z537 H locs pz537 hH => ?_)
  have pz537 := pz537.2
  refine lv_if_eq (tgt := 16) hx hb dX12_connect_4 rfl (fun h539 => ?_) (fun h539 => ?_)
  · have ch539 := i_eq h539
    refine lv_iconst (v := 0) hx hb dX12_connect_16 (by decide) ?_
    exact h_reti hF hr hlk (i_01 (by omega)).1 dX12_connect_17 hH.1 hle ⟨hH.2, hfr, by (try dsimp only); omega⟩
  · have ch539 := i_ne h539
    refine lv_aload_n hx hb dX12_connect_7 rfl (lv_at hl 0 rfl) ?_
    refine m_getA 25 hF hH fk_X12_89 dX12_connect_8 (by decide) rfl ?_
    refine lv_iload_n hx hb dX12_connect_11 rfl (lv_at hl 1 rfl) ?_
    refine m_zald 25 6 hF hH dX12_connect_12 (by decide) rfl rfl 0 1 rfl rfl (by omega) (by omega) (fun z540 ez540 vz540 => ?_)
    have wz540 := i_eq ez540
    refine lv_if_eq (tgt := 18) hx hb dX12_connect_13 rfl (fun h541 => ?_) (fun h541 => ?_)
    · have ch541 := i_eq h541
      refine lv_aload_n hx hb dX12_connect_18 rfl (lv_at hl 0 rfl) ?_
      refine m_getA 25 hF hH fk_X12_89 dX12_connect_19 (by decide) rfl ?_
      refine lv_iload_n hx hb dX12_connect_22 rfl (lv_at hl 1 rfl) ?_
      refine lv_iconst (v := 1) hx hb dX12_connect_23 (by decide) ?_
      have hMp := hH.2
      refine m_zast 25 6 hF hH dX12_connect_24 (by decide) rfl rfl rfl rfl (by omega) (by omega) (fun σ542 H locs eσ542 hH => ?_)
      have hle := hle.tr (show HLe σ σ542 by rw [eσ542]; exact HLe.uI)
      have hfr := hfr.aI hMp (by decide) eσ542 (by decide)
      refine lv_aload_n hx hb dX12_connect_25 rfl (lv_at hl 0 rfl) ?_
      refine m_getA 26 hF hH fk_X12_92 dX12_connect_26 (by decide) rfl ?_
      refine lv_iload_n hx hb dX12_connect_29 rfl (lv_at hl 1 rfl) ?_
      refine lv_iconst (v := 0) hx hb dX12_connect_30 (by decide) ?_
      have hMp := hH.2
      refine m_zast 26 6 hF hH dX12_connect_31 (by decide) rfl rfl rfl rfl (by omega) (by omega) (fun σ543 H locs eσ543 hH => ?_)
      have hle := hle.tr (show HLe σ542 σ543 by rw [eσ543]; exact HLe.uI)
      have hfr := hfr.aI hMp (by decide) eσ543 (by decide)
      refine lv_aload_n hx hb dX12_connect_32 rfl (lv_at hl 0 rfl) ?_
      refine m_getA 28 hF hH fk_X12_99 dX12_connect_33 (by decide) rfl ?_
      refine lv_iload_n hx hb dX12_connect_36 rfl (lv_at hl 1 rfl) ?_
      refine lv_iconst (v := 0) hx hb dX12_connect_37 (by decide) ?_
      have hMp := hH.2
      refine m_iast 28 6 hF hH dX12_connect_38 (by decide) rfl rfl 0 16000 rfl rfl (by omega) (by omega) (by omega) (fun σ544 H locs eσ544 hH => ?_)
      have hle := hle.tr (show HLe σ543 σ544 by rw [eσ544]; exact HLe.uI)
      have hfr := hfr.aI hMp (by decide) eσ544 (by decide)
      refine lv_aload_n hx hb dX12_connect_39 rfl (lv_at hl 0 rfl) ?_
      refine m_getA 30 hF hH fk_X12_106 dX12_connect_40 (by decide) rfl ?_
      refine lv_iload_n hx hb dX12_connect_43 rfl (lv_at hl 1 rfl) ?_
      refine lv_iconst (v := 0) hx hb dX12_connect_44 (by decide) ?_
      have hMp := hH.2
      refine m_iast 30 6 hF hH dX12_connect_45 (by decide) rfl rfl 0 12003 rfl rfl (by omega) (by omega) (by omega) (fun σ545 H locs eσ545 hH => ?_)
      have hle := hle.tr (show HLe σ544 σ545 by rw [eσ545]; exact HLe.uI)
      have hfr := hfr.aI hMp (by decide) eσ545 (by decide)
      refine lv_aload_n hx hb dX12_connect_46 rfl (lv_at hl 0 rfl) ?_
      refine m_getA 32 hF hH fk_X12_112 dX12_connect_47 (by decide) rfl ?_
      refine lv_iload_n hx hb dX12_connect_50 rfl (lv_at hl 1 rfl) ?_
      refine lv_iconst (v := 1) hx hb dX12_connect_51 (by decide) ?_
      have hMp := hH.2
      refine m_iast 32 6 hF hH dX12_connect_52 (by decide) rfl rfl 0 16 rfl rfl (by omega) (by omega) (by omega) (fun σ546 H locs eσ546 hH => ?_)
      have hle := hle.tr (show HLe σ545 σ546 by rw [eσ546]; exact HLe.uI)
      have hfr := hfr.aI hMp (by decide) eσ546 (by decide)
      refine lv_aload_n hx hb dX12_connect_53 rfl (lv_at hl 0 rfl) ?_
      refine m_getA 31 hF hH fk_X12_109 dX12_connect_54 (by decide) rfl ?_
      refine lv_bipush (v := 16) hx hb dX12_connect_57 (by decide) ?_
      refine lv_iload_n hx hb dX12_connect_59 rfl (lv_at hl 1 rfl) ?_
      refine lv_imul hx hb dX12_connect_60 ?_
      refine lv_topi (fun z547 ez547 => ?_)
      try have hz547 := i_mulk 16 rfl ez547 (by omega) (by omega)
      refine lv_lconst (v := 0) hx hb dX12_connect_61 (by decide) ?_
      have hMp := hH.2
      refine m_last 31 96 hF hH dX12_connect_62 (by decide) rfl rfl (by omega) (by omega) (fun σ548 H locs eσ548 hH => ?_)
      have hle := hle.tr (show HLe σ546 σ548 by rw [eσ548]; exact HLe.uJ)
      have hfr := hfr.aJ hMp (by decide) eσ548 (by decide)
      refine lv_aload_n hx hb dX12_connect_63 rfl (lv_at hl 0 rfl) ?_
      refine m_getA 33 hF hH fk_X12_115 dX12_connect_64 (by decide) rfl ?_
      refine lv_iload_n hx hb dX12_connect_67 rfl (lv_at hl 1 rfl) ?_
      refine lv_lconst (v := 0) hx hb dX12_connect_68 (by decide) ?_
      have hMp := hH.2
      refine m_last 33 6 hF hH dX12_connect_69 (by decide) rfl rfl (by omega) (by omega) (fun σ549 H locs eσ549 hH => ?_)
      have hle := hle.tr (show HLe σ548 σ549 by rw [eσ549]; exact HLe.uJ)
      have hfr := hfr.aJ hMp (by decide) eσ549 (by decide)
      refine lv_iconst (v := 1) hx hb dX12_connect_70 (by decide) ?_
      exact h_reti hF hr hlk (i_01 (by omega)).1 dX12_connect_71 hH.1 hle ⟨hH.2, hfr, by (try dsimp only); omega⟩
    · have ch541 := i_ne h541
      refine lv_iconst (v := 0) hx hb dX12_connect_16 (by decide) ?_
      exact h_reti hF hr hlk (i_01 (by omega)).1 dX12_connect_17 hH.1 hle ⟨hH.2, hfr, by (try dsimp only); omega⟩
theorem dX12_out_0 : decode cX12_out 0 = .ok (.iload_n 1, 1) := by decide +kernel
theorem dX12_out_1 : decode cX12_out 1 = .ok (.invokestatic 325, 3) := by decide +kernel
theorem dX12_out_4 : decode cX12_out 4 = .ok (.ifCond .eq 36, 3) := by decide +kernel
theorem dX12_out_7 : decode cX12_out 7 = .ok (.iload_n 2, 1) := by decide +kernel
theorem dX12_out_8 : decode cX12_out 8 = .ok (.ifCond .lt 32, 3) := by decide +kernel
theorem dX12_out_11 : decode cX12_out 11 = .ok (.iload_n 2, 1) := by decide +kernel
theorem dX12_out_12 : decode cX12_out 12 = .ok (.aload_n 0, 1) := by decide +kernel
theorem dX12_out_13 : decode cX12_out 13 = .ok (.getfield 99, 3) := by decide +kernel
theorem dX12_out_16 : decode cX12_out 16 = .ok (.iload_n 1, 1) := by decide +kernel
theorem dX12_out_17 : decode cX12_out 17 = .ok (.iaload, 1) := by decide +kernel
theorem dX12_out_18 : decode cX12_out 18 = .ok (.if_icmp .ge 22, 3) := by decide +kernel
theorem dX12_out_21 : decode cX12_out 21 = .ok (.aload_n 0, 1) := by decide +kernel
theorem dX12_out_22 : decode cX12_out 22 = .ok (.getfield 96, 3) := by decide +kernel
theorem dX12_out_25 : decode cX12_out 25 = .ok (.sipush 16000, 3) := by decide +kernel
theorem dX12_out_28 : decode cX12_out 28 = .ok (.iload_n 1, 1) := by decide +kernel
theorem dX12_out_29 : decode cX12_out 29 = .ok (.imul, 1) := by decide +kernel
theorem dX12_out_30 : decode cX12_out 30 = .ok (.iload_n 2, 1) := by decide +kernel
theorem dX12_out_31 : decode cX12_out 31 = .ok (.iadd, 1) := by decide +kernel
theorem dX12_out_32 : decode cX12_out 32 = .ok (.baload, 1) := by decide +kernel
theorem dX12_out_33 : decode cX12_out 33 = .ok (.sipush 255, 3) := by decide +kernel
theorem dX12_out_36 : decode cX12_out 36 = .ok (.iand, 1) := by decide +kernel
theorem dX12_out_37 : decode cX12_out 37 = .ok (.goto 4, 3) := by decide +kernel
theorem dX12_out_40 : decode cX12_out 40 = .ok (.iconst (-1), 1) := by decide +kernel
theorem dX12_out_41 : decode cX12_out 41 = .ok (.ireturn, 1) := by decide +kernel
set_option maxRecDepth 100000 in
set_option maxHeartbeats 4000000 in
theorem c_X12_out (l : Launch) (D : va_G) (t : Nat → ClassId) (h0 : Nat) (L : Nat → Nat) (σ : HS) (hO : OK ph τ0 σ) (hM : MdI h0 L σ) (k q : Int32) (sz : Nat) : HMi ph τ0 l D t yX12_out cX12_out 3 (some .int) ({ frames := 1, cells := 0, slots := 0, locals := 20 }) σ sz [.ref h0, .int k, .int q] 0 0 (fun r σ' => MdI h0 L σ' ∧ σ' = σ ∧ (True)) := by
  refine h_go hO (by decide) (Nat.le_of_ble_eq_true rfl) ?_
  intro p e s m below meth c ls A hF hr hlk hAe hH0 hA hl
  unfold hB
  rw [hAe]
  clear hAe
  have hF : FX p m c cX12_out 3 s _ RX12 D t := hF
  have hx := hF.1.1
  have hb := hF.1.2.1
  have hH : MT D t A s.heap h0 L σ s.heap [] := ⟨hH0, hM⟩
  have hle : HLe σ σ := HLe.rf
  have k_m1 : ((-1) : Int32).toInt = (-1) := rfl
  have k_0 : (0 : Int32).toInt = 0 := rfl
  have k_255 : (255 : Int32).toInt = 255 := rfl
  have k_16000 : (16000 : Int32).toInt = 16000 := rfl
  have rg_1 := i_range k
  have rg_2 := i_range q
  have hl : lv_has ls 3 [(0, .ref h0), (1, .int k), (2, .int q)] := hl
  refine lv_iload_n hx hb dX12_out_0 rfl (lv_at hl 1 rfl) ?_
  refine m_cSi (As := [.int k]) (rest := []) hF hH hA ms_X12_325 (fun sz => c_X12_isLine l D t h0 L _ hH.1.2.2.2 hH.2 k  sz) dX12_out_1 rfl rfl (by decide) rfl hl.1 (Nat.le_of_ble_eq_true rfl) (by decide) rfl (fun _ _ h => h.1) (fun z550 H locs pz550 hH => ?_)
  have pz550 := pz550.2
  refine lv_if_eq (tgt := 40) hx hb dX12_out_4 rfl (fun h552 => ?_) (fun h552 => ?_)
  · have ch552 := i_eq h552
    refine lv_iconst (v := (-1)) hx hb dX12_out_40 (by decide) ?_
    exact h_reti hF hr hlk rfl dX12_out_41 hH.1 hle ⟨hH.2, rfl, trivial⟩
  · have ch552 := i_ne h552
    refine lv_iload_n hx hb dX12_out_7 rfl (lv_at hl 2 rfl) ?_
    refine lv_if_lt (tgt := 40) hx hb dX12_out_8 rfl (fun h553 => ?_) (fun h553 => ?_)
    · have ch553 := i_lt h553
      refine lv_iconst (v := (-1)) hx hb dX12_out_40 (by decide) ?_
      exact h_reti hF hr hlk rfl dX12_out_41 hH.1 hle ⟨hH.2, rfl, trivial⟩
    · have ch553 := i_nlt h553
      refine lv_iload_n hx hb dX12_out_11 rfl (lv_at hl 2 rfl) ?_
      refine lv_aload_n hx hb dX12_out_12 rfl (lv_at hl 0 rfl) ?_
      refine m_getA 28 hF hH fk_X12_99 dX12_out_13 (by decide) rfl ?_
      refine lv_iload_n hx hb dX12_out_16 rfl (lv_at hl 1 rfl) ?_
      refine m_iald 28 6 hF hH dX12_out_17 (by decide) rfl rfl 0 16000 rfl rfl (by omega) (by omega) (fun z554 ez554 vz554 => ?_)
      have wz554 := i_eq ez554
      refine lv_icmp_ge (tgt := 40) hx hb dX12_out_18 rfl (fun h555 => ?_) (fun h555 => ?_)
      · have ch555 := i_le h555
        refine lv_iconst (v := (-1)) hx hb dX12_out_40 (by decide) ?_
        exact h_reti hF hr hlk rfl dX12_out_41 hH.1 hle ⟨hH.2, rfl, trivial⟩
      · have ch555 := i_nle h555
        refine lv_aload_n hx hb dX12_out_21 rfl (lv_at hl 0 rfl) ?_
        refine m_getA 27 hF hH fk_X12_96 dX12_out_22 (by decide) rfl ?_
        refine lv_sipush (v := 16000) hx hb dX12_out_25 (by decide) ?_
        refine lv_iload_n hx hb dX12_out_28 rfl (lv_at hl 1 rfl) ?_
        refine lv_imul hx hb dX12_out_29 ?_
        refine lv_topi (fun z556 ez556 => ?_)
        try have hz556 := i_mulk 16000 rfl ez556 (by omega) (by omega)
        refine lv_iload_n hx hb dX12_out_30 rfl (lv_at hl 2 rfl) ?_
        refine lv_iadd hx hb dX12_out_31 ?_
        refine lv_topi (fun z557 ez557 => ?_)
        try have hz557 := i_add ez557 (by omega) (by omega)
        refine m_bald 27 96000 hF hH dX12_out_32 (by decide) rfl rfl (-128) 127 rfl rfl (by omega) (by omega) (fun z558 ez558 vz558 => ?_)
        have wz558 := i_eq ez558
        refine lv_sipush (v := 255) hx hb dX12_out_33 (by decide) ?_
        refine lv_iand hx hb dX12_out_36 ?_
        refine lv_topi (fun z559 ez559 => ?_)
        try have hz559 := i_and ez559 (by omega)
        refine lv_goto (tgt := 41) hx hb dX12_out_37 rfl ?_
        exact h_reti hF hr hlk rfl dX12_out_41 hH.1 hle ⟨hH.2, rfl, trivial⟩

theorem dX12_lay_0 : decode cX12_lay 0 = .ok (.bipush 24, 2) := by decide +kernel
theorem dX12_lay_2 : decode cX12_lay 2 = .ok (.istore_n 2, 1) := by decide +kernel
theorem dX12_lay_3 : decode cX12_lay 3 = .ok (.iload_n 2, 1) := by decide +kernel
theorem dX12_lay_4 : decode cX12_lay 4 = .ok (.ifCond .lt 32, 3) := by decide +kernel
theorem dX12_lay_7 : decode cX12_lay 7 = .ok (.aload_n 0, 1) := by decide +kernel
theorem dX12_lay_8 : decode cX12_lay 8 = .ok (.getfield 7, 3) := by decide +kernel
theorem dX12_lay_11 : decode cX12_lay 11 = .ok (.aload_n 0, 1) := by decide +kernel
theorem dX12_lay_12 : decode cX12_lay 12 = .ok (.getfield 261, 3) := by decide +kernel
theorem dX12_lay_15 : decode cX12_lay 15 = .ok (.iload_n 1, 1) := by decide +kernel
theorem dX12_lay_16 : decode cX12_lay 16 = .ok (.iload_n 2, 1) := by decide +kernel
theorem dX12_lay_17 : decode cX12_lay 17 = .ok (.ishr, 1) := by decide +kernel
theorem dX12_lay_18 : decode cX12_lay 18 = .ok (.i2b, 1) := by decide +kernel
theorem dX12_lay_19 : decode cX12_lay 19 = .ok (.bastore, 1) := by decide +kernel
theorem dX12_lay_20 : decode cX12_lay 20 = .ok (.aload_n 0, 1) := by decide +kernel
theorem dX12_lay_21 : decode cX12_lay 21 = .ok (.dup, 1) := by decide +kernel
theorem dX12_lay_22 : decode cX12_lay 22 = .ok (.getfield 261, 3) := by decide +kernel
theorem dX12_lay_25 : decode cX12_lay 25 = .ok (.iconst 1, 1) := by decide +kernel
theorem dX12_lay_26 : decode cX12_lay 26 = .ok (.iadd, 1) := by decide +kernel
theorem dX12_lay_27 : decode cX12_lay 27 = .ok (.putfield 261, 3) := by decide +kernel
theorem dX12_lay_30 : decode cX12_lay 30 = .ok (.iinc 2 (-8), 3) := by decide +kernel
theorem dX12_lay_33 : decode cX12_lay 33 = .ok (.goto (-30), 3) := by decide +kernel
theorem dX12_lay_36 : decode cX12_lay 36 = .ok (.return_, 1) := by decide +kernel
set_option maxRecDepth 100000 in
set_option maxHeartbeats 4000000 in
theorem c_X12_lay (l : Launch) (D : va_G) (t : Nat → ClassId) (h0 : Nat) (L : Nat → Nat) (σ : HS) (hO : OK ph τ0 σ) (hM : MdI h0 L σ) (v : Int32) (hz : (sI σ h0 1).toInt + 4 ≤ 8000) (sz : Nat) : HMv ph τ0 l D t yX12_lay cX12_lay 3 ({ frames := 0, cells := 0, slots := 0, locals := 0 }) σ sz [.ref h0, .int v] 0 0 (fun σ' => MdI h0 L σ' ∧ Fr h0 L [1] [0] σ σ' ∧ ((sI σ' h0 1).toInt = (sI σ h0 1).toInt + 4)) := by
  refine h_go hO (by decide) (Nat.le_of_ble_eq_true rfl) ?_
  intro p e s m below meth c ls A hF hr hlk hAe hH0 hA hl
  unfold hB
  rw [hAe]
  clear hAe
  have hF : FX p m c cX12_lay 3 s _ RX12 D t := hF
  have hx := hF.1.1
  have hb := hF.1.2.1
  have hH : MT D t A s.heap h0 L σ s.heap [] := ⟨hH0, hM⟩
  have hle : HLe σ σ := HLe.rf
  have hfr : Fr h0 L [1] [0] σ σ := Fr.rf
  have k_0 : (0 : Int32).toInt = 0 := rfl
  have k_1 : (1 : Int32).toInt = 1 := rfl
  have k_24 : (24 : Int32).toInt = 24 := rfl
  have rg_1 := i_range v
  have hl : lv_has ls 3 [(0, .ref h0), (1, .int v)] := hl
  have hts := m_fld hH 1 (by decide) rfl
  have hts : (0 : Int) ≤ (sI σ h0 1).toInt ∧ (sI σ h0 1).toInt ≤ 8000 := hts
  refine lv_bipush (v := 24) hx hb dX12_lay_0 (by decide) ?_
  refine lv_istore_n (lv' := [(2, .int 24), (0, .ref h0), (1, .int v)]) hx hb dX12_lay_2 rfl hl (by decide) rfl (fun ls hl => ?_)
  have hl : lv_has ls 3 [(2, .int 24), (1, .int v), (0, .ref h0)] := lv_sub hl [0, 2, 1] rfl
  refine m_loop (β := Int32) (L0 := fun x => [(2, .int x), (1, .int v), (0, .ref h0)]) (I := fun x σ2 => HLe σ σ2 ∧ Fr h0 L [1] [0] σ σ2 ∧ ((-8 ≤ x.toInt ∧ x.toInt ≤ 24) ∧ 8 * ((sI σ2 h0 1).toInt - (sI σ h0 1).toInt) = 24 - x.toInt)) (fun x σ2 => (24 - (0 - x.toInt)).toNat) (24) hl ⟨hle, hfr, ⟨by (try dsimp only); omega, by (try dsimp only); omega⟩⟩ hH (fun x σL ls H locs hl hI hH ih => ?_)
  obtain ⟨x497, hx1⟩ : ∃ y, y = x := ⟨_, rfl⟩
  subst hx1
  obtain ⟨hle, hfr, hI⟩ := hI
  have hl : lv_has ls 3 [(2, .int x497), (1, .int v), (0, .ref h0)] := hl
  have hI : (-8 ≤ x497.toInt ∧ x497.toInt ≤ 24) ∧ 8 * ((sI σL h0 1).toInt - (sI σ h0 1).toInt) = 24 - x497.toInt := hI
  have rg_x497 := i_range x497
  have kf_1 : sI σL h0 1 = sI σL h0 1 := rfl
  refine lv_iload_n hx hb dX12_lay_3 rfl (lv_at hl 0 rfl) ?_
  refine lv_if_lt (tgt := 36) hx hb dX12_lay_4 rfl (fun h498 => ?_) (fun h498 => ?_)
  · have ch498 := i_lt h498
    exact h_retv hF hr hlk dX12_lay_36 hH.1 hle ⟨hH.2, hfr, by (try dsimp only); omega⟩
  · have ch498 := i_nlt h498
    refine lv_aload_n hx hb dX12_lay_7 rfl (lv_at hl 2 rfl) ?_
    refine m_getA 0 hF hH fk_X12_7 dX12_lay_8 (by decide) rfl ?_
    refine lv_aload_n hx hb dX12_lay_11 rfl (lv_at hl 2 rfl) ?_
    refine m_getI hF hH fk_X12_261 dX12_lay_12 0 8000 rfl rfl (fun z499 ez499 vz499 => ?_)
    have wz499 := i_eq ez499
    refine lv_iload_n hx hb dX12_lay_15 rfl (lv_at hl 1 rfl) ?_
    refine lv_iload_n hx hb dX12_lay_16 rfl (lv_at hl 0 rfl) ?_
    refine lv_ishr hx hb dX12_lay_17 ?_
    refine lv_topi (fun z500 ez500 => ?_)
    refine lv_i2b hx hb dX12_lay_18 rfl ?_
    refine lv_topi (fun z501 ez501 => ?_)
    have hMp := hH.2
    refine m_bast 0 8000 hF hH dX12_lay_19 (by decide) rfl rfl rfl rfl (by omega) (by omega) (fun σ502 H locs eσ502 hH => ?_)
    have kf_1 : sI σ502 h0 1 = sI σL h0 1 := (keepFA eσ502 hMp (by decide)).trans kf_1
    have hle := hle.tr (show HLe σL σ502 by rw [eσ502]; exact HLe.uI)
    have hfr := hfr.aI hMp (by decide) eσ502 (by decide)
    refine lv_aload_n hx hb dX12_lay_20 rfl (lv_at hl 2 rfl) ?_
    refine lv_dup hx hb dX12_lay_21 rfl ?_
    refine m_getI hF hH fk_X12_261 dX12_lay_22 0 8000 rfl rfl (fun z503 ez503 vz503 => ?_)
    have wz503 := i_eq (ez503.trans kf_1)
    refine lv_iconst (v := 1) hx hb dX12_lay_25 (by decide) ?_
    refine lv_iadd hx hb dX12_lay_26 ?_
    refine lv_topi (fun z504 ez504 => ?_)
    try have hz504 := i_add ez504 (by omega) (by omega)
    have hMp := hH.2
    refine m_putI hF hH fk_X12_261 dX12_lay_27 0 8000 rfl rfl (by omega) rfl rfl rfl (fun σ505 H locs eσ505 hH => ?_)
    have kf_1 : (sI σ505 h0 1).toInt = z504.toInt := by rw [eσ505]; exact congrArg Int32.toInt u2_same
    have hle := hle.tr (show HLe σ502 σ505 by rw [eσ505]; exact HLe.uI)
    have hfr := hfr.fI hMp eσ505 (by decide) rfl
    obtain ⟨z506, ez506⟩ : ∃ z : Int32, z = x497 + Int32.ofInt (-8) := ⟨_, rfl⟩
    have hz506 := i_add ez506 (by rw [show (Int32.ofInt (-8)).toInt = (-8) from rfl]; omega) (by rw [show (Int32.ofInt (-8)).toInt = (-8) from rfl]; omega)
    rw [show (Int32.ofInt (-8)).toInt = (-8) from rfl] at hz506
    refine lv_iinc (lv' := [(2, .int z506), (1, .int v), (0, .ref h0)]) (k := 0) (v := z506) hx hb dX12_lay_30 hl rfl ez506.symm (by decide) rfl (fun ls hl => ?_)
    refine lv_goto (tgt := 3) hx hb dX12_lay_33 rfl ?_
    have hl : lv_has ls 3 [(2, .int z506), (1, .int v), (0, .ref h0)] := lv_sub hl [0, 1, 2] rfl
    exact ih (z506) σ505 ls H locs (by (try dsimp only); omega) hl ⟨hle, hfr, ⟨by (try dsimp only); omega, by (try dsimp only); omega⟩⟩ hH
theorem dX12_feed_0 : decode cX12_feed 0 = .ok (.aload_n 0, 1) := by decide +kernel
theorem dX12_feed_1 : decode cX12_feed 1 = .ok (.getfield 261, 3) := by decide +kernel
theorem dX12_feed_4 : decode cX12_feed 4 = .ok (.bipush 20, 2) := by decide +kernel
theorem dX12_feed_6 : decode cX12_feed 6 = .ok (.iadd, 1) := by decide +kernel
theorem dX12_feed_7 : decode cX12_feed 7 = .ok (.sipush 8000, 3) := by decide +kernel
theorem dX12_feed_10 : decode cX12_feed 10 = .ok (.if_icmp .le 5, 3) := by decide +kernel
theorem dX12_feed_13 : decode cX12_feed 13 = .ok (.iconst (-1), 1) := by decide +kernel
theorem dX12_feed_14 : decode cX12_feed 14 = .ok (.ireturn, 1) := by decide +kernel
theorem dX12_feed_15 : decode cX12_feed 15 = .ok (.aload_n 0, 1) := by decide +kernel
theorem dX12_feed_16 : decode cX12_feed 16 = .ok (.iload_n 1, 1) := by decide +kernel
theorem dX12_feed_17 : decode cX12_feed 17 = .ok (.invokevirtual 265, 3) := by decide +kernel
theorem dX12_feed_20 : decode cX12_feed 20 = .ok (.aload_n 0, 1) := by decide +kernel
theorem dX12_feed_21 : decode cX12_feed 21 = .ok (.iload_n 2, 1) := by decide +kernel
theorem dX12_feed_22 : decode cX12_feed 22 = .ok (.invokevirtual 265, 3) := by decide +kernel
theorem dX12_feed_25 : decode cX12_feed 25 = .ok (.aload_n 0, 1) := by decide +kernel
theorem dX12_feed_26 : decode cX12_feed 26 = .ok (.iload_n 3, 1) := by decide +kernel
theorem dX12_feed_27 : decode cX12_feed 27 = .ok (.invokevirtual 265, 3) := by decide +kernel
theorem dX12_feed_30 : decode cX12_feed 30 = .ok (.aload_n 0, 1) := by decide +kernel
theorem dX12_feed_31 : decode cX12_feed 31 = .ok (.iload 4, 2) := by decide +kernel
theorem dX12_feed_33 : decode cX12_feed 33 = .ok (.invokevirtual 265, 3) := by decide +kernel
theorem dX12_feed_36 : decode cX12_feed 36 = .ok (.aload_n 0, 1) := by decide +kernel
theorem dX12_feed_37 : decode cX12_feed 37 = .ok (.iload 5, 2) := by decide +kernel
theorem dX12_feed_39 : decode cX12_feed 39 = .ok (.invokevirtual 265, 3) := by decide +kernel
theorem dX12_feed_42 : decode cX12_feed 42 = .ok (.aload_n 0, 1) := by decide +kernel
theorem dX12_feed_43 : decode cX12_feed 43 = .ok (.getfield 261, 3) := by decide +kernel
theorem dX12_feed_46 : decode cX12_feed 46 = .ok (.ireturn, 1) := by decide +kernel
set_option maxRecDepth 100000 in
set_option maxHeartbeats 4000000 in
theorem c_X12_feed (l : Launch) (D : va_G) (t : Nat → ClassId) (h0 : Nat) (L : Nat → Nat) (σ : HS) (hO : OK ph τ0 σ) (hM : MdI h0 L σ) (k1 k2 k3 k4 k5 : Int32) (sz : Nat) : HMi ph τ0 l D t yX12_feed cX12_feed 6 (some .int) ({ frames := 1, cells := 0, slots := 0, locals := 22 }) σ sz [.ref h0, .int k1, .int k2, .int k3, .int k4, .int k5] 0 0 (fun r σ' => MdI h0 L σ' ∧ Fr h0 L [1] [0] σ σ' ∧ ((8000 < (sI σ h0 1).toInt + 20 ∧ r.toInt = -1 ∧ (sI σ' h0 1).toInt = (sI σ h0 1).toInt) ∨ ((sI σ h0 1).toInt + 20 ≤ 8000 ∧ r.toInt = (sI σ h0 1).toInt + 20 ∧ (sI σ' h0 1).toInt = (sI σ h0 1).toInt + 20))) := by
  refine h_go hO (by decide) (Nat.le_of_ble_eq_true rfl) ?_
  intro p e s m below meth c ls A hF hr hlk hAe hH0 hA hl
  unfold hB
  rw [hAe]
  clear hAe
  have hF : FX p m c cX12_feed 6 s _ RX12 D t := hF
  have hx := hF.1.1
  have hb := hF.1.2.1
  have hH : MT D t A s.heap h0 L σ s.heap [] := ⟨hH0, hM⟩
  have hle : HLe σ σ := HLe.rf
  have hfr : Fr h0 L [1] [0] σ σ := Fr.rf
  have k_m1 : ((-1) : Int32).toInt = (-1) := rfl
  have k_0 : (0 : Int32).toInt = 0 := rfl
  have k_20 : (20 : Int32).toInt = 20 := rfl
  have k_8000 : (8000 : Int32).toInt = 8000 := rfl
  have rg_1 := i_range k1
  have rg_2 := i_range k2
  have rg_3 := i_range k3
  have rg_4 := i_range k4
  have rg_5 := i_range k5
  have hl : lv_has ls 6 [(0, .ref h0), (1, .int k1), (2, .int k2), (3, .int k3), (4, .int k4), (5, .int k5)] := hl
  have hts := m_fld hH 1 (by decide) rfl
  have hts : (0 : Int) ≤ (sI σ h0 1).toInt ∧ (sI σ h0 1).toInt ≤ 8000 := hts
  refine lv_aload_n hx hb dX12_feed_0 rfl (lv_at hl 0 rfl) ?_
  refine m_getI hF hH fk_X12_261 dX12_feed_1 0 8000 rfl rfl (fun z507 ez507 vz507 => ?_)
  have wz507 := i_eq ez507
  refine lv_bipush (v := 20) hx hb dX12_feed_4 (by decide) ?_
  refine lv_iadd hx hb dX12_feed_6 ?_
  refine lv_topi (fun z508 ez508 => ?_)
  try have hz508 := i_add ez508 (by omega) (by omega)
  refine lv_sipush (v := 8000) hx hb dX12_feed_7 (by decide) ?_
  refine lv_icmp_le (tgt := 15) hx hb dX12_feed_10 rfl (fun h509 => ?_) (fun h509 => ?_)
  · have ch509 := i_le h509
    refine lv_aload_n hx hb dX12_feed_15 rfl (lv_at hl 0 rfl) ?_
    refine lv_iload_n hx hb dX12_feed_16 rfl (lv_at hl 1 rfl) ?_
    refine m_cVv (As := [.int k1]) (rest := []) hF hH hA mv_X12_265 (fun sz => c_X12_lay l D t h0 L _ hH.1.2.2.2 hH.2 k1 (by omega) sz) dX12_feed_17 rfl rfl (by decide) rfl hl.1 (Nat.le_of_ble_eq_true rfl) (by decide) rfl (fun σ511 H locs lσ511 pz510 hH => ?_)
    obtain ⟨fz510, pz510⟩ := pz510
    have hle := hle.tr lσ511
    have hfr := hfr.tr fz510 (by decide) (by decide)
    refine lv_aload_n hx hb dX12_feed_20 rfl (lv_at hl 0 rfl) ?_
    refine lv_iload_n hx hb dX12_feed_21 rfl (lv_at hl 2 rfl) ?_
    refine m_cVv (As := [.int k2]) (rest := []) hF hH hA mv_X12_265 (fun sz => c_X12_lay l D t h0 L _ hH.1.2.2.2 hH.2 k2 (by omega) sz) dX12_feed_22 rfl rfl (by decide) rfl hl.1 (Nat.le_of_ble_eq_true rfl) (by decide) rfl (fun σ513 H locs lσ513 pz512 hH => ?_)
    obtain ⟨fz512, pz512⟩ := pz512
    have hle := hle.tr lσ513
    have hfr := hfr.tr fz512 (by decide) (by decide)
    refine lv_aload_n hx hb dX12_feed_25 rfl (lv_at hl 0 rfl) ?_
    refine lv_iload_n hx hb dX12_feed_26 rfl (lv_at hl 3 rfl) ?_
    refine m_cVv (As := [.int k3]) (rest := []) hF hH hA mv_X12_265 (fun sz => c_X12_lay l D t h0 L _ hH.1.2.2.2 hH.2 k3 (by omega) sz) dX12_feed_27 rfl rfl (by decide) rfl hl.1 (Nat.le_of_ble_eq_true rfl) (by decide) rfl (fun σ515 H locs lσ515 pz514 hH => ?_)
    obtain ⟨fz514, pz514⟩ := pz514
    have hle := hle.tr lσ515
    have hfr := hfr.tr fz514 (by decide) (by decide)
    refine lv_aload_n hx hb dX12_feed_30 rfl (lv_at hl 0 rfl) ?_
    refine lv_iload hx hb dX12_feed_31 (lv_at hl 4 rfl) ?_
    refine m_cVv (As := [.int k4]) (rest := []) hF hH hA mv_X12_265 (fun sz => c_X12_lay l D t h0 L _ hH.1.2.2.2 hH.2 k4 (by omega) sz) dX12_feed_33 rfl rfl (by decide) rfl hl.1 (Nat.le_of_ble_eq_true rfl) (by decide) rfl (fun σ517 H locs lσ517 pz516 hH => ?_)
    obtain ⟨fz516, pz516⟩ := pz516
    have hle := hle.tr lσ517
    have hfr := hfr.tr fz516 (by decide) (by decide)
    refine lv_aload_n hx hb dX12_feed_36 rfl (lv_at hl 0 rfl) ?_
    refine lv_iload hx hb dX12_feed_37 (lv_at hl 5 rfl) ?_
    refine m_cVv (As := [.int k5]) (rest := []) hF hH hA mv_X12_265 (fun sz => c_X12_lay l D t h0 L _ hH.1.2.2.2 hH.2 k5 (by omega) sz) dX12_feed_39 rfl rfl (by decide) rfl hl.1 (Nat.le_of_ble_eq_true rfl) (by decide) rfl (fun σ519 H locs lσ519 pz518 hH => ?_)
    obtain ⟨fz518, pz518⟩ := pz518
    have hle := hle.tr lσ519
    have hfr := hfr.tr fz518 (by decide) (by decide)
    refine lv_aload_n hx hb dX12_feed_42 rfl (lv_at hl 0 rfl) ?_
    refine m_getI hF hH fk_X12_261 dX12_feed_43 0 8000 rfl rfl (fun z520 ez520 vz520 => ?_)
    have wz520 := i_eq ez520
    exact h_reti hF hr hlk rfl dX12_feed_46 hH.1 hle ⟨hH.2, hfr, by (try dsimp only); omega⟩
  · have ch509 := i_nle h509
    refine lv_iconst (v := (-1)) hx hb dX12_feed_13 (by decide) ?_
    exact h_reti hF hr hlk rfl dX12_feed_14 hH.1 hle ⟨hH.2, hfr, by (try dsimp only); omega⟩
theorem dX12_cut_0 : decode cX12_cut 0 = .ok (.iload_n 1, 1) := by decide +kernel
theorem dX12_cut_1 : decode cX12_cut 1 = .ok (.ifCond .lt 11, 3) := by decide +kernel
theorem dX12_cut_4 : decode cX12_cut 4 = .ok (.iload_n 1, 1) := by decide +kernel
theorem dX12_cut_5 : decode cX12_cut 5 = .ok (.aload_n 0, 1) := by decide +kernel
theorem dX12_cut_6 : decode cX12_cut 6 = .ok (.getfield 261, 3) := by decide +kernel
theorem dX12_cut_9 : decode cX12_cut 9 = .ok (.if_icmp .le 5, 3) := by decide +kernel
theorem dX12_cut_12 : decode cX12_cut 12 = .ok (.iconst (-1), 1) := by decide +kernel
theorem dX12_cut_13 : decode cX12_cut 13 = .ok (.ireturn, 1) := by decide +kernel
theorem dX12_cut_14 : decode cX12_cut 14 = .ok (.aload_n 0, 1) := by decide +kernel
theorem dX12_cut_15 : decode cX12_cut 15 = .ok (.getfield 261, 3) := by decide +kernel
theorem dX12_cut_18 : decode cX12_cut 18 = .ok (.iload_n 1, 1) := by decide +kernel
theorem dX12_cut_19 : decode cX12_cut 19 = .ok (.isub, 1) := by decide +kernel
theorem dX12_cut_20 : decode cX12_cut 20 = .ok (.istore_n 2, 1) := by decide +kernel
theorem dX12_cut_21 : decode cX12_cut 21 = .ok (.aload_n 0, 1) := by decide +kernel
theorem dX12_cut_22 : decode cX12_cut 22 = .ok (.iload_n 1, 1) := by decide +kernel
theorem dX12_cut_23 : decode cX12_cut 23 = .ok (.putfield 261, 3) := by decide +kernel
theorem dX12_cut_26 : decode cX12_cut 26 = .ok (.iload_n 2, 1) := by decide +kernel
theorem dX12_cut_27 : decode cX12_cut 27 = .ok (.ireturn, 1) := by decide +kernel
set_option maxRecDepth 100000 in
set_option maxHeartbeats 4000000 in
theorem c_X12_cut (l : Launch) (D : va_G) (t : Nat → ClassId) (h0 : Nat) (L : Nat → Nat) (σ : HS) (hO : OK ph τ0 σ) (hM : MdI h0 L σ) (k : Int32) (sz : Nat) : HMi ph τ0 l D t yX12_cut cX12_cut 3 (some .int) ({ frames := 0, cells := 0, slots := 0, locals := 0 }) σ sz [.ref h0, .int k] 0 0 (fun r σ' => MdI h0 L σ' ∧ Fr h0 L [1] [] σ σ' ∧ (((k.toInt < 0 ∨ (sI σ h0 1).toInt < k.toInt) ∧ r.toInt = -1 ∧ (sI σ' h0 1).toInt = (sI σ h0 1).toInt) ∨ (0 ≤ k.toInt ∧ k.toInt ≤ (sI σ h0 1).toInt ∧ r.toInt = (sI σ h0 1).toInt - k.toInt ∧ (sI σ' h0 1).toInt = k.toInt))) := by
  refine h_go hO (by decide) (Nat.le_of_ble_eq_true rfl) ?_
  intro p e s m below meth c ls A hF hr hlk hAe hH0 hA hl
  unfold hB
  rw [hAe]
  clear hAe
  have hF : FX p m c cX12_cut 3 s _ RX12 D t := hF
  have hx := hF.1.1
  have hb := hF.1.2.1
  have hH : MT D t A s.heap h0 L σ s.heap [] := ⟨hH0, hM⟩
  have hle : HLe σ σ := HLe.rf
  have hfr : Fr h0 L [1] [] σ σ := Fr.rf
  have k_m1 : ((-1) : Int32).toInt = (-1) := rfl
  have k_0 : (0 : Int32).toInt = 0 := rfl
  have rg_1 := i_range k
  have hl : lv_has ls 3 [(0, .ref h0), (1, .int k)] := hl
  have kf_1 : sI σ h0 1 = sI σ h0 1 := rfl
  refine lv_iload_n hx hb dX12_cut_0 rfl (lv_at hl 1 rfl) ?_
  refine lv_if_lt (tgt := 12) hx hb dX12_cut_1 rfl (fun h521 => ?_) (fun h521 => ?_)
  · have ch521 := i_lt h521
    refine lv_iconst (v := (-1)) hx hb dX12_cut_12 (by decide) ?_
    exact h_reti hF hr hlk rfl dX12_cut_13 hH.1 hle ⟨hH.2, hfr, by (try dsimp only); omega⟩
  · have ch521 := i_nlt h521
    refine lv_iload_n hx hb dX12_cut_4 rfl (lv_at hl 1 rfl) ?_
    refine lv_aload_n hx hb dX12_cut_5 rfl (lv_at hl 0 rfl) ?_
    refine m_getI hF hH fk_X12_261 dX12_cut_6 0 8000 rfl rfl (fun z522 ez522 vz522 => ?_)
    have wz522 := i_eq ez522
    refine lv_icmp_le (tgt := 14) hx hb dX12_cut_9 rfl (fun h523 => ?_) (fun h523 => ?_)
    · have ch523 := i_le h523
      refine lv_aload_n hx hb dX12_cut_14 rfl (lv_at hl 0 rfl) ?_
      refine m_getI hF hH fk_X12_261 dX12_cut_15 0 8000 rfl rfl (fun z524 ez524 vz524 => ?_)
      have wz524 := i_eq ez524
      refine lv_iload_n hx hb dX12_cut_18 rfl (lv_at hl 1 rfl) ?_
      refine lv_isub hx hb dX12_cut_19 ?_
      refine lv_topi (fun z525 ez525 => ?_)
      try have hz525 := i_sub ez525 (by omega) (by omega)
      refine lv_istore_n (lv' := [(2, .int z525), (0, .ref h0), (1, .int k)]) hx hb dX12_cut_20 rfl hl (by decide) rfl (fun ls hl => ?_)
      refine lv_aload_n hx hb dX12_cut_21 rfl (lv_at hl 1 rfl) ?_
      refine lv_iload_n hx hb dX12_cut_22 rfl (lv_at hl 2 rfl) ?_
      have hMp := hH.2
      refine m_putI hF hH fk_X12_261 dX12_cut_23 0 8000 rfl rfl (by omega) rfl rfl rfl (fun σ526 H locs eσ526 hH => ?_)
      have kf_1 : (sI σ526 h0 1).toInt = k.toInt := by rw [eσ526]; exact congrArg Int32.toInt u2_same
      have hle := hle.tr (show HLe σ σ526 by rw [eσ526]; exact HLe.uI)
      have hfr := hfr.fI hMp eσ526 (by decide) rfl
      refine lv_iload_n hx hb dX12_cut_26 rfl (lv_at hl 0 rfl) ?_
      exact h_reti hF hr hlk rfl dX12_cut_27 hH.1 hle ⟨hH.2, hfr, by (try dsimp only); omega⟩
    · have ch523 := i_nle h523
      refine lv_iconst (v := (-1)) hx hb dX12_cut_12 (by decide) ?_
      exact h_reti hF hr hlk rfl dX12_cut_13 hH.1 hle ⟨hH.2, hfr, by (try dsimp only); omega⟩
theorem dX12_isOpen_0 : decode cX12_isOpen 0 = .ok (.iload_n 1, 1) := by decide +kernel
theorem dX12_isOpen_1 : decode cX12_isOpen 1 = .ok (.invokestatic 325, 3) := by decide +kernel
theorem dX12_isOpen_4 : decode cX12_isOpen 4 = .ok (.ifCond .eq 16, 3) := by decide +kernel
theorem dX12_isOpen_7 : decode cX12_isOpen 7 = .ok (.aload_n 0, 1) := by decide +kernel
theorem dX12_isOpen_8 : decode cX12_isOpen 8 = .ok (.getfield 89, 3) := by decide +kernel
theorem dX12_isOpen_11 : decode cX12_isOpen 11 = .ok (.iload_n 1, 1) := by decide +kernel
theorem dX12_isOpen_12 : decode cX12_isOpen 12 = .ok (.baload, 1) := by decide +kernel
theorem dX12_isOpen_13 : decode cX12_isOpen 13 = .ok (.ifCond .eq 7, 3) := by decide +kernel
theorem dX12_isOpen_16 : decode cX12_isOpen 16 = .ok (.iconst 1, 1) := by decide +kernel
theorem dX12_isOpen_17 : decode cX12_isOpen 17 = .ok (.goto 4, 3) := by decide +kernel
theorem dX12_isOpen_20 : decode cX12_isOpen 20 = .ok (.iconst 0, 1) := by decide +kernel
theorem dX12_isOpen_21 : decode cX12_isOpen 21 = .ok (.ireturn, 1) := by decide +kernel
set_option maxRecDepth 100000 in
set_option maxHeartbeats 4000000 in
theorem c_X12_isOpen (l : Launch) (D : va_G) (t : Nat → ClassId) (h0 : Nat) (L : Nat → Nat) (σ : HS) (hO : OK ph τ0 σ) (hM : MdI h0 L σ) (k : Int32) (sz : Nat) : HMi ph τ0 l D t yX12_isOpen cX12_isOpen 2 (some .boolean) ({ frames := 1, cells := 0, slots := 0, locals := 20 }) σ sz [.ref h0, .int k] 0 0 (fun r σ' => MdI h0 L σ' ∧ σ' = σ ∧ (0 ≤ r.toInt ∧ r.toInt ≤ 1)) := by
  refine h_go hO (by decide) (Nat.le_of_ble_eq_true rfl) ?_
  intro p e s m below meth c ls A hF hr hlk hAe hH0 hA hl
  unfold hB
  rw [hAe]
  clear hAe
  have hF : FX p m c cX12_isOpen 2 s _ RX12 D t := hF
  have hx := hF.1.1
  have hb := hF.1.2.1
  have hH : MT D t A s.heap h0 L σ s.heap [] := ⟨hH0, hM⟩
  have hle : HLe σ σ := HLe.rf
  have k_0 : (0 : Int32).toInt = 0 := rfl
  have k_1 : (1 : Int32).toInt = 1 := rfl
  have rg_1 := i_range k
  have hl : lv_has ls 2 [(0, .ref h0), (1, .int k)] := hl
  refine lv_iload_n hx hb dX12_isOpen_0 rfl (lv_at hl 1 rfl) ?_
  refine m_cSi (As := [.int k]) (rest := []) hF hH hA ms_X12_325 (fun sz => c_X12_isLine l D t h0 L _ hH.1.2.2.2 hH.2 k  sz) dX12_isOpen_1 rfl rfl (by decide) rfl hl.1 (Nat.le_of_ble_eq_true rfl) (by decide) rfl (fun _ _ h => h.1) (fun z527 H locs pz527 hH => ?_)
  have pz527 := pz527.2
  refine lv_if_eq (tgt := 20) hx hb dX12_isOpen_4 rfl (fun h529 => ?_) (fun h529 => ?_)
  · have ch529 := i_eq h529
    refine lv_iconst (v := 0) hx hb dX12_isOpen_20 (by decide) ?_
    exact h_reti hF hr hlk (i_01 (by omega)).1 dX12_isOpen_21 hH.1 hle ⟨hH.2, rfl, by (try dsimp only); omega⟩
  · have ch529 := i_ne h529
    refine lv_aload_n hx hb dX12_isOpen_7 rfl (lv_at hl 0 rfl) ?_
    refine m_getA 25 hF hH fk_X12_89 dX12_isOpen_8 (by decide) rfl ?_
    refine lv_iload_n hx hb dX12_isOpen_11 rfl (lv_at hl 1 rfl) ?_
    refine m_zald 25 6 hF hH dX12_isOpen_12 (by decide) rfl rfl 0 1 rfl rfl (by omega) (by omega) (fun z530 ez530 vz530 => ?_)
    have wz530 := i_eq ez530
    refine lv_if_eq (tgt := 20) hx hb dX12_isOpen_13 rfl (fun h531 => ?_) (fun h531 => ?_)
    · have ch531 := i_eq h531
      refine lv_iconst (v := 0) hx hb dX12_isOpen_20 (by decide) ?_
      exact h_reti hF hr hlk (i_01 (by omega)).1 dX12_isOpen_21 hH.1 hle ⟨hH.2, rfl, by (try dsimp only); omega⟩
    · have ch531 := i_ne h531
      refine lv_iconst (v := 1) hx hb dX12_isOpen_16 (by decide) ?_
      refine lv_goto (tgt := 21) hx hb dX12_isOpen_17 rfl ?_
      exact h_reti hF hr hlk (i_01 (by omega)).1 dX12_isOpen_21 hH.1 hle ⟨hH.2, rfl, by (try dsimp only); omega⟩
theorem dX12_outs_0 : decode cX12_outs 0 = .ok (.iload_n 1, 1) := by decide +kernel
theorem dX12_outs_1 : decode cX12_outs 1 = .ok (.invokestatic 325, 3) := by decide +kernel
theorem dX12_outs_4 : decode cX12_outs 4 = .ok (.ifCond .eq 12, 3) := by decide +kernel
theorem dX12_outs_7 : decode cX12_outs 7 = .ok (.aload_n 0, 1) := by decide +kernel
theorem dX12_outs_8 : decode cX12_outs 8 = .ok (.getfield 99, 3) := by decide +kernel
theorem dX12_outs_11 : decode cX12_outs 11 = .ok (.iload_n 1, 1) := by decide +kernel
theorem dX12_outs_12 : decode cX12_outs 12 = .ok (.iaload, 1) := by decide +kernel
theorem dX12_outs_13 : decode cX12_outs 13 = .ok (.goto 4, 3) := by decide +kernel
theorem dX12_outs_16 : decode cX12_outs 16 = .ok (.iconst (-1), 1) := by decide +kernel
theorem dX12_outs_17 : decode cX12_outs 17 = .ok (.ireturn, 1) := by decide +kernel
set_option maxRecDepth 100000 in
set_option maxHeartbeats 4000000 in
theorem c_X12_outs (l : Launch) (D : va_G) (t : Nat → ClassId) (h0 : Nat) (L : Nat → Nat) (σ : HS) (hO : OK ph τ0 σ) (hM : MdI h0 L σ) (k : Int32) (sz : Nat) : HMi ph τ0 l D t yX12_outs cX12_outs 2 (some .int) ({ frames := 1, cells := 0, slots := 0, locals := 20 }) σ sz [.ref h0, .int k] 0 0 (fun r σ' => MdI h0 L σ' ∧ σ' = σ ∧ (True)) := by
  refine h_go hO (by decide) (Nat.le_of_ble_eq_true rfl) ?_
  intro p e s m below meth c ls A hF hr hlk hAe hH0 hA hl
  unfold hB
  rw [hAe]
  clear hAe
  have hF : FX p m c cX12_outs 2 s _ RX12 D t := hF
  have hx := hF.1.1
  have hb := hF.1.2.1
  have hH : MT D t A s.heap h0 L σ s.heap [] := ⟨hH0, hM⟩
  have hle : HLe σ σ := HLe.rf
  have k_m1 : ((-1) : Int32).toInt = (-1) := rfl
  have k_0 : (0 : Int32).toInt = 0 := rfl
  have rg_1 := i_range k
  have hl : lv_has ls 2 [(0, .ref h0), (1, .int k)] := hl
  refine lv_iload_n hx hb dX12_outs_0 rfl (lv_at hl 1 rfl) ?_
  refine m_cSi (As := [.int k]) (rest := []) hF hH hA ms_X12_325 (fun sz => c_X12_isLine l D t h0 L _ hH.1.2.2.2 hH.2 k  sz) dX12_outs_1 rfl rfl (by decide) rfl hl.1 (Nat.le_of_ble_eq_true rfl) (by decide) rfl (fun _ _ h => h.1) (fun z532 H locs pz532 hH => ?_)
  have pz532 := pz532.2
  refine lv_if_eq (tgt := 16) hx hb dX12_outs_4 rfl (fun h534 => ?_) (fun h534 => ?_)
  · have ch534 := i_eq h534
    refine lv_iconst (v := (-1)) hx hb dX12_outs_16 (by decide) ?_
    exact h_reti hF hr hlk rfl dX12_outs_17 hH.1 hle ⟨hH.2, rfl, trivial⟩
  · have ch534 := i_ne h534
    refine lv_aload_n hx hb dX12_outs_7 rfl (lv_at hl 0 rfl) ?_
    refine m_getA 28 hF hH fk_X12_99 dX12_outs_8 (by decide) rfl ?_
    refine lv_iload_n hx hb dX12_outs_11 rfl (lv_at hl 1 rfl) ?_
    refine m_iald 28 6 hF hH dX12_outs_12 (by decide) rfl rfl 0 16000 rfl rfl (by omega) (by omega) (fun z535 ez535 vz535 => ?_)
    have wz535 := i_eq ez535
    refine lv_goto (tgt := 17) hx hb dX12_outs_13 rfl ?_
    exact h_reti hF hr hlk rfl dX12_outs_17 hH.1 hle ⟨hH.2, rfl, trivial⟩
theorem dX12_drop_0 : decode cX12_drop 0 = .ok (.iload_n 1, 1) := by decide +kernel
theorem dX12_drop_1 : decode cX12_drop 1 = .ok (.invokestatic 325, 3) := by decide +kernel
theorem dX12_drop_4 : decode cX12_drop 4 = .ok (.ifCond .ne 5, 3) := by decide +kernel
theorem dX12_drop_7 : decode cX12_drop 7 = .ok (.iconst (-1), 1) := by decide +kernel
theorem dX12_drop_8 : decode cX12_drop 8 = .ok (.ireturn, 1) := by decide +kernel
theorem dX12_drop_9 : decode cX12_drop 9 = .ok (.aload_n 0, 1) := by decide +kernel
theorem dX12_drop_10 : decode cX12_drop 10 = .ok (.getfield 99, 3) := by decide +kernel
theorem dX12_drop_13 : decode cX12_drop 13 = .ok (.iload_n 1, 1) := by decide +kernel
theorem dX12_drop_14 : decode cX12_drop 14 = .ok (.iaload, 1) := by decide +kernel
theorem dX12_drop_15 : decode cX12_drop 15 = .ok (.istore_n 2, 1) := by decide +kernel
theorem dX12_drop_16 : decode cX12_drop 16 = .ok (.aload_n 0, 1) := by decide +kernel
theorem dX12_drop_17 : decode cX12_drop 17 = .ok (.getfield 99, 3) := by decide +kernel
theorem dX12_drop_20 : decode cX12_drop 20 = .ok (.iload_n 1, 1) := by decide +kernel
theorem dX12_drop_21 : decode cX12_drop 21 = .ok (.iconst 0, 1) := by decide +kernel
theorem dX12_drop_22 : decode cX12_drop 22 = .ok (.iastore, 1) := by decide +kernel
theorem dX12_drop_23 : decode cX12_drop 23 = .ok (.iload_n 2, 1) := by decide +kernel
theorem dX12_drop_24 : decode cX12_drop 24 = .ok (.ireturn, 1) := by decide +kernel
set_option maxRecDepth 100000 in
set_option maxHeartbeats 4000000 in
theorem c_X12_drop (l : Launch) (D : va_G) (t : Nat → ClassId) (h0 : Nat) (L : Nat → Nat) (σ : HS) (hO : OK ph τ0 σ) (hM : MdI h0 L σ) (k : Int32) (sz : Nat) : HMi ph τ0 l D t yX12_drop cX12_drop 3 (some .int) ({ frames := 1, cells := 0, slots := 0, locals := 20 }) σ sz [.ref h0, .int k] 0 0 (fun r σ' => MdI h0 L σ' ∧ Fr h0 L [] [28] σ σ' ∧ (True)) := by
  refine h_go hO (by decide) (Nat.le_of_ble_eq_true rfl) ?_
  intro p e s m below meth c ls A hF hr hlk hAe hH0 hA hl
  unfold hB
  rw [hAe]
  clear hAe
  have hF : FX p m c cX12_drop 3 s _ RX12 D t := hF
  have hx := hF.1.1
  have hb := hF.1.2.1
  have hH : MT D t A s.heap h0 L σ s.heap [] := ⟨hH0, hM⟩
  have hle : HLe σ σ := HLe.rf
  have hfr : Fr h0 L [] [28] σ σ := Fr.rf
  have k_m1 : ((-1) : Int32).toInt = (-1) := rfl
  have k_0 : (0 : Int32).toInt = 0 := rfl
  have rg_1 := i_range k
  have hl : lv_has ls 3 [(0, .ref h0), (1, .int k)] := hl
  refine lv_iload_n hx hb dX12_drop_0 rfl (lv_at hl 1 rfl) ?_
  refine m_cSi (As := [.int k]) (rest := []) hF hH hA ms_X12_325 (fun sz => c_X12_isLine l D t h0 L _ hH.1.2.2.2 hH.2 k  sz) dX12_drop_1 rfl rfl (by decide) rfl hl.1 (Nat.le_of_ble_eq_true rfl) (by decide) rfl (fun _ _ h => h.1) (fun z536 H locs pz536 hH => ?_)
  have pz536 := pz536.2
  refine lv_if_ne (tgt := 9) hx hb dX12_drop_4 rfl (fun h538 => ?_) (fun h538 => ?_)
  · have ch538 := i_ne h538
    refine lv_aload_n hx hb dX12_drop_9 rfl (lv_at hl 0 rfl) ?_
    refine m_getA 28 hF hH fk_X12_99 dX12_drop_10 (by decide) rfl ?_
    refine lv_iload_n hx hb dX12_drop_13 rfl (lv_at hl 1 rfl) ?_
    refine m_iald 28 6 hF hH dX12_drop_14 (by decide) rfl rfl 0 16000 rfl rfl (by omega) (by omega) (fun z539 ez539 vz539 => ?_)
    have wz539 := i_eq ez539
    refine lv_istore_n (lv' := [(2, .int z539), (0, .ref h0), (1, .int k)]) hx hb dX12_drop_15 rfl hl (by decide) rfl (fun ls hl => ?_)
    refine lv_aload_n hx hb dX12_drop_16 rfl (lv_at hl 1 rfl) ?_
    refine m_getA 28 hF hH fk_X12_99 dX12_drop_17 (by decide) rfl ?_
    refine lv_iload_n hx hb dX12_drop_20 rfl (lv_at hl 2 rfl) ?_
    refine lv_iconst (v := 0) hx hb dX12_drop_21 (by decide) ?_
    have hMp := hH.2
    refine m_iast 28 6 hF hH dX12_drop_22 (by decide) rfl rfl 0 16000 rfl rfl (by omega) (by omega) (by omega) (fun σ540 H locs eσ540 hH => ?_)
    have hle := hle.tr (show HLe σ σ540 by rw [eσ540]; exact HLe.uI)
    have hfr := hfr.aI hMp (by decide) eσ540 (by decide)
    refine lv_iload_n hx hb dX12_drop_23 rfl (lv_at hl 0 rfl) ?_
    exact h_reti hF hr hlk rfl dX12_drop_24 hH.1 hle ⟨hH.2, hfr, trivial⟩
  · have ch538 := i_eq h538
    refine lv_iconst (v := (-1)) hx hb dX12_drop_7 (by decide) ?_
    exact h_reti hF hr hlk rfl dX12_drop_8 hH.1 hle ⟨hH.2, hfr, trivial⟩
theorem dX12_connect_0 : decode cX12_connect 0 = .ok (.iload_n 1, 1) := by decide +kernel
theorem dX12_connect_1 : decode cX12_connect 1 = .ok (.invokestatic 325, 3) := by decide +kernel
theorem dX12_connect_4 : decode cX12_connect 4 = .ok (.ifCond .eq 12, 3) := by decide +kernel
theorem dX12_connect_7 : decode cX12_connect 7 = .ok (.aload_n 0, 1) := by decide +kernel
theorem dX12_connect_8 : decode cX12_connect 8 = .ok (.getfield 89, 3) := by decide +kernel
theorem dX12_connect_11 : decode cX12_connect 11 = .ok (.iload_n 1, 1) := by decide +kernel
theorem dX12_connect_12 : decode cX12_connect 12 = .ok (.baload, 1) := by decide +kernel
theorem dX12_connect_13 : decode cX12_connect 13 = .ok (.ifCond .eq 5, 3) := by decide +kernel
theorem dX12_connect_16 : decode cX12_connect 16 = .ok (.iconst 0, 1) := by decide +kernel
theorem dX12_connect_17 : decode cX12_connect 17 = .ok (.ireturn, 1) := by decide +kernel
theorem dX12_connect_18 : decode cX12_connect 18 = .ok (.aload_n 0, 1) := by decide +kernel
theorem dX12_connect_19 : decode cX12_connect 19 = .ok (.getfield 89, 3) := by decide +kernel
theorem dX12_connect_22 : decode cX12_connect 22 = .ok (.iload_n 1, 1) := by decide +kernel
theorem dX12_connect_23 : decode cX12_connect 23 = .ok (.iconst 1, 1) := by decide +kernel
theorem dX12_connect_24 : decode cX12_connect 24 = .ok (.bastore, 1) := by decide +kernel
theorem dX12_connect_25 : decode cX12_connect 25 = .ok (.aload_n 0, 1) := by decide +kernel
theorem dX12_connect_26 : decode cX12_connect 26 = .ok (.getfield 92, 3) := by decide +kernel
theorem dX12_connect_29 : decode cX12_connect 29 = .ok (.iload_n 1, 1) := by decide +kernel
theorem dX12_connect_30 : decode cX12_connect 30 = .ok (.iconst 0, 1) := by decide +kernel
theorem dX12_connect_31 : decode cX12_connect 31 = .ok (.bastore, 1) := by decide +kernel
theorem dX12_connect_32 : decode cX12_connect 32 = .ok (.aload_n 0, 1) := by decide +kernel
theorem dX12_connect_33 : decode cX12_connect 33 = .ok (.getfield 99, 3) := by decide +kernel
theorem dX12_connect_36 : decode cX12_connect 36 = .ok (.iload_n 1, 1) := by decide +kernel
theorem dX12_connect_37 : decode cX12_connect 37 = .ok (.iconst 0, 1) := by decide +kernel
theorem dX12_connect_38 : decode cX12_connect 38 = .ok (.iastore, 1) := by decide +kernel
theorem dX12_connect_39 : decode cX12_connect 39 = .ok (.aload_n 0, 1) := by decide +kernel
theorem dX12_connect_40 : decode cX12_connect 40 = .ok (.getfield 106, 3) := by decide +kernel
theorem dX12_connect_43 : decode cX12_connect 43 = .ok (.iload_n 1, 1) := by decide +kernel
theorem dX12_connect_44 : decode cX12_connect 44 = .ok (.iconst 0, 1) := by decide +kernel
theorem dX12_connect_45 : decode cX12_connect 45 = .ok (.iastore, 1) := by decide +kernel
theorem dX12_connect_46 : decode cX12_connect 46 = .ok (.aload_n 0, 1) := by decide +kernel
theorem dX12_connect_47 : decode cX12_connect 47 = .ok (.getfield 112, 3) := by decide +kernel
theorem dX12_connect_50 : decode cX12_connect 50 = .ok (.iload_n 1, 1) := by decide +kernel
theorem dX12_connect_51 : decode cX12_connect 51 = .ok (.iconst 1, 1) := by decide +kernel
theorem dX12_connect_52 : decode cX12_connect 52 = .ok (.iastore, 1) := by decide +kernel
theorem dX12_connect_53 : decode cX12_connect 53 = .ok (.aload_n 0, 1) := by decide +kernel
theorem dX12_connect_54 : decode cX12_connect 54 = .ok (.getfield 109, 3) := by decide +kernel
theorem dX12_connect_57 : decode cX12_connect 57 = .ok (.bipush 16, 2) := by decide +kernel
theorem dX12_connect_59 : decode cX12_connect 59 = .ok (.iload_n 1, 1) := by decide +kernel
theorem dX12_connect_60 : decode cX12_connect 60 = .ok (.imul, 1) := by decide +kernel
theorem dX12_connect_61 : decode cX12_connect 61 = .ok (.lconst 0, 1) := by decide +kernel
theorem dX12_connect_62 : decode cX12_connect 62 = .ok (.lastore, 1) := by decide +kernel
theorem dX12_connect_63 : decode cX12_connect 63 = .ok (.aload_n 0, 1) := by decide +kernel
theorem dX12_connect_64 : decode cX12_connect 64 = .ok (.getfield 115, 3) := by decide +kernel
theorem dX12_connect_67 : decode cX12_connect 67 = .ok (.iload_n 1, 1) := by decide +kernel
theorem dX12_connect_68 : decode cX12_connect 68 = .ok (.lconst 0, 1) := by decide +kernel
theorem dX12_connect_69 : decode cX12_connect 69 = .ok (.lastore, 1) := by decide +kernel
theorem dX12_connect_70 : decode cX12_connect 70 = .ok (.iconst 1, 1) := by decide +kernel
theorem dX12_connect_71 : decode cX12_connect 71 = .ok (.ireturn, 1) := by decide +kernel
set_option maxRecDepth 100000 in
set_option maxHeartbeats 4000000 in
theorem c_X12_connect (l : Launch) (D : va_G) (t : Nat → ClassId) (h0 : Nat) (L : Nat → Nat) (σ : HS) (hO : OK ph τ0 σ) (hM : MdI h0 L σ) (k : Int32) (sz : Nat) : HMi ph τ0 l D t yX12_connect cX12_connect 2 (some .boolean) ({ frames := 1, cells := 0, slots := 0, locals := 20 }) σ sz [.ref h0, .int k] 0 0 (fun r σ' => MdI h0 L σ' ∧ Fr h0 L [] [25, 26, 28, 30, 31, 32, 33] σ σ' ∧ (0 ≤ r.toInt ∧ r.toInt ≤ 1)) := by
  refine h_go hO (by decide) (Nat.le_of_ble_eq_true rfl) ?_
  intro p e s m below meth c ls A hF hr hlk hAe hH0 hA hl
  unfold hB
  rw [hAe]
  clear hAe
  have hF : FX p m c cX12_connect 2 s _ RX12 D t := hF
  have hx := hF.1.1
  have hb := hF.1.2.1
  have hH : MT D t A s.heap h0 L σ s.heap [] := ⟨hH0, hM⟩
  have hle : HLe σ σ := HLe.rf
  have hfr : Fr h0 L [] [25, 26, 28, 30, 31, 32, 33] σ σ := Fr.rf
  have kl_0 : (0 : Int64).toInt = 0 := rfl
  have k_0 : (0 : Int32).toInt = 0 := rfl
  have k_1 : (1 : Int32).toInt = 1 := rfl
  have k_16 : (16 : Int32).toInt = 16 := rfl
  have rg_1 := i_range k
  have hl : lv_has ls 2 [(0, .ref h0), (1, .int k)] := hl
  refine lv_iload_n hx hb dX12_connect_0 rfl (lv_at hl 1 rfl) ?_
  refine m_cSi (As := [.int k]) (rest := []) hF hH hA ms_X12_325 (fun sz => c_X12_isLine l D t h0 L _ hH.1.2.2.2 hH.2 k  sz) dX12_connect_1 rfl rfl (by decide) rfl hl.1 (Nat.le_of_ble_eq_true rfl) (by decide) rfl (fun _ _ h => h.1) (fun z541 H locs pz541 hH => ?_)
  have pz541 := pz541.2
  refine lv_if_eq (tgt := 16) hx hb dX12_connect_4 rfl (fun h543 => ?_) (fun h543 => ?_)
  · have ch543 := i_eq h543
    refine lv_iconst (v := 0) hx hb dX12_connect_16 (by decide) ?_
    exact h_reti hF hr hlk (i_01 (by omega)).1 dX12_connect_17 hH.1 hle ⟨hH.2, hfr, by (try dsimp only); omega⟩
  · have ch543 := i_ne h543
    refine lv_aload_n hx hb dX12_connect_7 rfl (lv_at hl 0 rfl) ?_
    refine m_getA 25 hF hH fk_X12_89 dX12_connect_8 (by decide) rfl ?_
    refine lv_iload_n hx hb dX12_connect_11 rfl (lv_at hl 1 rfl) ?_
    refine m_zald 25 6 hF hH dX12_connect_12 (by decide) rfl rfl 0 1 rfl rfl (by omega) (by omega) (fun z544 ez544 vz544 => ?_)
    have wz544 := i_eq ez544
    refine lv_if_eq (tgt := 18) hx hb dX12_connect_13 rfl (fun h545 => ?_) (fun h545 => ?_)
    · have ch545 := i_eq h545
      refine lv_aload_n hx hb dX12_connect_18 rfl (lv_at hl 0 rfl) ?_
      refine m_getA 25 hF hH fk_X12_89 dX12_connect_19 (by decide) rfl ?_
      refine lv_iload_n hx hb dX12_connect_22 rfl (lv_at hl 1 rfl) ?_
      refine lv_iconst (v := 1) hx hb dX12_connect_23 (by decide) ?_
      have hMp := hH.2
      refine m_zast 25 6 hF hH dX12_connect_24 (by decide) rfl rfl rfl rfl (by omega) (by omega) (fun σ546 H locs eσ546 hH => ?_)
      have hle := hle.tr (show HLe σ σ546 by rw [eσ546]; exact HLe.uI)
      have hfr := hfr.aI hMp (by decide) eσ546 (by decide)
      refine lv_aload_n hx hb dX12_connect_25 rfl (lv_at hl 0 rfl) ?_
      refine m_getA 26 hF hH fk_X12_92 dX12_connect_26 (by decide) rfl ?_
      refine lv_iload_n hx hb dX12_connect_29 rfl (lv_at hl 1 rfl) ?_
      refine lv_iconst (v := 0) hx hb dX12_connect_30 (by decide) ?_
      have hMp := hH.2
      refine m_zast 26 6 hF hH dX12_connect_31 (by decide) rfl rfl rfl rfl (by omega) (by omega) (fun σ547 H locs eσ547 hH => ?_)
      have hle := hle.tr (show HLe σ546 σ547 by rw [eσ547]; exact HLe.uI)
      have hfr := hfr.aI hMp (by decide) eσ547 (by decide)
      refine lv_aload_n hx hb dX12_connect_32 rfl (lv_at hl 0 rfl) ?_
      refine m_getA 28 hF hH fk_X12_99 dX12_connect_33 (by decide) rfl ?_
      refine lv_iload_n hx hb dX12_connect_36 rfl (lv_at hl 1 rfl) ?_
      refine lv_iconst (v := 0) hx hb dX12_connect_37 (by decide) ?_
      have hMp := hH.2
      refine m_iast 28 6 hF hH dX12_connect_38 (by decide) rfl rfl 0 16000 rfl rfl (by omega) (by omega) (by omega) (fun σ548 H locs eσ548 hH => ?_)
      have hle := hle.tr (show HLe σ547 σ548 by rw [eσ548]; exact HLe.uI)
      have hfr := hfr.aI hMp (by decide) eσ548 (by decide)
      refine lv_aload_n hx hb dX12_connect_39 rfl (lv_at hl 0 rfl) ?_
      refine m_getA 30 hF hH fk_X12_106 dX12_connect_40 (by decide) rfl ?_
      refine lv_iload_n hx hb dX12_connect_43 rfl (lv_at hl 1 rfl) ?_
      refine lv_iconst (v := 0) hx hb dX12_connect_44 (by decide) ?_
      have hMp := hH.2
      refine m_iast 30 6 hF hH dX12_connect_45 (by decide) rfl rfl 0 12003 rfl rfl (by omega) (by omega) (by omega) (fun σ549 H locs eσ549 hH => ?_)
      have hle := hle.tr (show HLe σ548 σ549 by rw [eσ549]; exact HLe.uI)
      have hfr := hfr.aI hMp (by decide) eσ549 (by decide)
      refine lv_aload_n hx hb dX12_connect_46 rfl (lv_at hl 0 rfl) ?_
      refine m_getA 32 hF hH fk_X12_112 dX12_connect_47 (by decide) rfl ?_
      refine lv_iload_n hx hb dX12_connect_50 rfl (lv_at hl 1 rfl) ?_
      refine lv_iconst (v := 1) hx hb dX12_connect_51 (by decide) ?_
      have hMp := hH.2
      refine m_iast 32 6 hF hH dX12_connect_52 (by decide) rfl rfl 0 16 rfl rfl (by omega) (by omega) (by omega) (fun σ550 H locs eσ550 hH => ?_)
      have hle := hle.tr (show HLe σ549 σ550 by rw [eσ550]; exact HLe.uI)
      have hfr := hfr.aI hMp (by decide) eσ550 (by decide)
      refine lv_aload_n hx hb dX12_connect_53 rfl (lv_at hl 0 rfl) ?_
      refine m_getA 31 hF hH fk_X12_109 dX12_connect_54 (by decide) rfl ?_
      refine lv_bipush (v := 16) hx hb dX12_connect_57 (by decide) ?_
      refine lv_iload_n hx hb dX12_connect_59 rfl (lv_at hl 1 rfl) ?_
      refine lv_imul hx hb dX12_connect_60 ?_
      refine lv_topi (fun z551 ez551 => ?_)
      try have hz551 := i_mulk 16 rfl ez551 (by omega) (by omega)
      refine lv_lconst (v := 0) hx hb dX12_connect_61 (by decide) ?_
      have hMp := hH.2
      refine m_last 31 96 hF hH dX12_connect_62 (by decide) rfl rfl (by omega) (by omega) (fun σ552 H locs eσ552 hH => ?_)
      have hle := hle.tr (show HLe σ550 σ552 by rw [eσ552]; exact HLe.uJ)
      have hfr := hfr.aJ hMp (by decide) eσ552 (by decide)
      refine lv_aload_n hx hb dX12_connect_63 rfl (lv_at hl 0 rfl) ?_
      refine m_getA 33 hF hH fk_X12_115 dX12_connect_64 (by decide) rfl ?_
      refine lv_iload_n hx hb dX12_connect_67 rfl (lv_at hl 1 rfl) ?_
      refine lv_lconst (v := 0) hx hb dX12_connect_68 (by decide) ?_
      have hMp := hH.2
      refine m_last 33 6 hF hH dX12_connect_69 (by decide) rfl rfl (by omega) (by omega) (fun σ553 H locs eσ553 hH => ?_)
      have hle := hle.tr (show HLe σ552 σ553 by rw [eσ553]; exact HLe.uJ)
      have hfr := hfr.aJ hMp (by decide) eσ553 (by decide)
      refine lv_iconst (v := 1) hx hb dX12_connect_70 (by decide) ?_
      exact h_reti hF hr hlk (i_01 (by omega)).1 dX12_connect_71 hH.1 hle ⟨hH.2, hfr, by (try dsimp only); omega⟩
    · have ch545 := i_ne h545
      refine lv_iconst (v := 0) hx hb dX12_connect_16 (by decide) ?_
      exact h_reti hF hr hlk (i_01 (by omega)).1 dX12_connect_17 hH.1 hle ⟨hH.2, hfr, by (try dsimp only); omega⟩
theorem dX12_out_0 : decode cX12_out 0 = .ok (.iload_n 1, 1) := by decide +kernel
theorem dX12_out_1 : decode cX12_out 1 = .ok (.invokestatic 325, 3) := by decide +kernel
theorem dX12_out_4 : decode cX12_out 4 = .ok (.ifCond .eq 36, 3) := by decide +kernel
theorem dX12_out_7 : decode cX12_out 7 = .ok (.iload_n 2, 1) := by decide +kernel
theorem dX12_out_8 : decode cX12_out 8 = .ok (.ifCond .lt 32, 3) := by decide +kernel
theorem dX12_out_11 : decode cX12_out 11 = .ok (.iload_n 2, 1) := by decide +kernel
theorem dX12_out_12 : decode cX12_out 12 = .ok (.aload_n 0, 1) := by decide +kernel
theorem dX12_out_13 : decode cX12_out 13 = .ok (.getfield 99, 3) := by decide +kernel
theorem dX12_out_16 : decode cX12_out 16 = .ok (.iload_n 1, 1) := by decide +kernel
theorem dX12_out_17 : decode cX12_out 17 = .ok (.iaload, 1) := by decide +kernel
theorem dX12_out_18 : decode cX12_out 18 = .ok (.if_icmp .ge 22, 3) := by decide +kernel
theorem dX12_out_21 : decode cX12_out 21 = .ok (.aload_n 0, 1) := by decide +kernel
theorem dX12_out_22 : decode cX12_out 22 = .ok (.getfield 96, 3) := by decide +kernel
theorem dX12_out_25 : decode cX12_out 25 = .ok (.sipush 16000, 3) := by decide +kernel
theorem dX12_out_28 : decode cX12_out 28 = .ok (.iload_n 1, 1) := by decide +kernel
theorem dX12_out_29 : decode cX12_out 29 = .ok (.imul, 1) := by decide +kernel
theorem dX12_out_30 : decode cX12_out 30 = .ok (.iload_n 2, 1) := by decide +kernel
theorem dX12_out_31 : decode cX12_out 31 = .ok (.iadd, 1) := by decide +kernel
theorem dX12_out_32 : decode cX12_out 32 = .ok (.baload, 1) := by decide +kernel
theorem dX12_out_33 : decode cX12_out 33 = .ok (.sipush 255, 3) := by decide +kernel
theorem dX12_out_36 : decode cX12_out 36 = .ok (.iand, 1) := by decide +kernel
theorem dX12_out_37 : decode cX12_out 37 = .ok (.goto 4, 3) := by decide +kernel
theorem dX12_out_40 : decode cX12_out 40 = .ok (.iconst (-1), 1) := by decide +kernel
theorem dX12_out_41 : decode cX12_out 41 = .ok (.ireturn, 1) := by decide +kernel
set_option maxRecDepth 100000 in
set_option maxHeartbeats 4000000 in
theorem c_X12_out (l : Launch) (D : va_G) (t : Nat → ClassId) (h0 : Nat) (L : Nat → Nat) (σ : HS) (hO : OK ph τ0 σ) (hM : MdI h0 L σ) (k q : Int32) (sz : Nat) : HMi ph τ0 l D t yX12_out cX12_out 3 (some .int) ({ frames := 1, cells := 0, slots := 0, locals := 20 }) σ sz [.ref h0, .int k, .int q] 0 0 (fun r σ' => MdI h0 L σ' ∧ σ' = σ ∧ (True)) := by
  refine h_go hO (by decide) (Nat.le_of_ble_eq_true rfl) ?_
  intro p e s m below meth c ls A hF hr hlk hAe hH0 hA hl
  unfold hB
  rw [hAe]
  clear hAe
  have hF : FX p m c cX12_out 3 s _ RX12 D t := hF
  have hx := hF.1.1
  have hb := hF.1.2.1
  have hH : MT D t A s.heap h0 L σ s.heap [] := ⟨hH0, hM⟩
  have hle : HLe σ σ := HLe.rf
  have k_m1 : ((-1) : Int32).toInt = (-1) := rfl
  have k_0 : (0 : Int32).toInt = 0 := rfl
  have k_255 : (255 : Int32).toInt = 255 := rfl
  have k_16000 : (16000 : Int32).toInt = 16000 := rfl
  have rg_1 := i_range k
  have rg_2 := i_range q
  have hl : lv_has ls 3 [(0, .ref h0), (1, .int k), (2, .int q)] := hl
  refine lv_iload_n hx hb dX12_out_0 rfl (lv_at hl 1 rfl) ?_
  refine m_cSi (As := [.int k]) (rest := []) hF hH hA ms_X12_325 (fun sz => c_X12_isLine l D t h0 L _ hH.1.2.2.2 hH.2 k  sz) dX12_out_1 rfl rfl (by decide) rfl hl.1 (Nat.le_of_ble_eq_true rfl) (by decide) rfl (fun _ _ h => h.1) (fun z554 H locs pz554 hH => ?_)
  have pz554 := pz554.2
  refine lv_if_eq (tgt := 40) hx hb dX12_out_4 rfl (fun h556 => ?_) (fun h556 => ?_)
  · have ch556 := i_eq h556
    refine lv_iconst (v := (-1)) hx hb dX12_out_40 (by decide) ?_
    exact h_reti hF hr hlk rfl dX12_out_41 hH.1 hle ⟨hH.2, rfl, trivial⟩
  · have ch556 := i_ne h556
    refine lv_iload_n hx hb dX12_out_7 rfl (lv_at hl 2 rfl) ?_
    refine lv_if_lt (tgt := 40) hx hb dX12_out_8 rfl (fun h557 => ?_) (fun h557 => ?_)
    · have ch557 := i_lt h557
      refine lv_iconst (v := (-1)) hx hb dX12_out_40 (by decide) ?_
      exact h_reti hF hr hlk rfl dX12_out_41 hH.1 hle ⟨hH.2, rfl, trivial⟩
    · have ch557 := i_nlt h557
      refine lv_iload_n hx hb dX12_out_11 rfl (lv_at hl 2 rfl) ?_
      refine lv_aload_n hx hb dX12_out_12 rfl (lv_at hl 0 rfl) ?_
      refine m_getA 28 hF hH fk_X12_99 dX12_out_13 (by decide) rfl ?_
      refine lv_iload_n hx hb dX12_out_16 rfl (lv_at hl 1 rfl) ?_
      refine m_iald 28 6 hF hH dX12_out_17 (by decide) rfl rfl 0 16000 rfl rfl (by omega) (by omega) (fun z558 ez558 vz558 => ?_)
      have wz558 := i_eq ez558
      refine lv_icmp_ge (tgt := 40) hx hb dX12_out_18 rfl (fun h559 => ?_) (fun h559 => ?_)
      · have ch559 := i_le h559
        refine lv_iconst (v := (-1)) hx hb dX12_out_40 (by decide) ?_
        exact h_reti hF hr hlk rfl dX12_out_41 hH.1 hle ⟨hH.2, rfl, trivial⟩
      · have ch559 := i_nle h559
        refine lv_aload_n hx hb dX12_out_21 rfl (lv_at hl 0 rfl) ?_
        refine m_getA 27 hF hH fk_X12_96 dX12_out_22 (by decide) rfl ?_
        refine lv_sipush (v := 16000) hx hb dX12_out_25 (by decide) ?_
        refine lv_iload_n hx hb dX12_out_28 rfl (lv_at hl 1 rfl) ?_
        refine lv_imul hx hb dX12_out_29 ?_
        refine lv_topi (fun z560 ez560 => ?_)
        try have hz560 := i_mulk 16000 rfl ez560 (by omega) (by omega)
        refine lv_iload_n hx hb dX12_out_30 rfl (lv_at hl 2 rfl) ?_
        refine lv_iadd hx hb dX12_out_31 ?_
        refine lv_topi (fun z561 ez561 => ?_)
        try have hz561 := i_add ez561 (by omega) (by omega)
        refine m_bald 27 96000 hF hH dX12_out_32 (by decide) rfl rfl (-128) 127 rfl rfl (by omega) (by omega) (fun z562 ez562 vz562 => ?_)
        have wz562 := i_eq ez562
        refine lv_sipush (v := 255) hx hb dX12_out_33 (by decide) ?_
        refine lv_iand hx hb dX12_out_36 ?_
        refine lv_topi (fun z563 ez563 => ?_)
        try have hz563 := i_and ez563 (by omega)
        refine lv_goto (tgt := 41) hx hb dX12_out_37 rfl ?_
        exact h_reti hF hr hlk rfl dX12_out_41 hH.1 hle ⟨hH.2, rfl, trivial⟩

theorem dX12_unlock_0 : decode cX12_unlock 0 = .ok (.aload_n 0, 1) := by decide +kernel
theorem dX12_unlock_1 : decode cX12_unlock 1 = .ok (.dup, 1) := by decide +kernel
theorem dX12_unlock_2 : decode cX12_unlock 2 = .ok (.getfield 289, 3) := by decide +kernel
theorem dX12_unlock_5 : decode cX12_unlock 5 = .ok (.iconst 1, 1) := by decide +kernel
theorem dX12_unlock_6 : decode cX12_unlock 6 = .ok (.isub, 1) := by decide +kernel
theorem dX12_unlock_7 : decode cX12_unlock 7 = .ok (.putfield 289, 3) := by decide +kernel
theorem dX12_unlock_10 : decode cX12_unlock 10 = .ok (.iload_n 1, 1) := by decide +kernel
theorem dX12_unlock_11 : decode cX12_unlock 11 = .ok (.istore_n 2, 1) := by decide +kernel
theorem dX12_unlock_12 : decode cX12_unlock 12 = .ok (.iload_n 2, 1) := by decide +kernel
theorem dX12_unlock_13 : decode cX12_unlock 13 = .ok (.aload_n 0, 1) := by decide +kernel
theorem dX12_unlock_14 : decode cX12_unlock 14 = .ok (.getfield 289, 3) := by decide +kernel
theorem dX12_unlock_17 : decode cX12_unlock 17 = .ok (.if_icmp .ge 79, 3) := by decide +kernel
theorem dX12_unlock_20 : decode cX12_unlock 20 = .ok (.aload_n 0, 1) := by decide +kernel
theorem dX12_unlock_21 : decode cX12_unlock 21 = .ok (.getfield 184, 3) := by decide +kernel
theorem dX12_unlock_24 : decode cX12_unlock 24 = .ok (.iload_n 2, 1) := by decide +kernel
theorem dX12_unlock_25 : decode cX12_unlock 25 = .ok (.aload_n 0, 1) := by decide +kernel
theorem dX12_unlock_26 : decode cX12_unlock 26 = .ok (.getfield 184, 3) := by decide +kernel
theorem dX12_unlock_29 : decode cX12_unlock 29 = .ok (.iload_n 2, 1) := by decide +kernel
theorem dX12_unlock_30 : decode cX12_unlock 30 = .ok (.iconst 1, 1) := by decide +kernel
theorem dX12_unlock_31 : decode cX12_unlock 31 = .ok (.iadd, 1) := by decide +kernel
theorem dX12_unlock_32 : decode cX12_unlock 32 = .ok (.laload, 1) := by decide +kernel
theorem dX12_unlock_33 : decode cX12_unlock 33 = .ok (.lastore, 1) := by decide +kernel
theorem dX12_unlock_34 : decode cX12_unlock 34 = .ok (.aload_n 0, 1) := by decide +kernel
theorem dX12_unlock_35 : decode cX12_unlock 35 = .ok (.getfield 187, 3) := by decide +kernel
theorem dX12_unlock_38 : decode cX12_unlock 38 = .ok (.iload_n 2, 1) := by decide +kernel
theorem dX12_unlock_39 : decode cX12_unlock 39 = .ok (.aload_n 0, 1) := by decide +kernel
theorem dX12_unlock_40 : decode cX12_unlock 40 = .ok (.getfield 187, 3) := by decide +kernel
theorem dX12_unlock_43 : decode cX12_unlock 43 = .ok (.iload_n 2, 1) := by decide +kernel
theorem dX12_unlock_44 : decode cX12_unlock 44 = .ok (.iconst 1, 1) := by decide +kernel
theorem dX12_unlock_45 : decode cX12_unlock 45 = .ok (.iadd, 1) := by decide +kernel
theorem dX12_unlock_46 : decode cX12_unlock 46 = .ok (.iaload, 1) := by decide +kernel
theorem dX12_unlock_47 : decode cX12_unlock 47 = .ok (.iastore, 1) := by decide +kernel
theorem dX12_unlock_48 : decode cX12_unlock 48 = .ok (.aload_n 0, 1) := by decide +kernel
theorem dX12_unlock_49 : decode cX12_unlock 49 = .ok (.getfield 190, 3) := by decide +kernel
theorem dX12_unlock_52 : decode cX12_unlock 52 = .ok (.iload_n 2, 1) := by decide +kernel
theorem dX12_unlock_53 : decode cX12_unlock 53 = .ok (.aload_n 0, 1) := by decide +kernel
theorem dX12_unlock_54 : decode cX12_unlock 54 = .ok (.getfield 190, 3) := by decide +kernel
theorem dX12_unlock_57 : decode cX12_unlock 57 = .ok (.iload_n 2, 1) := by decide +kernel
theorem dX12_unlock_58 : decode cX12_unlock 58 = .ok (.iconst 1, 1) := by decide +kernel
theorem dX12_unlock_59 : decode cX12_unlock 59 = .ok (.iadd, 1) := by decide +kernel
theorem dX12_unlock_60 : decode cX12_unlock 60 = .ok (.laload, 1) := by decide +kernel
theorem dX12_unlock_61 : decode cX12_unlock 61 = .ok (.lastore, 1) := by decide +kernel
theorem dX12_unlock_62 : decode cX12_unlock 62 = .ok (.aload_n 0, 1) := by decide +kernel
theorem dX12_unlock_63 : decode cX12_unlock 63 = .ok (.getfield 193, 3) := by decide +kernel
theorem dX12_unlock_66 : decode cX12_unlock 66 = .ok (.iload_n 2, 1) := by decide +kernel
theorem dX12_unlock_67 : decode cX12_unlock 67 = .ok (.aload_n 0, 1) := by decide +kernel
theorem dX12_unlock_68 : decode cX12_unlock 68 = .ok (.getfield 193, 3) := by decide +kernel
theorem dX12_unlock_71 : decode cX12_unlock 71 = .ok (.iload_n 2, 1) := by decide +kernel
theorem dX12_unlock_72 : decode cX12_unlock 72 = .ok (.iconst 1, 1) := by decide +kernel
theorem dX12_unlock_73 : decode cX12_unlock 73 = .ok (.iadd, 1) := by decide +kernel
theorem dX12_unlock_74 : decode cX12_unlock 74 = .ok (.laload, 1) := by decide +kernel
theorem dX12_unlock_75 : decode cX12_unlock 75 = .ok (.lastore, 1) := by decide +kernel
theorem dX12_unlock_76 : decode cX12_unlock 76 = .ok (.aload_n 0, 1) := by decide +kernel
theorem dX12_unlock_77 : decode cX12_unlock 77 = .ok (.getfield 196, 3) := by decide +kernel
theorem dX12_unlock_80 : decode cX12_unlock 80 = .ok (.iload_n 2, 1) := by decide +kernel
theorem dX12_unlock_81 : decode cX12_unlock 81 = .ok (.aload_n 0, 1) := by decide +kernel
theorem dX12_unlock_82 : decode cX12_unlock 82 = .ok (.getfield 196, 3) := by decide +kernel
theorem dX12_unlock_85 : decode cX12_unlock 85 = .ok (.iload_n 2, 1) := by decide +kernel
theorem dX12_unlock_86 : decode cX12_unlock 86 = .ok (.iconst 1, 1) := by decide +kernel
theorem dX12_unlock_87 : decode cX12_unlock 87 = .ok (.iadd, 1) := by decide +kernel
theorem dX12_unlock_88 : decode cX12_unlock 88 = .ok (.baload, 1) := by decide +kernel
theorem dX12_unlock_89 : decode cX12_unlock 89 = .ok (.bastore, 1) := by decide +kernel
theorem dX12_unlock_90 : decode cX12_unlock 90 = .ok (.iinc 2 1, 3) := by decide +kernel
theorem dX12_unlock_93 : decode cX12_unlock 93 = .ok (.goto (-81), 3) := by decide +kernel
theorem dX12_unlock_96 : decode cX12_unlock 96 = .ok (.return_, 1) := by decide +kernel
set_option maxRecDepth 100000 in
set_option maxHeartbeats 4000000 in
theorem c_X12_unlock (l : Launch) (D : va_G) (t : Nat → ClassId) (h0 : Nat) (L : Nat → Nat) (σ : HS) (hO : OK ph τ0 σ) (hM : MdI h0 L σ) (q : Int32) (hz : 0 ≤ q.toInt ∧ q.toInt < (sI σ h0 63).toInt) (sz : Nat) : HMv ph τ0 l D t yX12_unlock cX12_unlock 3 ({ frames := 0, cells := 0, slots := 0, locals := 0 }) σ sz [.ref h0, .int q] 0 0 (fun σ' => MdI h0 L σ' ∧ Fr h0 L [63] [56, 57, 58, 59, 60] σ σ' ∧ ((sI σ' h0 63).toInt = (sI σ h0 63).toInt - 1)) := by
  refine h_go hO (by decide) (Nat.le_of_ble_eq_true rfl) ?_
  intro p e s m below meth c ls A hF hr hlk hAe hH0 hA hl
  unfold hB
  rw [hAe]
  clear hAe
  have hF : FX p m c cX12_unlock 3 s _ RX12 D t := hF
  have hx := hF.1.1
  have hb := hF.1.2.1
  have hH : MT D t A s.heap h0 L σ s.heap [] := ⟨hH0, hM⟩
  have hle : HLe σ σ := HLe.rf
  have hfr : Fr h0 L [63] [56, 57, 58, 59, 60] σ σ := Fr.rf
  have k_0 : (0 : Int32).toInt = 0 := rfl
  have k_1 : (1 : Int32).toInt = 1 := rfl
  have rg_1 := i_range q
  have hl : lv_has ls 3 [(0, .ref h0), (1, .int q)] := hl
  have rf_63 : (0 : Int) ≤ (sI σ h0 63).toInt ∧ (sI σ h0 63).toInt ≤ 80 := m_fld hH 63 (by decide) rfl
  have kf_63 : sI σ h0 63 = sI σ h0 63 := rfl
  refine lv_aload_n hx hb dX12_unlock_0 rfl (lv_at hl 0 rfl) ?_
  refine lv_dup hx hb dX12_unlock_1 rfl ?_
  refine m_getI hF hH fk_X12_289 dX12_unlock_2 0 80 rfl rfl (fun z564 ez564 vz564 => ?_)
  have wz564 := i_eq ez564
  refine lv_iconst (v := 1) hx hb dX12_unlock_5 (by decide) ?_
  refine lv_isub hx hb dX12_unlock_6 ?_
  refine lv_topi (fun z565 ez565 => ?_)
  try have hz565 := i_sub ez565 (by omega) (by omega)
  have hMp := hH.2
  refine m_putI hF hH fk_X12_289 dX12_unlock_7 0 80 rfl rfl (by omega) rfl rfl rfl (fun σ566 H locs eσ566 hH => ?_)
  have kf_63 : (sI σ566 h0 63).toInt = z565.toInt := by rw [eσ566]; exact congrArg Int32.toInt u2_same
  have hle := hle.tr (show HLe σ σ566 by rw [eσ566]; exact HLe.uI)
  have hfr := hfr.fI hMp eσ566 (by decide) rfl
  refine lv_iload_n hx hb dX12_unlock_10 rfl (lv_at hl 1 rfl) ?_
  refine lv_istore_n (lv' := [(2, .int q), (0, .ref h0), (1, .int q)]) hx hb dX12_unlock_11 rfl hl (by decide) rfl (fun ls hl => ?_)
  have hl : lv_has ls 3 [(2, .int q), (1, .int q), (0, .ref h0)] := lv_sub hl [0, 2, 1] rfl
  refine m_loop (β := Int32) (L0 := fun x => [(2, .int x), (1, .int q), (0, .ref h0)]) (I := fun x σ2 => HLe σ σ2 ∧ Fr h0 L [63] [56, 57, 58, 59, 60] σ σ2 ∧ ((0 ≤ x.toInt) ∧ (sI σ2 h0 63).toInt = (sI σ h0 63).toInt - 1)) (fun x σ2 => (80 - x.toInt).toNat) (q) hl ⟨hle, hfr, ⟨by (try dsimp only); omega, by (try dsimp only); omega⟩⟩ hH (fun x σL ls H locs hl hI hH ih => ?_)
  obtain ⟨x567, hx1⟩ : ∃ y, y = x := ⟨_, rfl⟩
  subst hx1
  obtain ⟨hle, hfr, hI⟩ := hI
  have hl : lv_has ls 3 [(2, .int x567), (1, .int q), (0, .ref h0)] := hl
  have hI : (0 ≤ x567.toInt) ∧ (sI σL h0 63).toInt = (sI σ h0 63).toInt - 1 := hI
  have rg_x567 := i_range x567
  have kf_63 : sI σL h0 63 = sI σL h0 63 := rfl
  refine lv_iload_n hx hb dX12_unlock_12 rfl (lv_at hl 0 rfl) ?_
  refine lv_aload_n hx hb dX12_unlock_13 rfl (lv_at hl 2 rfl) ?_
  refine m_getI hF hH fk_X12_289 dX12_unlock_14 0 80 rfl rfl (fun z568 ez568 vz568 => ?_)
  have wz568 := i_eq ez568
  refine lv_icmp_ge (tgt := 96) hx hb dX12_unlock_17 rfl (fun h569 => ?_) (fun h569 => ?_)
  · have ch569 := i_le h569
    exact h_retv hF hr hlk dX12_unlock_96 hH.1 hle ⟨hH.2, hfr, by (try dsimp only); omega⟩
  · have ch569 := i_nle h569
    refine lv_aload_n hx hb dX12_unlock_20 rfl (lv_at hl 2 rfl) ?_
    refine m_getA 56 hF hH fk_X12_184 dX12_unlock_21 (by decide) rfl ?_
    refine lv_iload_n hx hb dX12_unlock_24 rfl (lv_at hl 0 rfl) ?_
    refine lv_aload_n hx hb dX12_unlock_25 rfl (lv_at hl 2 rfl) ?_
    refine m_getA 56 hF hH fk_X12_184 dX12_unlock_26 (by decide) rfl ?_
    refine lv_iload_n hx hb dX12_unlock_29 rfl (lv_at hl 0 rfl) ?_
    refine lv_iconst (v := 1) hx hb dX12_unlock_30 (by decide) ?_
    refine lv_iadd hx hb dX12_unlock_31 ?_
    refine lv_topi (fun z570 ez570 => ?_)
    try have hz570 := i_add ez570 (by omega) (by omega)
    refine m_lald 56 80 hF hH dX12_unlock_32 (by decide) rfl rfl (by omega) (by omega) (fun z571 ez571 => ?_)
    have hMp := hH.2
    refine m_last 56 80 hF hH dX12_unlock_33 (by decide) rfl rfl (by omega) (by omega) (fun σ572 H locs eσ572 hH => ?_)
    have kf_63 : sI σ572 h0 63 = sI σL h0 63 := (keepFJ eσ572).trans kf_63
    have hle := hle.tr (show HLe σL σ572 by rw [eσ572]; exact HLe.uJ)
    have hfr := hfr.aJ hMp (by decide) eσ572 (by decide)
    refine lv_aload_n hx hb dX12_unlock_34 rfl (lv_at hl 2 rfl) ?_
    refine m_getA 57 hF hH fk_X12_187 dX12_unlock_35 (by decide) rfl ?_
    refine lv_iload_n hx hb dX12_unlock_38 rfl (lv_at hl 0 rfl) ?_
    refine lv_aload_n hx hb dX12_unlock_39 rfl (lv_at hl 2 rfl) ?_
    refine m_getA 57 hF hH fk_X12_187 dX12_unlock_40 (by decide) rfl ?_
    refine lv_iload_n hx hb dX12_unlock_43 rfl (lv_at hl 0 rfl) ?_
    refine lv_iconst (v := 1) hx hb dX12_unlock_44 (by decide) ?_
    refine lv_iadd hx hb dX12_unlock_45 ?_
    refine lv_topi (fun z573 ez573 => ?_)
    try have hz573 := i_add ez573 (by omega) (by omega)
    refine m_iald 57 80 hF hH dX12_unlock_46 (by decide) rfl rfl 0 79 rfl rfl (by omega) (by omega) (fun z574 ez574 vz574 => ?_)
    have wz574 := i_eq ez574
    have hMp := hH.2
    refine m_iast 57 80 hF hH dX12_unlock_47 (by decide) rfl rfl 0 79 rfl rfl (by omega) (by omega) (by omega) (fun σ575 H locs eσ575 hH => ?_)
    have kf_63 : sI σ575 h0 63 = sI σL h0 63 := (keepFA eσ575 hMp (by decide)).trans kf_63
    have hle := hle.tr (show HLe σ572 σ575 by rw [eσ575]; exact HLe.uI)
    have hfr := hfr.aI hMp (by decide) eσ575 (by decide)
    refine lv_aload_n hx hb dX12_unlock_48 rfl (lv_at hl 2 rfl) ?_
    refine m_getA 58 hF hH fk_X12_190 dX12_unlock_49 (by decide) rfl ?_
    refine lv_iload_n hx hb dX12_unlock_52 rfl (lv_at hl 0 rfl) ?_
    refine lv_aload_n hx hb dX12_unlock_53 rfl (lv_at hl 2 rfl) ?_
    refine m_getA 58 hF hH fk_X12_190 dX12_unlock_54 (by decide) rfl ?_
    refine lv_iload_n hx hb dX12_unlock_57 rfl (lv_at hl 0 rfl) ?_
    refine lv_iconst (v := 1) hx hb dX12_unlock_58 (by decide) ?_
    refine lv_iadd hx hb dX12_unlock_59 ?_
    refine lv_topi (fun z576 ez576 => ?_)
    try have hz576 := i_add ez576 (by omega) (by omega)
    refine m_lald 58 80 hF hH dX12_unlock_60 (by decide) rfl rfl (by omega) (by omega) (fun z577 ez577 => ?_)
    have hMp := hH.2
    refine m_last 58 80 hF hH dX12_unlock_61 (by decide) rfl rfl (by omega) (by omega) (fun σ578 H locs eσ578 hH => ?_)
    have kf_63 : sI σ578 h0 63 = sI σL h0 63 := (keepFJ eσ578).trans kf_63
    have hle := hle.tr (show HLe σ575 σ578 by rw [eσ578]; exact HLe.uJ)
    have hfr := hfr.aJ hMp (by decide) eσ578 (by decide)
    refine lv_aload_n hx hb dX12_unlock_62 rfl (lv_at hl 2 rfl) ?_
    refine m_getA 59 hF hH fk_X12_193 dX12_unlock_63 (by decide) rfl ?_
    refine lv_iload_n hx hb dX12_unlock_66 rfl (lv_at hl 0 rfl) ?_
    refine lv_aload_n hx hb dX12_unlock_67 rfl (lv_at hl 2 rfl) ?_
    refine m_getA 59 hF hH fk_X12_193 dX12_unlock_68 (by decide) rfl ?_
    refine lv_iload_n hx hb dX12_unlock_71 rfl (lv_at hl 0 rfl) ?_
    refine lv_iconst (v := 1) hx hb dX12_unlock_72 (by decide) ?_
    refine lv_iadd hx hb dX12_unlock_73 ?_
    refine lv_topi (fun z579 ez579 => ?_)
    try have hz579 := i_add ez579 (by omega) (by omega)
    refine m_lald 59 80 hF hH dX12_unlock_74 (by decide) rfl rfl (by omega) (by omega) (fun z580 ez580 => ?_)
    have hMp := hH.2
    refine m_last 59 80 hF hH dX12_unlock_75 (by decide) rfl rfl (by omega) (by omega) (fun σ581 H locs eσ581 hH => ?_)
    have kf_63 : sI σ581 h0 63 = sI σL h0 63 := (keepFJ eσ581).trans kf_63
    have hle := hle.tr (show HLe σ578 σ581 by rw [eσ581]; exact HLe.uJ)
    have hfr := hfr.aJ hMp (by decide) eσ581 (by decide)
    refine lv_aload_n hx hb dX12_unlock_76 rfl (lv_at hl 2 rfl) ?_
    refine m_getA 60 hF hH fk_X12_196 dX12_unlock_77 (by decide) rfl ?_
    refine lv_iload_n hx hb dX12_unlock_80 rfl (lv_at hl 0 rfl) ?_
    refine lv_aload_n hx hb dX12_unlock_81 rfl (lv_at hl 2 rfl) ?_
    refine m_getA 60 hF hH fk_X12_196 dX12_unlock_82 (by decide) rfl ?_
    refine lv_iload_n hx hb dX12_unlock_85 rfl (lv_at hl 0 rfl) ?_
    refine lv_iconst (v := 1) hx hb dX12_unlock_86 (by decide) ?_
    refine lv_iadd hx hb dX12_unlock_87 ?_
    refine lv_topi (fun z582 ez582 => ?_)
    try have hz582 := i_add ez582 (by omega) (by omega)
    refine m_zald 60 80 hF hH dX12_unlock_88 (by decide) rfl rfl 0 1 rfl rfl (by omega) (by omega) (fun z583 ez583 vz583 => ?_)
    have wz583 := i_eq ez583
    have hMp := hH.2
    refine m_zast 60 80 hF hH dX12_unlock_89 (by decide) rfl rfl rfl rfl (by omega) (by omega) (fun σ584 H locs eσ584 hH => ?_)
    have kf_63 : sI σ584 h0 63 = sI σL h0 63 := (keepFA eσ584 hMp (by decide)).trans kf_63
    have hle := hle.tr (show HLe σ581 σ584 by rw [eσ584]; exact HLe.uI)
    have hfr := hfr.aI hMp (by decide) eσ584 (by decide)
    obtain ⟨z585, ez585⟩ : ∃ z : Int32, z = x567 + Int32.ofInt 1 := ⟨_, rfl⟩
    have hz585 := i_add ez585 (by rw [show (Int32.ofInt 1).toInt = 1 from rfl]; omega) (by rw [show (Int32.ofInt 1).toInt = 1 from rfl]; omega)
    rw [show (Int32.ofInt 1).toInt = 1 from rfl] at hz585
    refine lv_iinc (lv' := [(2, .int z585), (1, .int q), (0, .ref h0)]) (k := 0) (v := z585) hx hb dX12_unlock_90 hl rfl ez585.symm (by decide) rfl (fun ls hl => ?_)
    refine lv_goto (tgt := 12) hx hb dX12_unlock_93 rfl ?_
    have hl : lv_has ls 3 [(2, .int z585), (1, .int q), (0, .ref h0)] := lv_sub hl [0, 1, 2] rfl
    exact ih (z585) σ584 ls H locs (by (try dsimp only); omega) hl ⟨hle, hfr, ⟨by (try dsimp only); omega, by rw [kf_63]; exact hI.2⟩⟩ hH
theorem dX12_addLock_0 : decode cX12_addLock 0 = .ok (.aload_n 0, 1) := by decide +kernel
theorem dX12_addLock_1 : decode cX12_addLock 1 = .ok (.getfield 184, 3) := by decide +kernel
theorem dX12_addLock_4 : decode cX12_addLock 4 = .ok (.aload_n 0, 1) := by decide +kernel
theorem dX12_addLock_5 : decode cX12_addLock 5 = .ok (.getfield 289, 3) := by decide +kernel
theorem dX12_addLock_8 : decode cX12_addLock 8 = .ok (.lload_n 1, 1) := by decide +kernel
theorem dX12_addLock_9 : decode cX12_addLock 9 = .ok (.lastore, 1) := by decide +kernel
theorem dX12_addLock_10 : decode cX12_addLock 10 = .ok (.aload_n 0, 1) := by decide +kernel
theorem dX12_addLock_11 : decode cX12_addLock 11 = .ok (.getfield 187, 3) := by decide +kernel
theorem dX12_addLock_14 : decode cX12_addLock 14 = .ok (.aload_n 0, 1) := by decide +kernel
theorem dX12_addLock_15 : decode cX12_addLock 15 = .ok (.getfield 289, 3) := by decide +kernel
theorem dX12_addLock_18 : decode cX12_addLock 18 = .ok (.iload_n 3, 1) := by decide +kernel
theorem dX12_addLock_19 : decode cX12_addLock 19 = .ok (.iastore, 1) := by decide +kernel
theorem dX12_addLock_20 : decode cX12_addLock 20 = .ok (.aload_n 0, 1) := by decide +kernel
theorem dX12_addLock_21 : decode cX12_addLock 21 = .ok (.getfield 190, 3) := by decide +kernel
theorem dX12_addLock_24 : decode cX12_addLock 24 = .ok (.aload_n 0, 1) := by decide +kernel
theorem dX12_addLock_25 : decode cX12_addLock 25 = .ok (.getfield 289, 3) := by decide +kernel
theorem dX12_addLock_28 : decode cX12_addLock 28 = .ok (.lload 4, 2) := by decide +kernel
theorem dX12_addLock_30 : decode cX12_addLock 30 = .ok (.lastore, 1) := by decide +kernel
theorem dX12_addLock_31 : decode cX12_addLock 31 = .ok (.aload_n 0, 1) := by decide +kernel
theorem dX12_addLock_32 : decode cX12_addLock 32 = .ok (.getfield 193, 3) := by decide +kernel
theorem dX12_addLock_35 : decode cX12_addLock 35 = .ok (.aload_n 0, 1) := by decide +kernel
theorem dX12_addLock_36 : decode cX12_addLock 36 = .ok (.getfield 289, 3) := by decide +kernel
theorem dX12_addLock_39 : decode cX12_addLock 39 = .ok (.lload 6, 2) := by decide +kernel
theorem dX12_addLock_41 : decode cX12_addLock 41 = .ok (.lastore, 1) := by decide +kernel
theorem dX12_addLock_42 : decode cX12_addLock 42 = .ok (.aload_n 0, 1) := by decide +kernel
theorem dX12_addLock_43 : decode cX12_addLock 43 = .ok (.getfield 196, 3) := by decide +kernel
theorem dX12_addLock_46 : decode cX12_addLock 46 = .ok (.aload_n 0, 1) := by decide +kernel
theorem dX12_addLock_47 : decode cX12_addLock 47 = .ok (.getfield 289, 3) := by decide +kernel
theorem dX12_addLock_50 : decode cX12_addLock 50 = .ok (.iload 8, 2) := by decide +kernel
theorem dX12_addLock_52 : decode cX12_addLock 52 = .ok (.bastore, 1) := by decide +kernel
theorem dX12_addLock_53 : decode cX12_addLock 53 = .ok (.aload_n 0, 1) := by decide +kernel
theorem dX12_addLock_54 : decode cX12_addLock 54 = .ok (.dup, 1) := by decide +kernel
theorem dX12_addLock_55 : decode cX12_addLock 55 = .ok (.getfield 289, 3) := by decide +kernel
theorem dX12_addLock_58 : decode cX12_addLock 58 = .ok (.iconst 1, 1) := by decide +kernel
theorem dX12_addLock_59 : decode cX12_addLock 59 = .ok (.iadd, 1) := by decide +kernel
theorem dX12_addLock_60 : decode cX12_addLock 60 = .ok (.putfield 289, 3) := by decide +kernel
theorem dX12_addLock_63 : decode cX12_addLock 63 = .ok (.return_, 1) := by decide +kernel
set_option maxRecDepth 100000 in
set_option maxHeartbeats 4000000 in
theorem c_X12_addLock (l : Launch) (D : va_G) (t : Nat → ClassId) (h0 : Nat) (L : Nat → Nat) (σ : HS) (hO : OK ph τ0 σ) (hM : MdI h0 L σ) (v1 : Int64) (n : Int32) (v4 v6 : Int64) (q : Int32) (hz : (sI σ h0 63).toInt ≤ 79 ∧ 0 ≤ n.toInt ∧ n.toInt ≤ 79) (sz : Nat) : HMv ph τ0 l D t yX12_addLock cX12_addLock 9 ({ frames := 0, cells := 0, slots := 0, locals := 0 }) σ sz [.ref h0, .long v1, .int n, .long v4, .long v6, .int q] 0 0 (fun σ' => MdI h0 L σ' ∧ Fr h0 L [63] [56, 57, 58, 59, 60] σ σ' ∧ ((sI σ' h0 63).toInt = (sI σ h0 63).toInt + 1)) := by
  refine h_go hO (by decide) (Nat.le_of_ble_eq_true rfl) ?_
  intro p e s m below meth c ls A hF hr hlk hAe hH0 hA hl
  unfold hB
  rw [hAe]
  clear hAe
  have hF : FX p m c cX12_addLock 9 s _ RX12 D t := hF
  have hx := hF.1.1
  have hb := hF.1.2.1
  have hH : MT D t A s.heap h0 L σ s.heap [] := ⟨hH0, hM⟩
  have hle : HLe σ σ := HLe.rf
  have hfr : Fr h0 L [63] [56, 57, 58, 59, 60] σ σ := Fr.rf
  have k_0 : (0 : Int32).toInt = 0 := rfl
  have k_1 : (1 : Int32).toInt = 1 := rfl
  have rg_3 := i_range n
  have rg_8 := i_range q
  have hl : lv_has ls 9 [(0, .ref h0), (1, .long v1), (3, .int n), (4, .long v4), (6, .long v6), (8, .int q)] := hl
  have rf_63 : (0 : Int) ≤ (sI σ h0 63).toInt ∧ (sI σ h0 63).toInt ≤ 80 := m_fld hH 63 (by decide) rfl
  have kf_63 : sI σ h0 63 = sI σ h0 63 := rfl
  refine lv_aload_n hx hb dX12_addLock_0 rfl (lv_at hl 0 rfl) ?_
  refine m_getA 56 hF hH fk_X12_184 dX12_addLock_1 (by decide) rfl ?_
  refine lv_aload_n hx hb dX12_addLock_4 rfl (lv_at hl 0 rfl) ?_
  refine m_getI hF hH fk_X12_289 dX12_addLock_5 0 80 rfl rfl (fun z586 ez586 vz586 => ?_)
  have wz586 := i_eq ez586
  refine lv_lload_n hx hb dX12_addLock_8 rfl (lv_at hl 1 rfl) ?_
  have hMp := hH.2
  refine m_last 56 80 hF hH dX12_addLock_9 (by decide) rfl rfl (by omega) (by omega) (fun σ587 H locs eσ587 hH => ?_)
  have kf_63 : sI σ587 h0 63 = sI σ h0 63 := (keepFJ eσ587).trans kf_63
  have hle := hle.tr (show HLe σ σ587 by rw [eσ587]; exact HLe.uJ)
  have hfr := hfr.aJ hMp (by decide) eσ587 (by decide)
  refine lv_aload_n hx hb dX12_addLock_10 rfl (lv_at hl 0 rfl) ?_
  refine m_getA 57 hF hH fk_X12_187 dX12_addLock_11 (by decide) rfl ?_
  refine lv_aload_n hx hb dX12_addLock_14 rfl (lv_at hl 0 rfl) ?_
  refine m_getI hF hH fk_X12_289 dX12_addLock_15 0 80 rfl rfl (fun z588 ez588 vz588 => ?_)
  have wz588 := i_eq (ez588.trans kf_63)
  refine lv_iload_n hx hb dX12_addLock_18 rfl (lv_at hl 2 rfl) ?_
  have hMp := hH.2
  refine m_iast 57 80 hF hH dX12_addLock_19 (by decide) rfl rfl 0 79 rfl rfl (by omega) (by omega) (by omega) (fun σ589 H locs eσ589 hH => ?_)
  have kf_63 : sI σ589 h0 63 = sI σ h0 63 := (keepFA eσ589 hMp (by decide)).trans kf_63
  have hle := hle.tr (show HLe σ587 σ589 by rw [eσ589]; exact HLe.uI)
  have hfr := hfr.aI hMp (by decide) eσ589 (by decide)
  refine lv_aload_n hx hb dX12_addLock_20 rfl (lv_at hl 0 rfl) ?_
  refine m_getA 58 hF hH fk_X12_190 dX12_addLock_21 (by decide) rfl ?_
  refine lv_aload_n hx hb dX12_addLock_24 rfl (lv_at hl 0 rfl) ?_
  refine m_getI hF hH fk_X12_289 dX12_addLock_25 0 80 rfl rfl (fun z590 ez590 vz590 => ?_)
  have wz590 := i_eq (ez590.trans kf_63)
  refine lv_lload hx hb dX12_addLock_28 (lv_at hl 3 rfl) ?_
  have hMp := hH.2
  refine m_last 58 80 hF hH dX12_addLock_30 (by decide) rfl rfl (by omega) (by omega) (fun σ591 H locs eσ591 hH => ?_)
  have kf_63 : sI σ591 h0 63 = sI σ h0 63 := (keepFJ eσ591).trans kf_63
  have hle := hle.tr (show HLe σ589 σ591 by rw [eσ591]; exact HLe.uJ)
  have hfr := hfr.aJ hMp (by decide) eσ591 (by decide)
  refine lv_aload_n hx hb dX12_addLock_31 rfl (lv_at hl 0 rfl) ?_
  refine m_getA 59 hF hH fk_X12_193 dX12_addLock_32 (by decide) rfl ?_
  refine lv_aload_n hx hb dX12_addLock_35 rfl (lv_at hl 0 rfl) ?_
  refine m_getI hF hH fk_X12_289 dX12_addLock_36 0 80 rfl rfl (fun z592 ez592 vz592 => ?_)
  have wz592 := i_eq (ez592.trans kf_63)
  refine lv_lload hx hb dX12_addLock_39 (lv_at hl 4 rfl) ?_
  have hMp := hH.2
  refine m_last 59 80 hF hH dX12_addLock_41 (by decide) rfl rfl (by omega) (by omega) (fun σ593 H locs eσ593 hH => ?_)
  have kf_63 : sI σ593 h0 63 = sI σ h0 63 := (keepFJ eσ593).trans kf_63
  have hle := hle.tr (show HLe σ591 σ593 by rw [eσ593]; exact HLe.uJ)
  have hfr := hfr.aJ hMp (by decide) eσ593 (by decide)
  refine lv_aload_n hx hb dX12_addLock_42 rfl (lv_at hl 0 rfl) ?_
  refine m_getA 60 hF hH fk_X12_196 dX12_addLock_43 (by decide) rfl ?_
  refine lv_aload_n hx hb dX12_addLock_46 rfl (lv_at hl 0 rfl) ?_
  refine m_getI hF hH fk_X12_289 dX12_addLock_47 0 80 rfl rfl (fun z594 ez594 vz594 => ?_)
  have wz594 := i_eq (ez594.trans kf_63)
  refine lv_iload hx hb dX12_addLock_50 (lv_at hl 5 rfl) ?_
  have hMp := hH.2
  refine m_zast 60 80 hF hH dX12_addLock_52 (by decide) rfl rfl rfl rfl (by omega) (by omega) (fun σ595 H locs eσ595 hH => ?_)
  have kf_63 : sI σ595 h0 63 = sI σ h0 63 := (keepFA eσ595 hMp (by decide)).trans kf_63
  have hle := hle.tr (show HLe σ593 σ595 by rw [eσ595]; exact HLe.uI)
  have hfr := hfr.aI hMp (by decide) eσ595 (by decide)
  refine lv_aload_n hx hb dX12_addLock_53 rfl (lv_at hl 0 rfl) ?_
  refine lv_dup hx hb dX12_addLock_54 rfl ?_
  refine m_getI hF hH fk_X12_289 dX12_addLock_55 0 80 rfl rfl (fun z596 ez596 vz596 => ?_)
  have wz596 := i_eq (ez596.trans kf_63)
  refine lv_iconst (v := 1) hx hb dX12_addLock_58 (by decide) ?_
  refine lv_iadd hx hb dX12_addLock_59 ?_
  refine lv_topi (fun z597 ez597 => ?_)
  try have hz597 := i_add ez597 (by omega) (by omega)
  have hMp := hH.2
  refine m_putI hF hH fk_X12_289 dX12_addLock_60 0 80 rfl rfl (by omega) rfl rfl rfl (fun σ598 H locs eσ598 hH => ?_)
  have kf_63 : (sI σ598 h0 63).toInt = z597.toInt := by rw [eσ598]; exact congrArg Int32.toInt u2_same
  have hle := hle.tr (show HLe σ595 σ598 by rw [eσ598]; exact HLe.uI)
  have hfr := hfr.fI hMp eσ598 (by decide) rfl
  exact h_retv hF hr hlk dX12_addLock_63 hH.1 hle ⟨hH.2, hfr, by (try dsimp only); omega⟩
theorem dX12_isEmpty_0 : decode cX12_isEmpty 0 = .ok (.iconst 0, 1) := by decide +kernel
theorem dX12_isEmpty_1 : decode cX12_isEmpty 1 = .ok (.istore_n 2, 1) := by decide +kernel
theorem dX12_isEmpty_2 : decode cX12_isEmpty 2 = .ok (.iconst 0, 1) := by decide +kernel
theorem dX12_isEmpty_3 : decode cX12_isEmpty 3 = .ok (.istore_n 3, 1) := by decide +kernel
theorem dX12_isEmpty_4 : decode cX12_isEmpty 4 = .ok (.iload_n 3, 1) := by decide +kernel
theorem dX12_isEmpty_5 : decode cX12_isEmpty 5 = .ok (.bipush 80, 2) := by decide +kernel
theorem dX12_isEmpty_7 : decode cX12_isEmpty 7 = .ok (.if_icmp .ge 36, 3) := by decide +kernel
theorem dX12_isEmpty_10 : decode cX12_isEmpty 10 = .ok (.iload_n 2, 1) := by decide +kernel
theorem dX12_isEmpty_11 : decode cX12_isEmpty 11 = .ok (.aload_n 0, 1) := by decide +kernel
theorem dX12_isEmpty_12 : decode cX12_isEmpty 12 = .ok (.getfield 13, 3) := by decide +kernel
theorem dX12_isEmpty_15 : decode cX12_isEmpty 15 = .ok (.iload_n 3, 1) := by decide +kernel
theorem dX12_isEmpty_16 : decode cX12_isEmpty 16 = .ok (.baload, 1) := by decide +kernel
theorem dX12_isEmpty_17 : decode cX12_isEmpty 17 = .ok (.ifCond .eq 17, 3) := by decide +kernel
theorem dX12_isEmpty_20 : decode cX12_isEmpty 20 = .ok (.aload_n 0, 1) := by decide +kernel
theorem dX12_isEmpty_21 : decode cX12_isEmpty 21 = .ok (.getfield 17, 3) := by decide +kernel
theorem dX12_isEmpty_24 : decode cX12_isEmpty 24 = .ok (.iload_n 3, 1) := by decide +kernel
theorem dX12_isEmpty_25 : decode cX12_isEmpty 25 = .ok (.iaload, 1) := by decide +kernel
theorem dX12_isEmpty_26 : decode cX12_isEmpty 26 = .ok (.iload_n 1, 1) := by decide +kernel
theorem dX12_isEmpty_27 : decode cX12_isEmpty 27 = .ok (.if_icmp .ne 7, 3) := by decide +kernel
theorem dX12_isEmpty_30 : decode cX12_isEmpty 30 = .ok (.iconst 1, 1) := by decide +kernel
theorem dX12_isEmpty_31 : decode cX12_isEmpty 31 = .ok (.goto 4, 3) := by decide +kernel
theorem dX12_isEmpty_34 : decode cX12_isEmpty 34 = .ok (.iconst 0, 1) := by decide +kernel
theorem dX12_isEmpty_35 : decode cX12_isEmpty 35 = .ok (.ior, 1) := by decide +kernel
theorem dX12_isEmpty_36 : decode cX12_isEmpty 36 = .ok (.istore_n 2, 1) := by decide +kernel
theorem dX12_isEmpty_37 : decode cX12_isEmpty 37 = .ok (.iinc 3 1, 3) := by decide +kernel
theorem dX12_isEmpty_40 : decode cX12_isEmpty 40 = .ok (.goto (-36), 3) := by decide +kernel
theorem dX12_isEmpty_43 : decode cX12_isEmpty 43 = .ok (.iload_n 2, 1) := by decide +kernel
theorem dX12_isEmpty_44 : decode cX12_isEmpty 44 = .ok (.ifCond .ne 7, 3) := by decide +kernel
theorem dX12_isEmpty_47 : decode cX12_isEmpty 47 = .ok (.iconst 1, 1) := by decide +kernel
theorem dX12_isEmpty_48 : decode cX12_isEmpty 48 = .ok (.goto 4, 3) := by decide +kernel
theorem dX12_isEmpty_51 : decode cX12_isEmpty 51 = .ok (.iconst 0, 1) := by decide +kernel
theorem dX12_isEmpty_52 : decode cX12_isEmpty 52 = .ok (.ireturn, 1) := by decide +kernel
set_option maxRecDepth 100000 in
set_option maxHeartbeats 4000000 in
theorem c_X12_isEmpty (l : Launch) (D : va_G) (t : Nat → ClassId) (h0 : Nat) (L : Nat → Nat) (σ : HS) (hO : OK ph τ0 σ) (hM : MdI h0 L σ) (k : Int32) (sz : Nat) : HMi ph τ0 l D t yX12_isEmpty cX12_isEmpty 4 (some .boolean) ({ frames := 0, cells := 0, slots := 0, locals := 0 }) σ sz [.ref h0, .int k] 0 0 (fun r σ' => MdI h0 L σ' ∧ σ' = σ ∧ (0 ≤ r.toInt ∧ r.toInt ≤ 1)) := by
  refine h_go hO (by decide) (Nat.le_of_ble_eq_true rfl) ?_
  intro p e s m below meth c ls A hF hr hlk hAe hH0 hA hl
  unfold hB
  rw [hAe]
  clear hAe
  have hF : FX p m c cX12_isEmpty 4 s _ RX12 D t := hF
  have hx := hF.1.1
  have hb := hF.1.2.1
  have hH : MT D t A s.heap h0 L σ s.heap [] := ⟨hH0, hM⟩
  have hle : HLe σ σ := HLe.rf
  have k_0 : (0 : Int32).toInt = 0 := rfl
  have k_1 : (1 : Int32).toInt = 1 := rfl
  have k_80 : (80 : Int32).toInt = 80 := rfl
  have rg_1 := i_range k
  have hl : lv_has ls 4 [(0, .ref h0), (1, .int k)] := hl
  refine lv_iconst (v := 0) hx hb dX12_isEmpty_0 (by decide) ?_
  refine lv_istore_n (lv' := [(2, .int 0), (0, .ref h0), (1, .int k)]) hx hb dX12_isEmpty_1 rfl hl (by decide) rfl (fun ls hl => ?_)
  refine lv_iconst (v := 0) hx hb dX12_isEmpty_2 (by decide) ?_
  refine lv_istore_n (lv' := [(3, .int 0), (2, .int 0), (0, .ref h0), (1, .int k)]) hx hb dX12_isEmpty_3 rfl hl (by decide) rfl (fun ls hl => ?_)
  have hl : lv_has ls 4 [(3, .int 0), (2, .int 0), (1, .int k), (0, .ref h0)] := lv_sub hl [0, 1, 3, 2] rfl
  refine m_loop (β := Int32 × Int32) (L0 := fun x => [(3, .int x.1), (2, .int x.2), (1, .int k), (0, .ref h0)]) (I := fun x σ2 => σ = σ2 ∧ (0 ≤ x.1.toInt ∧ x.1.toInt ≤ 80 ∧ 0 ≤ x.2.toInt ∧ x.2.toInt ≤ 1)) (fun x σ2 => (80 - x.1.toInt).toNat) (0, 0) hl ⟨rfl, by (try dsimp only); omega⟩ hH (fun x σL ls H locs hl hI hH ih => ?_)
  obtain ⟨x599, x600⟩ := x
  obtain ⟨hsL, hI⟩ := hI
  subst hsL
  have hl : lv_has ls 4 [(3, .int x599), (2, .int x600), (1, .int k), (0, .ref h0)] := hl
  have hI : 0 ≤ x599.toInt ∧ x599.toInt ≤ 80 ∧ 0 ≤ x600.toInt ∧ x600.toInt ≤ 1 := hI
  have rg_x599 := i_range x599
  have rg_x600 := i_range x600
  refine lv_iload_n hx hb dX12_isEmpty_4 rfl (lv_at hl 0 rfl) ?_
  refine lv_bipush (v := 80) hx hb dX12_isEmpty_5 (by decide) ?_
  refine lv_icmp_ge (tgt := 43) hx hb dX12_isEmpty_7 rfl (fun h601 => ?_) (fun h601 => ?_)
  · have ch601 := i_le h601
    refine lv_iload_n hx hb dX12_isEmpty_43 rfl (lv_at hl 1 rfl) ?_
    refine lv_if_ne (tgt := 51) hx hb dX12_isEmpty_44 rfl (fun h602 => ?_) (fun h602 => ?_)
    · have ch602 := i_ne h602
      refine lv_iconst (v := 0) hx hb dX12_isEmpty_51 (by decide) ?_
      exact h_reti hF hr hlk (i_01 (by omega)).1 dX12_isEmpty_52 hH.1 hle ⟨hH.2, rfl, by (try dsimp only); omega⟩
    · have ch602 := i_eq h602
      refine lv_iconst (v := 1) hx hb dX12_isEmpty_47 (by decide) ?_
      refine lv_goto (tgt := 52) hx hb dX12_isEmpty_48 rfl ?_
      exact h_reti hF hr hlk (i_01 (by omega)).1 dX12_isEmpty_52 hH.1 hle ⟨hH.2, rfl, by (try dsimp only); omega⟩
  · have ch601 := i_nle h601
    refine lv_iload_n hx hb dX12_isEmpty_10 rfl (lv_at hl 1 rfl) ?_
    refine lv_aload_n hx hb dX12_isEmpty_11 rfl (lv_at hl 3 rfl) ?_
    refine m_getA 1 hF hH fk_X12_13 dX12_isEmpty_12 (by decide) rfl ?_
    refine lv_iload_n hx hb dX12_isEmpty_15 rfl (lv_at hl 0 rfl) ?_
    refine m_zald 1 160 hF hH dX12_isEmpty_16 (by decide) rfl rfl 0 1 rfl rfl (by omega) (by omega) (fun z603 ez603 vz603 => ?_)
    have wz603 := i_eq ez603
    refine lv_if_eq (tgt := 34) hx hb dX12_isEmpty_17 rfl (fun h604 => ?_) (fun h604 => ?_)
    · have ch604 := i_eq h604
      refine lv_iconst (v := 0) hx hb dX12_isEmpty_34 (by decide) ?_
      refine lv_ior hx hb dX12_isEmpty_35 ?_
      refine lv_topi (fun z605 ez605 => ?_)
      try have hz605 := i_or01 ez605 (by omega) (by omega)
      try have h2z605 := i_or ez605 (by omega) (by omega)
      refine lv_istore_n (lv' := [(2, .int z605), (3, .int x599), (1, .int k), (0, .ref h0)]) hx hb dX12_isEmpty_36 rfl hl (by decide) rfl (fun ls hl => ?_)
      obtain ⟨z606, ez606⟩ : ∃ z : Int32, z = x599 + Int32.ofInt 1 := ⟨_, rfl⟩
      have hz606 := i_add ez606 (by rw [show (Int32.ofInt 1).toInt = 1 from rfl]; omega) (by rw [show (Int32.ofInt 1).toInt = 1 from rfl]; omega)
      rw [show (Int32.ofInt 1).toInt = 1 from rfl] at hz606
      refine lv_iinc (lv' := [(3, .int z606), (2, .int z605), (1, .int k), (0, .ref h0)]) (k := 1) (v := z606) hx hb dX12_isEmpty_37 hl rfl ez606.symm (by decide) rfl (fun ls hl => ?_)
      refine lv_goto (tgt := 4) hx hb dX12_isEmpty_40 rfl ?_
      have hl : lv_has ls 4 [(3, .int z606), (2, .int z605), (1, .int k), (0, .ref h0)] := lv_sub hl [0, 1, 2, 3] rfl
      exact ih (z606, z605) σ ls H locs (by (try dsimp only); omega) hl ⟨rfl, by (try dsimp only); omega⟩ hH
    · have ch604 := i_ne h604
      refine lv_aload_n hx hb dX12_isEmpty_20 rfl (lv_at hl 3 rfl) ?_
      refine m_getA 2 hF hH fk_X12_17 dX12_isEmpty_21 (by decide) rfl ?_
      refine lv_iload_n hx hb dX12_isEmpty_24 rfl (lv_at hl 0 rfl) ?_
      refine m_iald 2 160 hF hH dX12_isEmpty_25 (by decide) rfl rfl (-1) 79 rfl rfl (by omega) (by omega) (fun z607 ez607 vz607 => ?_)
      have wz607 := i_eq ez607
      refine lv_iload_n hx hb dX12_isEmpty_26 rfl (lv_at hl 2 rfl) ?_
      refine lv_icmp_ne (tgt := 34) hx hb dX12_isEmpty_27 rfl (fun h608 => ?_) (fun h608 => ?_)
      · have ch608 := i_ne h608
        refine lv_iconst (v := 0) hx hb dX12_isEmpty_34 (by decide) ?_
        refine lv_ior hx hb dX12_isEmpty_35 ?_
        refine lv_topi (fun z609 ez609 => ?_)
        try have hz609 := i_or01 ez609 (by omega) (by omega)
        try have h2z609 := i_or ez609 (by omega) (by omega)
        refine lv_istore_n (lv' := [(2, .int z609), (3, .int x599), (1, .int k), (0, .ref h0)]) hx hb dX12_isEmpty_36 rfl hl (by decide) rfl (fun ls hl => ?_)
        obtain ⟨z610, ez610⟩ : ∃ z : Int32, z = x599 + Int32.ofInt 1 := ⟨_, rfl⟩
        have hz610 := i_add ez610 (by rw [show (Int32.ofInt 1).toInt = 1 from rfl]; omega) (by rw [show (Int32.ofInt 1).toInt = 1 from rfl]; omega)
        rw [show (Int32.ofInt 1).toInt = 1 from rfl] at hz610
        refine lv_iinc (lv' := [(3, .int z610), (2, .int z609), (1, .int k), (0, .ref h0)]) (k := 1) (v := z610) hx hb dX12_isEmpty_37 hl rfl ez610.symm (by decide) rfl (fun ls hl => ?_)
        refine lv_goto (tgt := 4) hx hb dX12_isEmpty_40 rfl ?_
        have hl : lv_has ls 4 [(3, .int z610), (2, .int z609), (1, .int k), (0, .ref h0)] := lv_sub hl [0, 1, 2, 3] rfl
        exact ih (z610, z609) σ ls H locs (by (try dsimp only); omega) hl ⟨rfl, by (try dsimp only); omega⟩ hH
      · have ch608 := i_eq h608
        refine lv_iconst (v := 1) hx hb dX12_isEmpty_30 (by decide) ?_
        refine lv_goto (tgt := 35) hx hb dX12_isEmpty_31 rfl ?_
        refine lv_ior hx hb dX12_isEmpty_35 ?_
        refine lv_topi (fun z611 ez611 => ?_)
        try have hz611 := i_or01 ez611 (by omega) (by omega)
        try have h2z611 := i_or ez611 (by omega) (by omega)
        refine lv_istore_n (lv' := [(2, .int z611), (3, .int x599), (1, .int k), (0, .ref h0)]) hx hb dX12_isEmpty_36 rfl hl (by decide) rfl (fun ls hl => ?_)
        obtain ⟨z612, ez612⟩ : ∃ z : Int32, z = x599 + Int32.ofInt 1 := ⟨_, rfl⟩
        have hz612 := i_add ez612 (by rw [show (Int32.ofInt 1).toInt = 1 from rfl]; omega) (by rw [show (Int32.ofInt 1).toInt = 1 from rfl]; omega)
        rw [show (Int32.ofInt 1).toInt = 1 from rfl] at hz612
        refine lv_iinc (lv' := [(3, .int z612), (2, .int z611), (1, .int k), (0, .ref h0)]) (k := 1) (v := z612) hx hb dX12_isEmpty_37 hl rfl ez612.symm (by decide) rfl (fun ls hl => ?_)
        refine lv_goto (tgt := 4) hx hb dX12_isEmpty_40 rfl ?_
        have hl : lv_has ls 4 [(3, .int z612), (2, .int z611), (1, .int k), (0, .ref h0)] := lv_sub hl [0, 1, 2, 3] rfl
        exact ih (z612, z611) σ ls H locs (by (try dsimp only); omega) hl ⟨rfl, by (try dsimp only); omega⟩ hH
theorem dX12_apply_0 : decode cX12_apply 0 = .ok (.iload_n 2, 1) := by decide +kernel
theorem dX12_apply_1 : decode cX12_apply 1 = .ok (.aload_n 0, 1) := by decide +kernel
theorem dX12_apply_2 : decode cX12_apply 2 = .ok (.getfield 59, 3) := by decide +kernel
theorem dX12_apply_5 : decode cX12_apply 5 = .ok (.iload_n 1, 1) := by decide +kernel
theorem dX12_apply_6 : decode cX12_apply 6 = .ok (.iaload, 1) := by decide +kernel
theorem dX12_apply_7 : decode cX12_apply 7 = .ok (.iadd, 1) := by decide +kernel
theorem dX12_apply_8 : decode cX12_apply 8 = .ok (.istore_n 3, 1) := by decide +kernel
theorem dX12_apply_9 : decode cX12_apply 9 = .ok (.aload_n 0, 1) := by decide +kernel
theorem dX12_apply_10 : decode cX12_apply 10 = .ok (.getfield 56, 3) := by decide +kernel
theorem dX12_apply_13 : decode cX12_apply 13 = .ok (.iload_n 1, 1) := by decide +kernel
theorem dX12_apply_14 : decode cX12_apply 14 = .ok (.iaload, 1) := by decide +kernel
theorem dX12_apply_15 : decode cX12_apply 15 = .ok (.iconst 5, 1) := by decide +kernel
theorem dX12_apply_16 : decode cX12_apply 16 = .ok (.if_icmp .ne 11, 3) := by decide +kernel
theorem dX12_apply_19 : decode cX12_apply 19 = .ok (.aload_n 0, 1) := by decide +kernel
theorem dX12_apply_20 : decode cX12_apply 20 = .ok (.getfield 13, 3) := by decide +kernel
theorem dX12_apply_23 : decode cX12_apply 23 = .ok (.iload_n 3, 1) := by decide +kernel
theorem dX12_apply_24 : decode cX12_apply 24 = .ok (.iconst 0, 1) := by decide +kernel
theorem dX12_apply_25 : decode cX12_apply 25 = .ok (.bastore, 1) := by decide +kernel
theorem dX12_apply_26 : decode cX12_apply 26 = .ok (.return_, 1) := by decide +kernel
theorem dX12_apply_27 : decode cX12_apply 27 = .ok (.aload_n 0, 1) := by decide +kernel
theorem dX12_apply_28 : decode cX12_apply 28 = .ok (.getfield 56, 3) := by decide +kernel
theorem dX12_apply_31 : decode cX12_apply 31 = .ok (.iload_n 1, 1) := by decide +kernel
theorem dX12_apply_32 : decode cX12_apply 32 = .ok (.iaload, 1) := by decide +kernel
theorem dX12_apply_33 : decode cX12_apply 33 = .ok (.ifCond .ne 29, 3) := by decide +kernel
theorem dX12_apply_36 : decode cX12_apply 36 = .ok (.aload_n 0, 1) := by decide +kernel
theorem dX12_apply_37 : decode cX12_apply 37 = .ok (.getfield 13, 3) := by decide +kernel
theorem dX12_apply_40 : decode cX12_apply 40 = .ok (.iload_n 3, 1) := by decide +kernel
theorem dX12_apply_41 : decode cX12_apply 41 = .ok (.iconst 1, 1) := by decide +kernel
theorem dX12_apply_42 : decode cX12_apply 42 = .ok (.bastore, 1) := by decide +kernel
theorem dX12_apply_43 : decode cX12_apply 43 = .ok (.aload_n 0, 1) := by decide +kernel
theorem dX12_apply_44 : decode cX12_apply 44 = .ok (.getfield 21, 3) := by decide +kernel
theorem dX12_apply_47 : decode cX12_apply 47 = .ok (.iload_n 3, 1) := by decide +kernel
theorem dX12_apply_48 : decode cX12_apply 48 = .ok (.aload_n 0, 1) := by decide +kernel
theorem dX12_apply_49 : decode cX12_apply 49 = .ok (.getfield 65, 3) := by decide +kernel
theorem dX12_apply_52 : decode cX12_apply 52 = .ok (.iload_n 1, 1) := by decide +kernel
theorem dX12_apply_53 : decode cX12_apply 53 = .ok (.baload, 1) := by decide +kernel
theorem dX12_apply_54 : decode cX12_apply 54 = .ok (.bastore, 1) := by decide +kernel
theorem dX12_apply_55 : decode cX12_apply 55 = .ok (.aload_n 0, 1) := by decide +kernel
theorem dX12_apply_56 : decode cX12_apply 56 = .ok (.getfield 37, 3) := by decide +kernel
theorem dX12_apply_59 : decode cX12_apply 59 = .ok (.iload_n 3, 1) := by decide +kernel
theorem dX12_apply_60 : decode cX12_apply 60 = .ok (.iconst 0, 1) := by decide +kernel
theorem dX12_apply_61 : decode cX12_apply 61 = .ok (.iastore, 1) := by decide +kernel
theorem dX12_apply_62 : decode cX12_apply 62 = .ok (.aload_n 0, 1) := by decide +kernel
theorem dX12_apply_63 : decode cX12_apply 63 = .ok (.getfield 56, 3) := by decide +kernel
theorem dX12_apply_66 : decode cX12_apply 66 = .ok (.iload_n 1, 1) := by decide +kernel
theorem dX12_apply_67 : decode cX12_apply 67 = .ok (.iaload, 1) := by decide +kernel
theorem dX12_apply_68 : decode cX12_apply 68 = .ok (.ifCond .eq 13, 3) := by decide +kernel
theorem dX12_apply_71 : decode cX12_apply 71 = .ok (.aload_n 0, 1) := by decide +kernel
theorem dX12_apply_72 : decode cX12_apply 72 = .ok (.getfield 56, 3) := by decide +kernel
theorem dX12_apply_75 : decode cX12_apply 75 = .ok (.iload_n 1, 1) := by decide +kernel
theorem dX12_apply_76 : decode cX12_apply 76 = .ok (.iaload, 1) := by decide +kernel
theorem dX12_apply_77 : decode cX12_apply 77 = .ok (.iconst 4, 1) := by decide +kernel
theorem dX12_apply_78 : decode cX12_apply 78 = .ok (.if_icmp .ne 67, 3) := by decide +kernel
theorem dX12_apply_81 : decode cX12_apply 81 = .ok (.aload_n 0, 1) := by decide +kernel
theorem dX12_apply_82 : decode cX12_apply 82 = .ok (.getfield 17, 3) := by decide +kernel
theorem dX12_apply_85 : decode cX12_apply 85 = .ok (.iload_n 3, 1) := by decide +kernel
theorem dX12_apply_86 : decode cX12_apply 86 = .ok (.aload_n 0, 1) := by decide +kernel
theorem dX12_apply_87 : decode cX12_apply 87 = .ok (.getfield 62, 3) := by decide +kernel
theorem dX12_apply_90 : decode cX12_apply 90 = .ok (.iload_n 1, 1) := by decide +kernel
theorem dX12_apply_91 : decode cX12_apply 91 = .ok (.iaload, 1) := by decide +kernel
theorem dX12_apply_92 : decode cX12_apply 92 = .ok (.iastore, 1) := by decide +kernel
theorem dX12_apply_93 : decode cX12_apply 93 = .ok (.aload_n 0, 1) := by decide +kernel
theorem dX12_apply_94 : decode cX12_apply 94 = .ok (.getfield 27, 3) := by decide +kernel
theorem dX12_apply_97 : decode cX12_apply 97 = .ok (.iload_n 3, 1) := by decide +kernel
theorem dX12_apply_98 : decode cX12_apply 98 = .ok (.aload_n 0, 1) := by decide +kernel
theorem dX12_apply_99 : decode cX12_apply 99 = .ok (.getfield 71, 3) := by decide +kernel
theorem dX12_apply_102 : decode cX12_apply 102 = .ok (.iload_n 1, 1) := by decide +kernel
theorem dX12_apply_103 : decode cX12_apply 103 = .ok (.iaload, 1) := by decide +kernel
theorem dX12_apply_104 : decode cX12_apply 104 = .ok (.iastore, 1) := by decide +kernel
theorem dX12_apply_105 : decode cX12_apply 105 = .ok (.iconst 0, 1) := by decide +kernel
theorem dX12_apply_106 : decode cX12_apply 106 = .ok (.istore 4, 2) := by decide +kernel
theorem dX12_apply_108 : decode cX12_apply 108 = .ok (.iload 4, 2) := by decide +kernel
theorem dX12_apply_110 : decode cX12_apply 110 = .ok (.bipush 12, 2) := by decide +kernel
theorem dX12_apply_112 : decode cX12_apply 112 = .ok (.if_icmp .ge 33, 3) := by decide +kernel
theorem dX12_apply_115 : decode cX12_apply 115 = .ok (.aload_n 0, 1) := by decide +kernel
theorem dX12_apply_116 : decode cX12_apply 116 = .ok (.getfield 24, 3) := by decide +kernel
theorem dX12_apply_119 : decode cX12_apply 119 = .ok (.bipush 12, 2) := by decide +kernel
theorem dX12_apply_121 : decode cX12_apply 121 = .ok (.iload_n 3, 1) := by decide +kernel
theorem dX12_apply_122 : decode cX12_apply 122 = .ok (.imul, 1) := by decide +kernel
theorem dX12_apply_123 : decode cX12_apply 123 = .ok (.iload 4, 2) := by decide +kernel
theorem dX12_apply_125 : decode cX12_apply 125 = .ok (.iadd, 1) := by decide +kernel
theorem dX12_apply_126 : decode cX12_apply 126 = .ok (.aload_n 0, 1) := by decide +kernel
theorem dX12_apply_127 : decode cX12_apply 127 = .ok (.getfield 68, 3) := by decide +kernel
theorem dX12_apply_130 : decode cX12_apply 130 = .ok (.bipush 12, 2) := by decide +kernel
theorem dX12_apply_132 : decode cX12_apply 132 = .ok (.iload_n 1, 1) := by decide +kernel
theorem dX12_apply_133 : decode cX12_apply 133 = .ok (.imul, 1) := by decide +kernel
theorem dX12_apply_134 : decode cX12_apply 134 = .ok (.iload 4, 2) := by decide +kernel
theorem dX12_apply_136 : decode cX12_apply 136 = .ok (.iadd, 1) := by decide +kernel
theorem dX12_apply_137 : decode cX12_apply 137 = .ok (.baload, 1) := by decide +kernel
theorem dX12_apply_138 : decode cX12_apply 138 = .ok (.bastore, 1) := by decide +kernel
theorem dX12_apply_139 : decode cX12_apply 139 = .ok (.iinc 4 1, 3) := by decide +kernel
theorem dX12_apply_142 : decode cX12_apply 142 = .ok (.goto (-34), 3) := by decide +kernel
theorem dX12_apply_145 : decode cX12_apply 145 = .ok (.aload_n 0, 1) := by decide +kernel
theorem dX12_apply_146 : decode cX12_apply 146 = .ok (.getfield 56, 3) := by decide +kernel
theorem dX12_apply_149 : decode cX12_apply 149 = .ok (.iload_n 1, 1) := by decide +kernel
theorem dX12_apply_150 : decode cX12_apply 150 = .ok (.iaload, 1) := by decide +kernel
theorem dX12_apply_151 : decode cX12_apply 151 = .ok (.ifCond .eq 13, 3) := by decide +kernel
theorem dX12_apply_154 : decode cX12_apply 154 = .ok (.aload_n 0, 1) := by decide +kernel
theorem dX12_apply_155 : decode cX12_apply 155 = .ok (.getfield 56, 3) := by decide +kernel
theorem dX12_apply_158 : decode cX12_apply 158 = .ok (.iload_n 1, 1) := by decide +kernel
theorem dX12_apply_159 : decode cX12_apply 159 = .ok (.iaload, 1) := by decide +kernel
theorem dX12_apply_160 : decode cX12_apply 160 = .ok (.iconst 3, 1) := by decide +kernel
theorem dX12_apply_161 : decode cX12_apply 161 = .ok (.if_icmp .ne 15, 3) := by decide +kernel
theorem dX12_apply_164 : decode cX12_apply 164 = .ok (.aload_n 0, 1) := by decide +kernel
theorem dX12_apply_165 : decode cX12_apply 165 = .ok (.getfield 30, 3) := by decide +kernel
theorem dX12_apply_168 : decode cX12_apply 168 = .ok (.iload_n 3, 1) := by decide +kernel
theorem dX12_apply_169 : decode cX12_apply 169 = .ok (.aload_n 0, 1) := by decide +kernel
theorem dX12_apply_170 : decode cX12_apply 170 = .ok (.getfield 74, 3) := by decide +kernel
theorem dX12_apply_173 : decode cX12_apply 173 = .ok (.iload_n 1, 1) := by decide +kernel
theorem dX12_apply_174 : decode cX12_apply 174 = .ok (.iaload, 1) := by decide +kernel
theorem dX12_apply_175 : decode cX12_apply 175 = .ok (.iastore, 1) := by decide +kernel
theorem dX12_apply_176 : decode cX12_apply 176 = .ok (.aload_n 0, 1) := by decide +kernel
theorem dX12_apply_177 : decode cX12_apply 177 = .ok (.getfield 56, 3) := by decide +kernel
theorem dX12_apply_180 : decode cX12_apply 180 = .ok (.iload_n 1, 1) := by decide +kernel
theorem dX12_apply_181 : decode cX12_apply 181 = .ok (.iaload, 1) := by decide +kernel
theorem dX12_apply_182 : decode cX12_apply 182 = .ok (.iconst 1, 1) := by decide +kernel
theorem dX12_apply_183 : decode cX12_apply 183 = .ok (.if_icmp .ne 116, 3) := by decide +kernel
theorem dX12_apply_186 : decode cX12_apply 186 = .ok (.aload_n 0, 1) := by decide +kernel
theorem dX12_apply_187 : decode cX12_apply 187 = .ok (.iload_n 3, 1) := by decide +kernel
theorem dX12_apply_188 : decode cX12_apply 188 = .ok (.aload_n 0, 1) := by decide +kernel
theorem dX12_apply_189 : decode cX12_apply 189 = .ok (.getfield 37, 3) := by decide +kernel
theorem dX12_apply_192 : decode cX12_apply 192 = .ok (.iload_n 3, 1) := by decide +kernel
theorem dX12_apply_193 : decode cX12_apply 193 = .ok (.iaload, 1) := by decide +kernel
theorem dX12_apply_194 : decode cX12_apply 194 = .ok (.aload_n 0, 1) := by decide +kernel
theorem dX12_apply_195 : decode cX12_apply 195 = .ok (.getfield 80, 3) := by decide +kernel
theorem dX12_apply_198 : decode cX12_apply 198 = .ok (.iload_n 1, 1) := by decide +kernel
theorem dX12_apply_199 : decode cX12_apply 199 = .ok (.iaload, 1) := by decide +kernel
theorem dX12_apply_200 : decode cX12_apply 200 = .ok (.invokevirtual 285, 3) := by decide +kernel
theorem dX12_apply_203 : decode cX12_apply 203 = .ok (.iconst 0, 1) := by decide +kernel
theorem dX12_apply_204 : decode cX12_apply 204 = .ok (.istore 4, 2) := by decide +kernel
theorem dX12_apply_206 : decode cX12_apply 206 = .ok (.iload 4, 2) := by decide +kernel
theorem dX12_apply_208 : decode cX12_apply 208 = .ok (.aload_n 0, 1) := by decide +kernel
theorem dX12_apply_209 : decode cX12_apply 209 = .ok (.getfield 83, 3) := by decide +kernel
theorem dX12_apply_212 : decode cX12_apply 212 = .ok (.iload_n 1, 1) := by decide +kernel
theorem dX12_apply_213 : decode cX12_apply 213 = .ok (.iaload, 1) := by decide +kernel
theorem dX12_apply_214 : decode cX12_apply 214 = .ok (.if_icmp .ge 42, 3) := by decide +kernel
theorem dX12_apply_217 : decode cX12_apply 217 = .ok (.aload_n 0, 1) := by decide +kernel
theorem dX12_apply_218 : decode cX12_apply 218 = .ok (.getfield 41, 3) := by decide +kernel
theorem dX12_apply_221 : decode cX12_apply 221 = .ok (.sipush 4096, 3) := by decide +kernel
theorem dX12_apply_224 : decode cX12_apply 224 = .ok (.iload_n 3, 1) := by decide +kernel
theorem dX12_apply_225 : decode cX12_apply 225 = .ok (.imul, 1) := by decide +kernel
theorem dX12_apply_226 : decode cX12_apply 226 = .ok (.aload_n 0, 1) := by decide +kernel
theorem dX12_apply_227 : decode cX12_apply 227 = .ok (.getfield 80, 3) := by decide +kernel
theorem dX12_apply_230 : decode cX12_apply 230 = .ok (.iload_n 1, 1) := by decide +kernel
theorem dX12_apply_231 : decode cX12_apply 231 = .ok (.iaload, 1) := by decide +kernel
theorem dX12_apply_232 : decode cX12_apply 232 = .ok (.iadd, 1) := by decide +kernel
theorem dX12_apply_233 : decode cX12_apply 233 = .ok (.iload 4, 2) := by decide +kernel
theorem dX12_apply_235 : decode cX12_apply 235 = .ok (.iadd, 1) := by decide +kernel
theorem dX12_apply_236 : decode cX12_apply 236 = .ok (.aload_n 0, 1) := by decide +kernel
theorem dX12_apply_237 : decode cX12_apply 237 = .ok (.getfield 86, 3) := by decide +kernel
theorem dX12_apply_240 : decode cX12_apply 240 = .ok (.sipush 1024, 3) := by decide +kernel
theorem dX12_apply_243 : decode cX12_apply 243 = .ok (.iload_n 1, 1) := by decide +kernel
theorem dX12_apply_244 : decode cX12_apply 244 = .ok (.imul, 1) := by decide +kernel
theorem dX12_apply_245 : decode cX12_apply 245 = .ok (.iload 4, 2) := by decide +kernel
theorem dX12_apply_247 : decode cX12_apply 247 = .ok (.iadd, 1) := by decide +kernel
theorem dX12_apply_248 : decode cX12_apply 248 = .ok (.baload, 1) := by decide +kernel
theorem dX12_apply_249 : decode cX12_apply 249 = .ok (.bastore, 1) := by decide +kernel
theorem dX12_apply_250 : decode cX12_apply 250 = .ok (.iinc 4 1, 3) := by decide +kernel
theorem dX12_apply_253 : decode cX12_apply 253 = .ok (.goto (-47), 3) := by decide +kernel
theorem dX12_apply_256 : decode cX12_apply 256 = .ok (.aload_n 0, 1) := by decide +kernel
theorem dX12_apply_257 : decode cX12_apply 257 = .ok (.getfield 80, 3) := by decide +kernel
theorem dX12_apply_260 : decode cX12_apply 260 = .ok (.iload_n 1, 1) := by decide +kernel
theorem dX12_apply_261 : decode cX12_apply 261 = .ok (.iaload, 1) := by decide +kernel
theorem dX12_apply_262 : decode cX12_apply 262 = .ok (.aload_n 0, 1) := by decide +kernel
theorem dX12_apply_263 : decode cX12_apply 263 = .ok (.getfield 83, 3) := by decide +kernel
theorem dX12_apply_266 : decode cX12_apply 266 = .ok (.iload_n 1, 1) := by decide +kernel
theorem dX12_apply_267 : decode cX12_apply 267 = .ok (.iaload, 1) := by decide +kernel
theorem dX12_apply_268 : decode cX12_apply 268 = .ok (.iadd, 1) := by decide +kernel
theorem dX12_apply_269 : decode cX12_apply 269 = .ok (.istore 4, 2) := by decide +kernel
theorem dX12_apply_271 : decode cX12_apply 271 = .ok (.aload_n 0, 1) := by decide +kernel
theorem dX12_apply_272 : decode cX12_apply 272 = .ok (.getfield 37, 3) := by decide +kernel
theorem dX12_apply_275 : decode cX12_apply 275 = .ok (.iload_n 3, 1) := by decide +kernel
theorem dX12_apply_276 : decode cX12_apply 276 = .ok (.aload_n 0, 1) := by decide +kernel
theorem dX12_apply_277 : decode cX12_apply 277 = .ok (.getfield 37, 3) := by decide +kernel
theorem dX12_apply_280 : decode cX12_apply 280 = .ok (.iload_n 3, 1) := by decide +kernel
theorem dX12_apply_281 : decode cX12_apply 281 = .ok (.iaload, 1) := by decide +kernel
theorem dX12_apply_282 : decode cX12_apply 282 = .ok (.iload 4, 2) := by decide +kernel
theorem dX12_apply_284 : decode cX12_apply 284 = .ok (.if_icmp .ge 8, 3) := by decide +kernel
theorem dX12_apply_287 : decode cX12_apply 287 = .ok (.iload 4, 2) := by decide +kernel
theorem dX12_apply_289 : decode cX12_apply 289 = .ok (.goto 9, 3) := by decide +kernel
theorem dX12_apply_292 : decode cX12_apply 292 = .ok (.aload_n 0, 1) := by decide +kernel
theorem dX12_apply_293 : decode cX12_apply 293 = .ok (.getfield 37, 3) := by decide +kernel
theorem dX12_apply_296 : decode cX12_apply 296 = .ok (.iload_n 3, 1) := by decide +kernel
theorem dX12_apply_297 : decode cX12_apply 297 = .ok (.iaload, 1) := by decide +kernel
theorem dX12_apply_298 : decode cX12_apply 298 = .ok (.iastore, 1) := by decide +kernel
theorem dX12_apply_299 : decode cX12_apply 299 = .ok (.aload_n 0, 1) := by decide +kernel
theorem dX12_apply_300 : decode cX12_apply 300 = .ok (.getfield 56, 3) := by decide +kernel
theorem dX12_apply_303 : decode cX12_apply 303 = .ok (.iload_n 1, 1) := by decide +kernel
theorem dX12_apply_304 : decode cX12_apply 304 = .ok (.iaload, 1) := by decide +kernel
theorem dX12_apply_305 : decode cX12_apply 305 = .ok (.iconst 2, 1) := by decide +kernel
theorem dX12_apply_306 : decode cX12_apply 306 = .ok (.if_icmp .ne 32, 3) := by decide +kernel
theorem dX12_apply_309 : decode cX12_apply 309 = .ok (.aload_n 0, 1) := by decide +kernel
theorem dX12_apply_310 : decode cX12_apply 310 = .ok (.iload_n 3, 1) := by decide +kernel
theorem dX12_apply_311 : decode cX12_apply 311 = .ok (.aload_n 0, 1) := by decide +kernel
theorem dX12_apply_312 : decode cX12_apply 312 = .ok (.getfield 37, 3) := by decide +kernel
theorem dX12_apply_315 : decode cX12_apply 315 = .ok (.iload_n 3, 1) := by decide +kernel
theorem dX12_apply_316 : decode cX12_apply 316 = .ok (.iaload, 1) := by decide +kernel
theorem dX12_apply_317 : decode cX12_apply 317 = .ok (.aload_n 0, 1) := by decide +kernel
theorem dX12_apply_318 : decode cX12_apply 318 = .ok (.getfield 80, 3) := by decide +kernel
theorem dX12_apply_321 : decode cX12_apply 321 = .ok (.iload_n 1, 1) := by decide +kernel
theorem dX12_apply_322 : decode cX12_apply 322 = .ok (.iaload, 1) := by decide +kernel
theorem dX12_apply_323 : decode cX12_apply 323 = .ok (.invokevirtual 285, 3) := by decide +kernel
theorem dX12_apply_326 : decode cX12_apply 326 = .ok (.aload_n 0, 1) := by decide +kernel
theorem dX12_apply_327 : decode cX12_apply 327 = .ok (.getfield 37, 3) := by decide +kernel
theorem dX12_apply_330 : decode cX12_apply 330 = .ok (.iload_n 3, 1) := by decide +kernel
theorem dX12_apply_331 : decode cX12_apply 331 = .ok (.aload_n 0, 1) := by decide +kernel
theorem dX12_apply_332 : decode cX12_apply 332 = .ok (.getfield 80, 3) := by decide +kernel
theorem dX12_apply_335 : decode cX12_apply 335 = .ok (.iload_n 1, 1) := by decide +kernel
theorem dX12_apply_336 : decode cX12_apply 336 = .ok (.iaload, 1) := by decide +kernel
theorem dX12_apply_337 : decode cX12_apply 337 = .ok (.iastore, 1) := by decide +kernel
theorem dX12_apply_338 : decode cX12_apply 338 = .ok (.iconst 0, 1) := by decide +kernel
theorem dX12_apply_339 : decode cX12_apply 339 = .ok (.istore 4, 2) := by decide +kernel
theorem dX12_apply_341 : decode cX12_apply 341 = .ok (.iload 4, 2) := by decide +kernel
theorem dX12_apply_343 : decode cX12_apply 343 = .ok (.iconst 4, 1) := by decide +kernel
theorem dX12_apply_344 : decode cX12_apply 344 = .ok (.if_icmp .ge 31, 3) := by decide +kernel
theorem dX12_apply_347 : decode cX12_apply 347 = .ok (.aload_n 0, 1) := by decide +kernel
theorem dX12_apply_348 : decode cX12_apply 348 = .ok (.getfield 33, 3) := by decide +kernel
theorem dX12_apply_351 : decode cX12_apply 351 = .ok (.iconst 4, 1) := by decide +kernel
theorem dX12_apply_352 : decode cX12_apply 352 = .ok (.iload_n 3, 1) := by decide +kernel
theorem dX12_apply_353 : decode cX12_apply 353 = .ok (.imul, 1) := by decide +kernel
theorem dX12_apply_354 : decode cX12_apply 354 = .ok (.iload 4, 2) := by decide +kernel
theorem dX12_apply_356 : decode cX12_apply 356 = .ok (.iadd, 1) := by decide +kernel
theorem dX12_apply_357 : decode cX12_apply 357 = .ok (.aload_n 0, 1) := by decide +kernel
theorem dX12_apply_358 : decode cX12_apply 358 = .ok (.getfield 77, 3) := by decide +kernel
theorem dX12_apply_361 : decode cX12_apply 361 = .ok (.iconst 4, 1) := by decide +kernel
theorem dX12_apply_362 : decode cX12_apply 362 = .ok (.iload_n 1, 1) := by decide +kernel
theorem dX12_apply_363 : decode cX12_apply 363 = .ok (.imul, 1) := by decide +kernel
theorem dX12_apply_364 : decode cX12_apply 364 = .ok (.iload 4, 2) := by decide +kernel
theorem dX12_apply_366 : decode cX12_apply 366 = .ok (.iadd, 1) := by decide +kernel
theorem dX12_apply_367 : decode cX12_apply 367 = .ok (.laload, 1) := by decide +kernel
theorem dX12_apply_368 : decode cX12_apply 368 = .ok (.lastore, 1) := by decide +kernel
theorem dX12_apply_369 : decode cX12_apply 369 = .ok (.iinc 4 1, 3) := by decide +kernel
theorem dX12_apply_372 : decode cX12_apply 372 = .ok (.goto (-31), 3) := by decide +kernel
theorem dX12_apply_375 : decode cX12_apply 375 = .ok (.return_, 1) := by decide +kernel
set_option maxRecDepth 100000 in
set_option maxHeartbeats 4000000 in
theorem c_X12_apply (l : Launch) (D : va_G) (t : Nat → ClassId) (h0 : Nat) (L : Nat → Nat) (σ : HS) (hO : OK ph τ0 σ) (hM : MdI h0 L σ) (q v : Int32) (hz : 0 ≤ q.toInt ∧ q.toInt ≤ 8 ∧ (v.toInt = 0 ∨ v.toInt = 80)) (hy : (sI σ (L 22) q.toInt.toNat).toInt + (sI σ (L 23) q.toInt.toNat).toInt ≤ 4096) (sz : Nat) : HMv ph τ0 l D t yX12_apply cX12_apply 5 ({ frames := 1, cells := 0, slots := 0, locals := 40 }) σ sz [.ref h0, .int q, .int v] 0 0 (fun σ' => MdI h0 L σ' ∧ Fr h0 L [] [1, 2, 3, 4, 5, 6, 7, 8, 9] σ σ' ∧ (True)) := by
  refine h_go hO (by decide) (Nat.le_of_ble_eq_true rfl) ?_
  intro p e s m below meth c ls A hF hr hlk hAe hH0 hA hl
  unfold hB
  rw [hAe]
  clear hAe
  have hF : FX p m c cX12_apply 5 s _ RX12 D t := hF
  have hx := hF.1.1
  have hb := hF.1.2.1
  have hH : MT D t A s.heap h0 L σ s.heap [] := ⟨hH0, hM⟩
  have hle : HLe σ σ := HLe.rf
  have hfr : Fr h0 L [] [1, 2, 3, 4, 5, 6, 7, 8, 9] σ σ := Fr.rf
  have k_0 : (0 : Int32).toInt = 0 := rfl
  have k_1 : (1 : Int32).toInt = 1 := rfl
  have k_2 : (2 : Int32).toInt = 2 := rfl
  have k_3 : (3 : Int32).toInt = 3 := rfl
  have k_4 : (4 : Int32).toInt = 4 := rfl
  have k_5 : (5 : Int32).toInt = 5 := rfl
  have k_12 : (12 : Int32).toInt = 12 := rfl
  have k_1024 : (1024 : Int32).toInt = 1024 := rfl
  have k_4096 : (4096 : Int32).toInt = 4096 := rfl
  have rg_1 := i_range q
  have rg_2 := i_range v
  have hl : lv_has ls 5 [(0, .ref h0), (1, .int q), (2, .int v)] := hl
  refine lv_iload_n hx hb dX12_apply_0 rfl (lv_at hl 2 rfl) ?_
  refine lv_aload_n hx hb dX12_apply_1 rfl (lv_at hl 0 rfl) ?_
  refine m_getA 15 hF hH fk_X12_59 dX12_apply_2 (by decide) rfl ?_
  refine lv_iload_n hx hb dX12_apply_5 rfl (lv_at hl 1 rfl) ?_
  refine m_iald 15 9 hF hH dX12_apply_6 (by decide) rfl rfl 0 79 rfl rfl (by omega) (by omega) (fun z613 ez613 vz613 => ?_)
  have wz613 := i_eq ez613
  refine lv_iadd hx hb dX12_apply_7 ?_
  refine lv_topi (fun z614 ez614 => ?_)
  try have hz614 := i_add ez614 (by omega) (by omega)
  refine lv_istore_n (lv' := [(3, .int z614), (0, .ref h0), (1, .int q), (2, .int v)]) hx hb dX12_apply_8 rfl hl (by decide) rfl (fun ls hl => ?_)
  refine lv_aload_n hx hb dX12_apply_9 rfl (lv_at hl 1 rfl) ?_
  refine m_getA 14 hF hH fk_X12_56 dX12_apply_10 (by decide) rfl ?_
  refine lv_iload_n hx hb dX12_apply_13 rfl (lv_at hl 2 rfl) ?_
  refine m_iald 14 9 hF hH dX12_apply_14 (by decide) rfl rfl 0 5 rfl rfl (by omega) (by omega) (fun z615 ez615 vz615 => ?_)
  have wz615 := i_eq ez615
  refine lv_iconst (v := 5) hx hb dX12_apply_15 (by decide) ?_
  refine lv_icmp_ne (tgt := 27) hx hb dX12_apply_16 rfl (fun h616 => ?_) (fun h616 => ?_)
  · have ch616 := i_ne h616
    have hn3 : 0 ≤ z614.toInt ∧ z614.toInt < 160 := by omega
    refine m_join (β := Unit) 62 (L0 := fun x => [(3, .int z614), (2, .int v), (1, .int q), (0, .ref h0)]) (I := fun x σ2 => HLe σ σ2 ∧ Fr h0 L [] [1, 2, 3, 4, 5, 6, 7, 8, 9] σ σ2 ∧ (True)) hl hH (fun x σJ619 ls H locs hl hI hH => ?_) (fun jn618 => ?_)
    · obtain ⟨hle, hfr, hI⟩ := hI
      have hl : lv_has ls 5 [(3, .int z614), (2, .int v), (1, .int q), (0, .ref h0)] := hl
      have hI : True := hI
      refine m_join (β := Unit) 145 (L0 := fun x => [(3, .int z614), (2, .int v), (1, .int q), (0, .ref h0)]) (I := fun x σ2 => HLe σ σ2 ∧ Fr h0 L [] [1, 2, 3, 4, 5, 6, 7, 8, 9] σ σ2 ∧ (True)) hl hH (fun x σJ627 ls H locs hl hI hH => ?_) (fun jn626 => ?_)
      · obtain ⟨hle, hfr, hI⟩ := hI
        have hl : lv_has ls 5 [(3, .int z614), (2, .int v), (1, .int q), (0, .ref h0)] := hl
        have hI : True := hI
        refine m_join (β := Unit) 176 (L0 := fun x => [(3, .int z614), (2, .int v), (1, .int q), (0, .ref h0)]) (I := fun x σ2 => HLe σ σ2 ∧ Fr h0 L [] [1, 2, 3, 4, 5, 6, 7, 8, 9] σ σ2 ∧ (True)) hl hH (fun x σJ659 ls H locs hl hI hH => ?_) (fun jn658 => ?_)
        · obtain ⟨hle, hfr, hI⟩ := hI
          have hl : lv_has ls 5 [(3, .int z614), (2, .int v), (1, .int q), (0, .ref h0)] := hl
          have hI : True := hI
          refine m_join (β := Unit) 299 (L0 := fun x => [(3, .int z614), (2, .int v), (1, .int q), (0, .ref h0)]) (I := fun x σ2 => HLe σ σ2 ∧ Fr h0 L [] [1, 2, 3, 4, 5, 6, 7, 8, 9] σ σ2 ∧ (True)) hl hH (fun x σJ669 ls H locs hl hI hH => ?_) (fun jn668 => ?_)
          · obtain ⟨hle, hfr, hI⟩ := hI
            have hl : lv_has ls 5 [(3, .int z614), (2, .int v), (1, .int q), (0, .ref h0)] := hl
            have hI : True := hI
            refine m_join (β := Unit) 338 (L0 := fun x => [(3, .int z614), (2, .int v), (1, .int q), (0, .ref h0)]) (I := fun x σ2 => HLe σ σ2 ∧ Fr h0 L [] [1, 2, 3, 4, 5, 6, 7, 8, 9] σ σ2 ∧ (True)) hl hH (fun x σJ697 ls H locs hl hI hH => ?_) (fun jn696 => ?_)
            · obtain ⟨hle, hfr, hI⟩ := hI
              have hl : lv_has ls 5 [(3, .int z614), (2, .int v), (1, .int q), (0, .ref h0)] := hl
              have hI : True := hI
              refine lv_iconst (v := 0) hx hb dX12_apply_338 (by decide) ?_
              refine lv_istore (lv' := [(4, .int 0), (3, .int z614), (2, .int v), (1, .int q), (0, .ref h0)]) hx hb dX12_apply_339 hl (by decide) rfl (fun ls hl => ?_)
              have hl : lv_has ls 5 [(4, .int 0), (3, .int z614), (2, .int v), (1, .int q), (0, .ref h0)] := lv_sub hl [0, 1, 2, 3, 4] rfl
              refine m_loop (β := Int32) (L0 := fun x => [(4, .int x), (3, .int z614), (2, .int v), (1, .int q), (0, .ref h0)]) (I := fun x σ2 => HLe σ σ2 ∧ Fr h0 L [] [1, 2, 3, 4, 5, 6, 7, 8, 9] σ σ2 ∧ (0 ≤ x.toInt ∧ x.toInt ≤ 4)) (fun x σ2 => (4 - x.toInt).toNat) (0) hl ⟨hle, hfr, by (try dsimp only); omega⟩ hH (fun x σL ls H locs hl hI hH ih => ?_)
              obtain ⟨x706, hx1⟩ : ∃ y, y = x := ⟨_, rfl⟩
              subst hx1
              obtain ⟨hle, hfr, hI⟩ := hI
              have hl : lv_has ls 5 [(4, .int x706), (3, .int z614), (2, .int v), (1, .int q), (0, .ref h0)] := hl
              have hI : 0 ≤ x706.toInt ∧ x706.toInt ≤ 4 := hI
              have rg_x706 := i_range x706
              refine lv_iload hx hb dX12_apply_341 (lv_at hl 0 rfl) ?_
              refine lv_iconst (v := 4) hx hb dX12_apply_343 (by decide) ?_
              refine lv_icmp_ge (tgt := 375) hx hb dX12_apply_344 rfl (fun h707 => ?_) (fun h707 => ?_)
              · have ch707 := i_le h707
                exact h_retv hF hr hlk dX12_apply_375 hH.1 hle ⟨hH.2, hfr, trivial⟩
              · have ch707 := i_nle h707
                refine lv_aload_n hx hb dX12_apply_347 rfl (lv_at hl 4 rfl) ?_
                refine m_getA 7 hF hH fk_X12_33 dX12_apply_348 (by decide) rfl ?_
                refine lv_iconst (v := 4) hx hb dX12_apply_351 (by decide) ?_
                refine lv_iload_n hx hb dX12_apply_352 rfl (lv_at hl 1 rfl) ?_
                refine lv_imul hx hb dX12_apply_353 ?_
                refine lv_topi (fun z708 ez708 => ?_)
                try have hz708 := i_mulk 4 rfl ez708 (by omega) (by omega)
                refine lv_iload hx hb dX12_apply_354 (lv_at hl 0 rfl) ?_
                refine lv_iadd hx hb dX12_apply_356 ?_
                refine lv_topi (fun z709 ez709 => ?_)
                try have hz709 := i_add ez709 (by omega) (by omega)
                refine lv_aload_n hx hb dX12_apply_357 rfl (lv_at hl 4 rfl) ?_
                refine m_getA 21 hF hH fk_X12_77 dX12_apply_358 (by decide) rfl ?_
                refine lv_iconst (v := 4) hx hb dX12_apply_361 (by decide) ?_
                refine lv_iload_n hx hb dX12_apply_362 rfl (lv_at hl 3 rfl) ?_
                refine lv_imul hx hb dX12_apply_363 ?_
                refine lv_topi (fun z710 ez710 => ?_)
                try have hz710 := i_mulk 4 rfl ez710 (by omega) (by omega)
                refine lv_iload hx hb dX12_apply_364 (lv_at hl 0 rfl) ?_
                refine lv_iadd hx hb dX12_apply_366 ?_
                refine lv_topi (fun z711 ez711 => ?_)
                try have hz711 := i_add ez711 (by omega) (by omega)
                refine m_lald 21 36 hF hH dX12_apply_367 (by decide) rfl rfl (by omega) (by omega) (fun z712 ez712 => ?_)
                have hMp := hH.2
                refine m_last 7 640 hF hH dX12_apply_368 (by decide) rfl rfl (by omega) (by omega) (fun σ713 H locs eσ713 hH => ?_)
                have hle := hle.tr (show HLe σL σ713 by rw [eσ713]; exact HLe.uJ)
                have hfr := hfr.aJ hMp (by decide) eσ713 (by decide)
                obtain ⟨z714, ez714⟩ : ∃ z : Int32, z = x706 + Int32.ofInt 1 := ⟨_, rfl⟩
                have hz714 := i_add ez714 (by rw [show (Int32.ofInt 1).toInt = 1 from rfl]; omega) (by rw [show (Int32.ofInt 1).toInt = 1 from rfl]; omega)
                rw [show (Int32.ofInt 1).toInt = 1 from rfl] at hz714
                refine lv_iinc (lv' := [(4, .int z714), (3, .int z614), (2, .int v), (1, .int q), (0, .ref h0)]) (k := 0) (v := z714) hx hb dX12_apply_369 hl rfl ez714.symm (by decide) rfl (fun ls hl => ?_)
                refine lv_goto (tgt := 341) hx hb dX12_apply_372 rfl ?_
                have hl : lv_has ls 5 [(4, .int z714), (3, .int z614), (2, .int v), (1, .int q), (0, .ref h0)] := lv_sub hl [0, 1, 2, 3, 4] rfl
                exact ih (z714) σ713 ls H locs (by (try dsimp only); omega) hl ⟨hle, hfr, by (try dsimp only); omega⟩ hH
            · skip
              refine lv_aload_n hx hb dX12_apply_299 rfl (lv_at hl 3 rfl) ?_
              refine m_getA 14 hF hH fk_X12_56 dX12_apply_300 (by decide) rfl ?_
              refine lv_iload_n hx hb dX12_apply_303 rfl (lv_at hl 2 rfl) ?_
              refine m_iald 14 9 hF hH dX12_apply_304 (by decide) rfl rfl 0 5 rfl rfl (by omega) (by omega) (fun z698 ez698 vz698 => ?_)
              have wz698 := i_eq ez698
              refine lv_iconst (v := 2) hx hb dX12_apply_305 (by decide) ?_
              refine lv_icmp_ne (tgt := 338) hx hb dX12_apply_306 rfl (fun h699 => ?_) (fun h699 => ?_)
              · have ch699 := i_ne h699
                have hl : lv_has ls 5 [(3, .int z614), (2, .int v), (1, .int q), (0, .ref h0)] := lv_sub hl [0, 1, 2, 3] rfl
                exact jn696 () σJ669 ls _ _ hl ⟨hle, hfr, trivial⟩ hH
              · have ch699 := i_eq h699
                refine lv_aload_n hx hb dX12_apply_309 rfl (lv_at hl 3 rfl) ?_
                refine lv_iload_n hx hb dX12_apply_310 rfl (lv_at hl 0 rfl) ?_
                refine lv_aload_n hx hb dX12_apply_311 rfl (lv_at hl 3 rfl) ?_
                refine m_getA 8 hF hH fk_X12_37 dX12_apply_312 (by decide) rfl ?_
                refine lv_iload_n hx hb dX12_apply_315 rfl (lv_at hl 0 rfl) ?_
                refine m_iald 8 160 hF hH dX12_apply_316 (by decide) rfl rfl 0 4096 rfl rfl (by omega) (by omega) (fun z700 ez700 vz700 => ?_)
                have wz700 := i_eq ez700
                refine lv_aload_n hx hb dX12_apply_317 rfl (lv_at hl 3 rfl) ?_
                refine m_getA 22 hF hH fk_X12_80 dX12_apply_318 (by decide) rfl ?_
                refine lv_iload_n hx hb dX12_apply_321 rfl (lv_at hl 2 rfl) ?_
                refine m_iald 22 9 hF hH dX12_apply_322 (by decide) rfl rfl 0 4096 rfl rfl (by omega) (by omega) (fun z701 ez701 vz701 => ?_)
                have wz701 := i_eq ez701
                refine m_cVv (As := [.int z614, .int z700, .int z701]) (rest := []) hF hH hA mv_X12_285 (fun sz => c_X12_zero l D t h0 L _ hH.1.2.2.2 hH.2 z614 z700 z701 (by omega) sz) dX12_apply_323 rfl rfl (by decide) rfl hl.1 (Nat.le_of_ble_eq_true rfl) (by decide) rfl (fun σ703 H locs lσ703 pz702 hH => ?_)
                obtain ⟨fz702, pz702⟩ := pz702
                have hle := hle.tr lσ703
                have hfr := hfr.tr fz702 (by decide) (by decide)
                refine lv_aload_n hx hb dX12_apply_326 rfl (lv_at hl 3 rfl) ?_
                refine m_getA 8 hF hH fk_X12_37 dX12_apply_327 (by decide) rfl ?_
                refine lv_iload_n hx hb dX12_apply_330 rfl (lv_at hl 0 rfl) ?_
                refine lv_aload_n hx hb dX12_apply_331 rfl (lv_at hl 3 rfl) ?_
                refine m_getA 22 hF hH fk_X12_80 dX12_apply_332 (by decide) rfl ?_
                refine lv_iload_n hx hb dX12_apply_335 rfl (lv_at hl 2 rfl) ?_
                refine m_iald 22 9 hF hH dX12_apply_336 (by decide) rfl rfl 0 4096 rfl rfl (by omega) (by omega) (fun z704 ez704 vz704 => ?_)
                have wz704 := i_eq ez704
                have hMp := hH.2
                refine m_iast 8 160 hF hH dX12_apply_337 (by decide) rfl rfl 0 4096 rfl rfl (by omega) (by omega) (by omega) (fun σ705 H locs eσ705 hH => ?_)
                have hle := hle.tr (show HLe σ703 σ705 by rw [eσ705]; exact HLe.uI)
                have hfr := hfr.aI hMp (by decide) eσ705 (by decide)
                have hl : lv_has ls 5 [(3, .int z614), (2, .int v), (1, .int q), (0, .ref h0)] := lv_sub hl [0, 1, 2, 3] rfl
                exact jn696 () σ705 ls _ _ hl ⟨hle, hfr, trivial⟩ hH
          · skip
            refine lv_aload_n hx hb dX12_apply_176 rfl (lv_at hl 3 rfl) ?_
            refine m_getA 14 hF hH fk_X12_56 dX12_apply_177 (by decide) rfl ?_
            refine lv_iload_n hx hb dX12_apply_180 rfl (lv_at hl 2 rfl) ?_
            refine m_iald 14 9 hF hH dX12_apply_181 (by decide) rfl rfl 0 5 rfl rfl (by omega) (by omega) (fun z670 ez670 vz670 => ?_)
            have wz670 := i_eq ez670
            refine lv_iconst (v := 1) hx hb dX12_apply_182 (by decide) ?_
            refine lv_icmp_ne (tgt := 299) hx hb dX12_apply_183 rfl (fun h671 => ?_) (fun h671 => ?_)
            · have ch671 := i_ne h671
              have hl : lv_has ls 5 [(3, .int z614), (2, .int v), (1, .int q), (0, .ref h0)] := lv_sub hl [0, 1, 2, 3] rfl
              exact jn668 () σJ659 ls _ _ hl ⟨hle, hfr, trivial⟩ hH
            · have ch671 := i_eq h671
              have kp_22 : sI σJ659 (L 22) = sI σ (L 22) := funext fun i => (hfr.2.1 22 (by decide) (by decide) i).1
              have kp_23 : sI σJ659 (L 23) = sI σ (L 23) := funext fun i => (hfr.2.1 23 (by decide) (by decide) i).1
              refine lv_aload_n hx hb dX12_apply_186 rfl (lv_at hl 3 rfl) ?_
              refine lv_iload_n hx hb dX12_apply_187 rfl (lv_at hl 0 rfl) ?_
              refine lv_aload_n hx hb dX12_apply_188 rfl (lv_at hl 3 rfl) ?_
              refine m_getA 8 hF hH fk_X12_37 dX12_apply_189 (by decide) rfl ?_
              refine lv_iload_n hx hb dX12_apply_192 rfl (lv_at hl 0 rfl) ?_
              refine m_iald 8 160 hF hH dX12_apply_193 (by decide) rfl rfl 0 4096 rfl rfl (by omega) (by omega) (fun z672 ez672 vz672 => ?_)
              have wz672 := i_eq ez672
              refine lv_aload_n hx hb dX12_apply_194 rfl (lv_at hl 3 rfl) ?_
              refine m_getA 22 hF hH fk_X12_80 dX12_apply_195 (by decide) rfl ?_
              refine lv_iload_n hx hb dX12_apply_198 rfl (lv_at hl 2 rfl) ?_
              refine m_iald 22 9 hF hH dX12_apply_199 (by decide) rfl rfl 0 4096 rfl rfl (by omega) (by omega) (fun z673 ez673 vz673 => ?_)
              have wz673 := i_eq (ez673.trans (congrFun kp_22 _))
              refine m_cVv (As := [.int z614, .int z672, .int z673]) (rest := []) hF hH hA mv_X12_285 (fun sz => c_X12_zero l D t h0 L _ hH.1.2.2.2 hH.2 z614 z672 z673 (by omega) sz) dX12_apply_200 rfl rfl (by decide) rfl hl.1 (Nat.le_of_ble_eq_true rfl) (by decide) rfl (fun σ675 H locs lσ675 pz674 hH => ?_)
              obtain ⟨fz674, pz674⟩ := pz674
              have hle := hle.tr lσ675
              have hfr := hfr.tr fz674 (by decide) (by decide)
              refine lv_iconst (v := 0) hx hb dX12_apply_203 (by decide) ?_
              refine lv_istore (lv' := [(4, .int 0), (3, .int z614), (2, .int v), (1, .int q), (0, .ref h0)]) hx hb dX12_apply_204 hl (by decide) rfl (fun ls hl => ?_)
              have hl : lv_has ls 5 [(4, .int 0), (3, .int z614), (2, .int v), (1, .int q), (0, .ref h0)] := lv_sub hl [0, 1, 2, 3, 4] rfl
              refine m_loop (β := Int32) (L0 := fun x => [(4, .int x), (3, .int z614), (2, .int v), (1, .int q), (0, .ref h0)]) (I := fun x σ2 => HLe σ σ2 ∧ Fr h0 L [] [1, 2, 3, 4, 5, 6, 7, 8, 9] σ σ2 ∧ (0 ≤ x.toInt ∧ x.toInt ≤ 1024)) (fun x σ2 => (1024 - x.toInt).toNat) (0) hl ⟨hle, hfr, by (try dsimp only); omega⟩ hH (fun x σL ls H locs hl hI hH ih => ?_)
              obtain ⟨x676, hx1⟩ : ∃ y, y = x := ⟨_, rfl⟩
              subst hx1
              obtain ⟨hle, hfr, hI⟩ := hI
              have hl : lv_has ls 5 [(4, .int x676), (3, .int z614), (2, .int v), (1, .int q), (0, .ref h0)] := hl
              have hI : 0 ≤ x676.toInt ∧ x676.toInt ≤ 1024 := hI
              have rg_x676 := i_range x676
              have kp_22 : sI σL (L 22) = sI σ (L 22) := funext fun i => (hfr.2.1 22 (by decide) (by decide) i).1
              have kp_23 : sI σL (L 23) = sI σ (L 23) := funext fun i => (hfr.2.1 23 (by decide) (by decide) i).1
              refine lv_iload hx hb dX12_apply_206 (lv_at hl 0 rfl) ?_
              refine lv_aload_n hx hb dX12_apply_208 rfl (lv_at hl 4 rfl) ?_
              refine m_getA 23 hF hH fk_X12_83 dX12_apply_209 (by decide) rfl ?_
              refine lv_iload_n hx hb dX12_apply_212 rfl (lv_at hl 3 rfl) ?_
              refine m_iald 23 9 hF hH dX12_apply_213 (by decide) rfl rfl 0 1024 rfl rfl (by omega) (by omega) (fun z677 ez677 vz677 => ?_)
              have wz677 := i_eq (ez677.trans (congrFun kp_23 _))
              refine lv_icmp_ge (tgt := 256) hx hb dX12_apply_214 rfl (fun h678 => ?_) (fun h678 => ?_)
              · have ch678 := i_le h678
                refine lv_aload_n hx hb dX12_apply_256 rfl (lv_at hl 4 rfl) ?_
                refine m_getA 22 hF hH fk_X12_80 dX12_apply_257 (by decide) rfl ?_
                refine lv_iload_n hx hb dX12_apply_260 rfl (lv_at hl 3 rfl) ?_
                refine m_iald 22 9 hF hH dX12_apply_261 (by decide) rfl rfl 0 4096 rfl rfl (by omega) (by omega) (fun z679 ez679 vz679 => ?_)
                have wz679 := i_eq (ez679.trans (congrFun kp_22 _))
                refine lv_aload_n hx hb dX12_apply_262 rfl (lv_at hl 4 rfl) ?_
                refine m_getA 23 hF hH fk_X12_83 dX12_apply_263 (by decide) rfl ?_
                refine lv_iload_n hx hb dX12_apply_266 rfl (lv_at hl 3 rfl) ?_
                refine m_iald 23 9 hF hH dX12_apply_267 (by decide) rfl rfl 0 1024 rfl rfl (by omega) (by omega) (fun z680 ez680 vz680 => ?_)
                have wz680 := i_eq (ez680.trans (congrFun kp_23 _))
                refine lv_iadd hx hb dX12_apply_268 ?_
                refine lv_topi (fun z681 ez681 => ?_)
                try have hz681 := i_add ez681 (by omega) (by omega)
                refine lv_istore (lv' := [(4, .int z681), (3, .int z614), (2, .int v), (1, .int q), (0, .ref h0)]) hx hb dX12_apply_269 hl (by decide) rfl (fun ls hl => ?_)
                refine lv_aload_n hx hb dX12_apply_271 rfl (lv_at hl 4 rfl) ?_
                refine m_getA 8 hF hH fk_X12_37 dX12_apply_272 (by decide) rfl ?_
                refine lv_iload_n hx hb dX12_apply_275 rfl (lv_at hl 1 rfl) ?_
                refine lv_aload_n hx hb dX12_apply_276 rfl (lv_at hl 4 rfl) ?_
                refine m_getA 8 hF hH fk_X12_37 dX12_apply_277 (by decide) rfl ?_
                refine lv_iload_n hx hb dX12_apply_280 rfl (lv_at hl 1 rfl) ?_
                refine m_iald 8 160 hF hH dX12_apply_281 (by decide) rfl rfl 0 4096 rfl rfl (by omega) (by omega) (fun z682 ez682 vz682 => ?_)
                have wz682 := i_eq ez682
                refine lv_iload hx hb dX12_apply_282 (lv_at hl 0 rfl) ?_
                refine lv_icmp_ge (tgt := 292) hx hb dX12_apply_284 rfl (fun h683 => ?_) (fun h683 => ?_)
                · have ch683 := i_le h683
                  refine lv_aload_n hx hb dX12_apply_292 rfl (lv_at hl 4 rfl) ?_
                  refine m_getA 8 hF hH fk_X12_37 dX12_apply_293 (by decide) rfl ?_
                  refine lv_iload_n hx hb dX12_apply_296 rfl (lv_at hl 1 rfl) ?_
                  refine m_iald 8 160 hF hH dX12_apply_297 (by decide) rfl rfl 0 4096 rfl rfl (by omega) (by omega) (fun z684 ez684 vz684 => ?_)
                  have wz684 := i_eq ez684
                  have hMp := hH.2
                  refine m_iast 8 160 hF hH dX12_apply_298 (by decide) rfl rfl 0 4096 rfl rfl (by omega) (by omega) (by omega) (fun σ685 H locs eσ685 hH => ?_)
                  have kp_22 : sI σ685 (L 22) = sI σ (L 22) := (keepAA eσ685 hMp (by decide) (by decide) (by decide)).trans kp_22
                  have kp_23 : sI σ685 (L 23) = sI σ (L 23) := (keepAA eσ685 hMp (by decide) (by decide) (by decide)).trans kp_23
                  have hle := hle.tr (show HLe σL σ685 by rw [eσ685]; exact HLe.uI)
                  have hfr := hfr.aI hMp (by decide) eσ685 (by decide)
                  have hl : lv_has ls 5 [(3, .int z614), (2, .int v), (1, .int q), (0, .ref h0)] := lv_sub hl [1, 2, 3, 4] rfl
                  exact jn668 () σ685 ls _ _ hl ⟨hle, hfr, trivial⟩ hH
                · have ch683 := i_nle h683
                  refine lv_iload hx hb dX12_apply_287 (lv_at hl 0 rfl) ?_
                  refine lv_goto (tgt := 298) hx hb dX12_apply_289 rfl ?_
                  have hMp := hH.2
                  refine m_iast 8 160 hF hH dX12_apply_298 (by decide) rfl rfl 0 4096 rfl rfl (by omega) (by omega) (by omega) (fun σ686 H locs eσ686 hH => ?_)
                  have kp_22 : sI σ686 (L 22) = sI σ (L 22) := (keepAA eσ686 hMp (by decide) (by decide) (by decide)).trans kp_22
                  have kp_23 : sI σ686 (L 23) = sI σ (L 23) := (keepAA eσ686 hMp (by decide) (by decide) (by decide)).trans kp_23
                  have hle := hle.tr (show HLe σL σ686 by rw [eσ686]; exact HLe.uI)
                  have hfr := hfr.aI hMp (by decide) eσ686 (by decide)
                  have hl : lv_has ls 5 [(3, .int z614), (2, .int v), (1, .int q), (0, .ref h0)] := lv_sub hl [1, 2, 3, 4] rfl
                  exact jn668 () σ686 ls _ _ hl ⟨hle, hfr, trivial⟩ hH
              · have ch678 := i_nle h678
                refine lv_aload_n hx hb dX12_apply_217 rfl (lv_at hl 4 rfl) ?_
                refine m_getA 9 hF hH fk_X12_41 dX12_apply_218 (by decide) rfl ?_
                refine lv_sipush (v := 4096) hx hb dX12_apply_221 (by decide) ?_
                refine lv_iload_n hx hb dX12_apply_224 rfl (lv_at hl 1 rfl) ?_
                refine lv_imul hx hb dX12_apply_225 ?_
                refine lv_topi (fun z687 ez687 => ?_)
                try have hz687 := i_mulk 4096 rfl ez687 (by omega) (by omega)
                refine lv_aload_n hx hb dX12_apply_226 rfl (lv_at hl 4 rfl) ?_
                refine m_getA 22 hF hH fk_X12_80 dX12_apply_227 (by decide) rfl ?_
                refine lv_iload_n hx hb dX12_apply_230 rfl (lv_at hl 3 rfl) ?_
                refine m_iald 22 9 hF hH dX12_apply_231 (by decide) rfl rfl 0 4096 rfl rfl (by omega) (by omega) (fun z688 ez688 vz688 => ?_)
                have wz688 := i_eq (ez688.trans (congrFun kp_22 _))
                refine lv_iadd hx hb dX12_apply_232 ?_
                refine lv_topi (fun z689 ez689 => ?_)
                try have hz689 := i_add ez689 (by omega) (by omega)
                refine lv_iload hx hb dX12_apply_233 (lv_at hl 0 rfl) ?_
                refine lv_iadd hx hb dX12_apply_235 ?_
                refine lv_topi (fun z690 ez690 => ?_)
                try have hz690 := i_add ez690 (by omega) (by omega)
                refine lv_aload_n hx hb dX12_apply_236 rfl (lv_at hl 4 rfl) ?_
                refine m_getA 24 hF hH fk_X12_86 dX12_apply_237 (by decide) rfl ?_
                refine lv_sipush (v := 1024) hx hb dX12_apply_240 (by decide) ?_
                refine lv_iload_n hx hb dX12_apply_243 rfl (lv_at hl 3 rfl) ?_
                refine lv_imul hx hb dX12_apply_244 ?_
                refine lv_topi (fun z691 ez691 => ?_)
                try have hz691 := i_mulk 1024 rfl ez691 (by omega) (by omega)
                refine lv_iload hx hb dX12_apply_245 (lv_at hl 0 rfl) ?_
                refine lv_iadd hx hb dX12_apply_247 ?_
                refine lv_topi (fun z692 ez692 => ?_)
                try have hz692 := i_add ez692 (by omega) (by omega)
                refine m_bald 24 9216 hF hH dX12_apply_248 (by decide) rfl rfl (-128) 127 rfl rfl (by omega) (by omega) (fun z693 ez693 vz693 => ?_)
                have wz693 := i_eq ez693
                have hMp := hH.2
                refine m_bast 9 655360 hF hH dX12_apply_249 (by decide) rfl rfl rfl rfl (by omega) (by omega) (fun σ694 H locs eσ694 hH => ?_)
                have kp_22 : sI σ694 (L 22) = sI σ (L 22) := (keepAA eσ694 hMp (by decide) (by decide) (by decide)).trans kp_22
                have kp_23 : sI σ694 (L 23) = sI σ (L 23) := (keepAA eσ694 hMp (by decide) (by decide) (by decide)).trans kp_23
                have hle := hle.tr (show HLe σL σ694 by rw [eσ694]; exact HLe.uI)
                have hfr := hfr.aI hMp (by decide) eσ694 (by decide)
                obtain ⟨z695, ez695⟩ : ∃ z : Int32, z = x676 + Int32.ofInt 1 := ⟨_, rfl⟩
                have hz695 := i_add ez695 (by rw [show (Int32.ofInt 1).toInt = 1 from rfl]; omega) (by rw [show (Int32.ofInt 1).toInt = 1 from rfl]; omega)
                rw [show (Int32.ofInt 1).toInt = 1 from rfl] at hz695
                refine lv_iinc (lv' := [(4, .int z695), (3, .int z614), (2, .int v), (1, .int q), (0, .ref h0)]) (k := 0) (v := z695) hx hb dX12_apply_250 hl rfl ez695.symm (by decide) rfl (fun ls hl => ?_)
                refine lv_goto (tgt := 206) hx hb dX12_apply_253 rfl ?_
                have hl : lv_has ls 5 [(4, .int z695), (3, .int z614), (2, .int v), (1, .int q), (0, .ref h0)] := lv_sub hl [0, 1, 2, 3, 4] rfl
                exact ih (z695) σ694 ls H locs (by (try dsimp only); omega) hl ⟨hle, hfr, by (try dsimp only); omega⟩ hH
        · skip
          refine lv_aload_n hx hb dX12_apply_145 rfl (lv_at hl 3 rfl) ?_
          refine m_getA 14 hF hH fk_X12_56 dX12_apply_146 (by decide) rfl ?_
          refine lv_iload_n hx hb dX12_apply_149 rfl (lv_at hl 2 rfl) ?_
          refine m_iald 14 9 hF hH dX12_apply_150 (by decide) rfl rfl 0 5 rfl rfl (by omega) (by omega) (fun z660 ez660 vz660 => ?_)
          have wz660 := i_eq ez660
          refine lv_if_eq (tgt := 164) hx hb dX12_apply_151 rfl (fun h661 => ?_) (fun h661 => ?_)
          · have ch661 := i_eq h661
            refine lv_aload_n hx hb dX12_apply_164 rfl (lv_at hl 3 rfl) ?_
            refine m_getA 6 hF hH fk_X12_30 dX12_apply_165 (by decide) rfl ?_
            refine lv_iload_n hx hb dX12_apply_168 rfl (lv_at hl 0 rfl) ?_
            refine lv_aload_n hx hb dX12_apply_169 rfl (lv_at hl 3 rfl) ?_
            refine m_getA 20 hF hH fk_X12_74 dX12_apply_170 (by decide) rfl ?_
            refine lv_iload_n hx hb dX12_apply_173 rfl (lv_at hl 2 rfl) ?_
            refine m_iald 20 9 hF hH dX12_apply_174 (by decide) rfl rfl (-2147483648) 2147483647 rfl rfl (by omega) (by omega) (fun z662 ez662 vz662 => ?_)
            have wz662 := i_eq ez662
            have hMp := hH.2
            refine m_iast 6 160 hF hH dX12_apply_175 (by decide) rfl rfl (-2147483648) 2147483647 rfl rfl (by omega) (by omega) (by omega) (fun σ663 H locs eσ663 hH => ?_)
            have hle := hle.tr (show HLe σJ627 σ663 by rw [eσ663]; exact HLe.uI)
            have hfr := hfr.aI hMp (by decide) eσ663 (by decide)
            have hl : lv_has ls 5 [(3, .int z614), (2, .int v), (1, .int q), (0, .ref h0)] := lv_sub hl [0, 1, 2, 3] rfl
            exact jn658 () σ663 ls _ _ hl ⟨hle, hfr, trivial⟩ hH
          · have ch661 := i_ne h661
            refine lv_aload_n hx hb dX12_apply_154 rfl (lv_at hl 3 rfl) ?_
            refine m_getA 14 hF hH fk_X12_56 dX12_apply_155 (by decide) rfl ?_
            refine lv_iload_n hx hb dX12_apply_158 rfl (lv_at hl 2 rfl) ?_
            refine m_iald 14 9 hF hH dX12_apply_159 (by decide) rfl rfl 0 5 rfl rfl (by omega) (by omega) (fun z664 ez664 vz664 => ?_)
            have wz664 := i_eq ez664
            refine lv_iconst (v := 3) hx hb dX12_apply_160 (by decide) ?_
            refine lv_icmp_ne (tgt := 176) hx hb dX12_apply_161 rfl (fun h665 => ?_) (fun h665 => ?_)
            · have ch665 := i_ne h665
              have hl : lv_has ls 5 [(3, .int z614), (2, .int v), (1, .int q), (0, .ref h0)] := lv_sub hl [0, 1, 2, 3] rfl
              exact jn658 () σJ627 ls _ _ hl ⟨hle, hfr, trivial⟩ hH
            · have ch665 := i_eq h665
              refine lv_aload_n hx hb dX12_apply_164 rfl (lv_at hl 3 rfl) ?_
              refine m_getA 6 hF hH fk_X12_30 dX12_apply_165 (by decide) rfl ?_
              refine lv_iload_n hx hb dX12_apply_168 rfl (lv_at hl 0 rfl) ?_
              refine lv_aload_n hx hb dX12_apply_169 rfl (lv_at hl 3 rfl) ?_
              refine m_getA 20 hF hH fk_X12_74 dX12_apply_170 (by decide) rfl ?_
              refine lv_iload_n hx hb dX12_apply_173 rfl (lv_at hl 2 rfl) ?_
              refine m_iald 20 9 hF hH dX12_apply_174 (by decide) rfl rfl (-2147483648) 2147483647 rfl rfl (by omega) (by omega) (fun z666 ez666 vz666 => ?_)
              have wz666 := i_eq ez666
              have hMp := hH.2
              refine m_iast 6 160 hF hH dX12_apply_175 (by decide) rfl rfl (-2147483648) 2147483647 rfl rfl (by omega) (by omega) (by omega) (fun σ667 H locs eσ667 hH => ?_)
              have hle := hle.tr (show HLe σJ627 σ667 by rw [eσ667]; exact HLe.uI)
              have hfr := hfr.aI hMp (by decide) eσ667 (by decide)
              have hl : lv_has ls 5 [(3, .int z614), (2, .int v), (1, .int q), (0, .ref h0)] := lv_sub hl [0, 1, 2, 3] rfl
              exact jn658 () σ667 ls _ _ hl ⟨hle, hfr, trivial⟩ hH
      · skip
        refine lv_aload_n hx hb dX12_apply_62 rfl (lv_at hl 3 rfl) ?_
        refine m_getA 14 hF hH fk_X12_56 dX12_apply_63 (by decide) rfl ?_
        refine lv_iload_n hx hb dX12_apply_66 rfl (lv_at hl 2 rfl) ?_
        refine m_iald 14 9 hF hH dX12_apply_67 (by decide) rfl rfl 0 5 rfl rfl (by omega) (by omega) (fun z628 ez628 vz628 => ?_)
        have wz628 := i_eq ez628
        refine lv_if_eq (tgt := 81) hx hb dX12_apply_68 rfl (fun h629 => ?_) (fun h629 => ?_)
        · have ch629 := i_eq h629
          refine lv_aload_n hx hb dX12_apply_81 rfl (lv_at hl 3 rfl) ?_
          refine m_getA 2 hF hH fk_X12_17 dX12_apply_82 (by decide) rfl ?_
          refine lv_iload_n hx hb dX12_apply_85 rfl (lv_at hl 0 rfl) ?_
          refine lv_aload_n hx hb dX12_apply_86 rfl (lv_at hl 3 rfl) ?_
          refine m_getA 16 hF hH fk_X12_62 dX12_apply_87 (by decide) rfl ?_
          refine lv_iload_n hx hb dX12_apply_90 rfl (lv_at hl 2 rfl) ?_
          refine m_iald 16 9 hF hH dX12_apply_91 (by decide) rfl rfl (-1) 79 rfl rfl (by omega) (by omega) (fun z630 ez630 vz630 => ?_)
          have wz630 := i_eq ez630
          have hMp := hH.2
          refine m_iast 2 160 hF hH dX12_apply_92 (by decide) rfl rfl (-1) 79 rfl rfl (by omega) (by omega) (by omega) (fun σ631 H locs eσ631 hH => ?_)
          have hle := hle.tr (show HLe σJ619 σ631 by rw [eσ631]; exact HLe.uI)
          have hfr := hfr.aI hMp (by decide) eσ631 (by decide)
          refine lv_aload_n hx hb dX12_apply_93 rfl (lv_at hl 3 rfl) ?_
          refine m_getA 5 hF hH fk_X12_27 dX12_apply_94 (by decide) rfl ?_
          refine lv_iload_n hx hb dX12_apply_97 rfl (lv_at hl 0 rfl) ?_
          refine lv_aload_n hx hb dX12_apply_98 rfl (lv_at hl 3 rfl) ?_
          refine m_getA 19 hF hH fk_X12_71 dX12_apply_99 (by decide) rfl ?_
          refine lv_iload_n hx hb dX12_apply_102 rfl (lv_at hl 2 rfl) ?_
          refine m_iald 19 9 hF hH dX12_apply_103 (by decide) rfl rfl 0 12 rfl rfl (by omega) (by omega) (fun z632 ez632 vz632 => ?_)
          have wz632 := i_eq ez632
          have hMp := hH.2
          refine m_iast 5 160 hF hH dX12_apply_104 (by decide) rfl rfl 0 12 rfl rfl (by omega) (by omega) (by omega) (fun σ633 H locs eσ633 hH => ?_)
          have hle := hle.tr (show HLe σ631 σ633 by rw [eσ633]; exact HLe.uI)
          have hfr := hfr.aI hMp (by decide) eσ633 (by decide)
          refine lv_iconst (v := 0) hx hb dX12_apply_105 (by decide) ?_
          refine lv_istore (lv' := [(4, .int 0), (3, .int z614), (2, .int v), (1, .int q), (0, .ref h0)]) hx hb dX12_apply_106 hl (by decide) rfl (fun ls hl => ?_)
          have hl : lv_has ls 5 [(4, .int 0), (3, .int z614), (2, .int v), (1, .int q), (0, .ref h0)] := lv_sub hl [0, 1, 2, 3, 4] rfl
          refine m_loop (β := Int32) (L0 := fun x => [(4, .int x), (3, .int z614), (2, .int v), (1, .int q), (0, .ref h0)]) (I := fun x σ2 => HLe σ σ2 ∧ Fr h0 L [] [1, 2, 3, 4, 5, 6, 7, 8, 9] σ σ2 ∧ (0 ≤ x.toInt ∧ x.toInt ≤ 12)) (fun x σ2 => (12 - x.toInt).toNat) (0) hl ⟨hle, hfr, by (try dsimp only); omega⟩ hH (fun x σL ls H locs hl hI hH ih => ?_)
          obtain ⟨x634, hx1⟩ : ∃ y, y = x := ⟨_, rfl⟩
          subst hx1
          obtain ⟨hle, hfr, hI⟩ := hI
          have hl : lv_has ls 5 [(4, .int x634), (3, .int z614), (2, .int v), (1, .int q), (0, .ref h0)] := hl
          have hI : 0 ≤ x634.toInt ∧ x634.toInt ≤ 12 := hI
          have rg_x634 := i_range x634
          refine lv_iload hx hb dX12_apply_108 (lv_at hl 0 rfl) ?_
          refine lv_bipush (v := 12) hx hb dX12_apply_110 (by decide) ?_
          refine lv_icmp_ge (tgt := 145) hx hb dX12_apply_112 rfl (fun h635 => ?_) (fun h635 => ?_)
          · have ch635 := i_le h635
            have hl : lv_has ls 5 [(3, .int z614), (2, .int v), (1, .int q), (0, .ref h0)] := lv_sub hl [1, 2, 3, 4] rfl
            exact jn626 () σL ls _ _ hl ⟨hle, hfr, trivial⟩ hH
          · have ch635 := i_nle h635
            refine lv_aload_n hx hb dX12_apply_115 rfl (lv_at hl 4 rfl) ?_
            refine m_getA 4 hF hH fk_X12_24 dX12_apply_116 (by decide) rfl ?_
            refine lv_bipush (v := 12) hx hb dX12_apply_119 (by decide) ?_
            refine lv_iload_n hx hb dX12_apply_121 rfl (lv_at hl 1 rfl) ?_
            refine lv_imul hx hb dX12_apply_122 ?_
            refine lv_topi (fun z636 ez636 => ?_)
            try have hz636 := i_mulk 12 rfl ez636 (by omega) (by omega)
            refine lv_iload hx hb dX12_apply_123 (lv_at hl 0 rfl) ?_
            refine lv_iadd hx hb dX12_apply_125 ?_
            refine lv_topi (fun z637 ez637 => ?_)
            try have hz637 := i_add ez637 (by omega) (by omega)
            refine lv_aload_n hx hb dX12_apply_126 rfl (lv_at hl 4 rfl) ?_
            refine m_getA 18 hF hH fk_X12_68 dX12_apply_127 (by decide) rfl ?_
            refine lv_bipush (v := 12) hx hb dX12_apply_130 (by decide) ?_
            refine lv_iload_n hx hb dX12_apply_132 rfl (lv_at hl 3 rfl) ?_
            refine lv_imul hx hb dX12_apply_133 ?_
            refine lv_topi (fun z638 ez638 => ?_)
            try have hz638 := i_mulk 12 rfl ez638 (by omega) (by omega)
            refine lv_iload hx hb dX12_apply_134 (lv_at hl 0 rfl) ?_
            refine lv_iadd hx hb dX12_apply_136 ?_
            refine lv_topi (fun z639 ez639 => ?_)
            try have hz639 := i_add ez639 (by omega) (by omega)
            refine m_bald 18 108 hF hH dX12_apply_137 (by decide) rfl rfl (-128) 127 rfl rfl (by omega) (by omega) (fun z640 ez640 vz640 => ?_)
            have wz640 := i_eq ez640
            have hMp := hH.2
            refine m_bast 4 1920 hF hH dX12_apply_138 (by decide) rfl rfl rfl rfl (by omega) (by omega) (fun σ641 H locs eσ641 hH => ?_)
            have hle := hle.tr (show HLe σL σ641 by rw [eσ641]; exact HLe.uI)
            have hfr := hfr.aI hMp (by decide) eσ641 (by decide)
            obtain ⟨z642, ez642⟩ : ∃ z : Int32, z = x634 + Int32.ofInt 1 := ⟨_, rfl⟩
            have hz642 := i_add ez642 (by rw [show (Int32.ofInt 1).toInt = 1 from rfl]; omega) (by rw [show (Int32.ofInt 1).toInt = 1 from rfl]; omega)
            rw [show (Int32.ofInt 1).toInt = 1 from rfl] at hz642
            refine lv_iinc (lv' := [(4, .int z642), (3, .int z614), (2, .int v), (1, .int q), (0, .ref h0)]) (k := 0) (v := z642) hx hb dX12_apply_139 hl rfl ez642.symm (by decide) rfl (fun ls hl => ?_)
            refine lv_goto (tgt := 108) hx hb dX12_apply_142 rfl ?_
            have hl : lv_has ls 5 [(4, .int z642), (3, .int z614), (2, .int v), (1, .int q), (0, .ref h0)] := lv_sub hl [0, 1, 2, 3, 4] rfl
            exact ih (z642) σ641 ls H locs (by (try dsimp only); omega) hl ⟨hle, hfr, by (try dsimp only); omega⟩ hH
        · have ch629 := i_ne h629
          refine lv_aload_n hx hb dX12_apply_71 rfl (lv_at hl 3 rfl) ?_
          refine m_getA 14 hF hH fk_X12_56 dX12_apply_72 (by decide) rfl ?_
          refine lv_iload_n hx hb dX12_apply_75 rfl (lv_at hl 2 rfl) ?_
          refine m_iald 14 9 hF hH dX12_apply_76 (by decide) rfl rfl 0 5 rfl rfl (by omega) (by omega) (fun z643 ez643 vz643 => ?_)
          have wz643 := i_eq ez643
          refine lv_iconst (v := 4) hx hb dX12_apply_77 (by decide) ?_
          refine lv_icmp_ne (tgt := 145) hx hb dX12_apply_78 rfl (fun h644 => ?_) (fun h644 => ?_)
          · have ch644 := i_ne h644
            have hl : lv_has ls 5 [(3, .int z614), (2, .int v), (1, .int q), (0, .ref h0)] := lv_sub hl [0, 1, 2, 3] rfl
            exact jn626 () σJ619 ls _ _ hl ⟨hle, hfr, trivial⟩ hH
          · have ch644 := i_eq h644
            refine lv_aload_n hx hb dX12_apply_81 rfl (lv_at hl 3 rfl) ?_
            refine m_getA 2 hF hH fk_X12_17 dX12_apply_82 (by decide) rfl ?_
            refine lv_iload_n hx hb dX12_apply_85 rfl (lv_at hl 0 rfl) ?_
            refine lv_aload_n hx hb dX12_apply_86 rfl (lv_at hl 3 rfl) ?_
            refine m_getA 16 hF hH fk_X12_62 dX12_apply_87 (by decide) rfl ?_
            refine lv_iload_n hx hb dX12_apply_90 rfl (lv_at hl 2 rfl) ?_
            refine m_iald 16 9 hF hH dX12_apply_91 (by decide) rfl rfl (-1) 79 rfl rfl (by omega) (by omega) (fun z645 ez645 vz645 => ?_)
            have wz645 := i_eq ez645
            have hMp := hH.2
            refine m_iast 2 160 hF hH dX12_apply_92 (by decide) rfl rfl (-1) 79 rfl rfl (by omega) (by omega) (by omega) (fun σ646 H locs eσ646 hH => ?_)
            have hle := hle.tr (show HLe σJ619 σ646 by rw [eσ646]; exact HLe.uI)
            have hfr := hfr.aI hMp (by decide) eσ646 (by decide)
            refine lv_aload_n hx hb dX12_apply_93 rfl (lv_at hl 3 rfl) ?_
            refine m_getA 5 hF hH fk_X12_27 dX12_apply_94 (by decide) rfl ?_
            refine lv_iload_n hx hb dX12_apply_97 rfl (lv_at hl 0 rfl) ?_
            refine lv_aload_n hx hb dX12_apply_98 rfl (lv_at hl 3 rfl) ?_
            refine m_getA 19 hF hH fk_X12_71 dX12_apply_99 (by decide) rfl ?_
            refine lv_iload_n hx hb dX12_apply_102 rfl (lv_at hl 2 rfl) ?_
            refine m_iald 19 9 hF hH dX12_apply_103 (by decide) rfl rfl 0 12 rfl rfl (by omega) (by omega) (fun z647 ez647 vz647 => ?_)
            have wz647 := i_eq ez647
            have hMp := hH.2
            refine m_iast 5 160 hF hH dX12_apply_104 (by decide) rfl rfl 0 12 rfl rfl (by omega) (by omega) (by omega) (fun σ648 H locs eσ648 hH => ?_)
            have hle := hle.tr (show HLe σ646 σ648 by rw [eσ648]; exact HLe.uI)
            have hfr := hfr.aI hMp (by decide) eσ648 (by decide)
            refine lv_iconst (v := 0) hx hb dX12_apply_105 (by decide) ?_
            refine lv_istore (lv' := [(4, .int 0), (3, .int z614), (2, .int v), (1, .int q), (0, .ref h0)]) hx hb dX12_apply_106 hl (by decide) rfl (fun ls hl => ?_)
            have hl : lv_has ls 5 [(4, .int 0), (3, .int z614), (2, .int v), (1, .int q), (0, .ref h0)] := lv_sub hl [0, 1, 2, 3, 4] rfl
            refine m_loop (β := Int32) (L0 := fun x => [(4, .int x), (3, .int z614), (2, .int v), (1, .int q), (0, .ref h0)]) (I := fun x σ2 => HLe σ σ2 ∧ Fr h0 L [] [1, 2, 3, 4, 5, 6, 7, 8, 9] σ σ2 ∧ (0 ≤ x.toInt ∧ x.toInt ≤ 12)) (fun x σ2 => (12 - x.toInt).toNat) (0) hl ⟨hle, hfr, by (try dsimp only); omega⟩ hH (fun x σL ls H locs hl hI hH ih => ?_)
            obtain ⟨x649, hx1⟩ : ∃ y, y = x := ⟨_, rfl⟩
            subst hx1
            obtain ⟨hle, hfr, hI⟩ := hI
            have hl : lv_has ls 5 [(4, .int x649), (3, .int z614), (2, .int v), (1, .int q), (0, .ref h0)] := hl
            have hI : 0 ≤ x649.toInt ∧ x649.toInt ≤ 12 := hI
            have rg_x649 := i_range x649
            refine lv_iload hx hb dX12_apply_108 (lv_at hl 0 rfl) ?_
            refine lv_bipush (v := 12) hx hb dX12_apply_110 (by decide) ?_
            refine lv_icmp_ge (tgt := 145) hx hb dX12_apply_112 rfl (fun h650 => ?_) (fun h650 => ?_)
            · have ch650 := i_le h650
              have hl : lv_has ls 5 [(3, .int z614), (2, .int v), (1, .int q), (0, .ref h0)] := lv_sub hl [1, 2, 3, 4] rfl
              exact jn626 () σL ls _ _ hl ⟨hle, hfr, trivial⟩ hH
            · have ch650 := i_nle h650
              refine lv_aload_n hx hb dX12_apply_115 rfl (lv_at hl 4 rfl) ?_
              refine m_getA 4 hF hH fk_X12_24 dX12_apply_116 (by decide) rfl ?_
              refine lv_bipush (v := 12) hx hb dX12_apply_119 (by decide) ?_
              refine lv_iload_n hx hb dX12_apply_121 rfl (lv_at hl 1 rfl) ?_
              refine lv_imul hx hb dX12_apply_122 ?_
              refine lv_topi (fun z651 ez651 => ?_)
              try have hz651 := i_mulk 12 rfl ez651 (by omega) (by omega)
              refine lv_iload hx hb dX12_apply_123 (lv_at hl 0 rfl) ?_
              refine lv_iadd hx hb dX12_apply_125 ?_
              refine lv_topi (fun z652 ez652 => ?_)
              try have hz652 := i_add ez652 (by omega) (by omega)
              refine lv_aload_n hx hb dX12_apply_126 rfl (lv_at hl 4 rfl) ?_
              refine m_getA 18 hF hH fk_X12_68 dX12_apply_127 (by decide) rfl ?_
              refine lv_bipush (v := 12) hx hb dX12_apply_130 (by decide) ?_
              refine lv_iload_n hx hb dX12_apply_132 rfl (lv_at hl 3 rfl) ?_
              refine lv_imul hx hb dX12_apply_133 ?_
              refine lv_topi (fun z653 ez653 => ?_)
              try have hz653 := i_mulk 12 rfl ez653 (by omega) (by omega)
              refine lv_iload hx hb dX12_apply_134 (lv_at hl 0 rfl) ?_
              refine lv_iadd hx hb dX12_apply_136 ?_
              refine lv_topi (fun z654 ez654 => ?_)
              try have hz654 := i_add ez654 (by omega) (by omega)
              refine m_bald 18 108 hF hH dX12_apply_137 (by decide) rfl rfl (-128) 127 rfl rfl (by omega) (by omega) (fun z655 ez655 vz655 => ?_)
              have wz655 := i_eq ez655
              have hMp := hH.2
              refine m_bast 4 1920 hF hH dX12_apply_138 (by decide) rfl rfl rfl rfl (by omega) (by omega) (fun σ656 H locs eσ656 hH => ?_)
              have hle := hle.tr (show HLe σL σ656 by rw [eσ656]; exact HLe.uI)
              have hfr := hfr.aI hMp (by decide) eσ656 (by decide)
              obtain ⟨z657, ez657⟩ : ∃ z : Int32, z = x649 + Int32.ofInt 1 := ⟨_, rfl⟩
              have hz657 := i_add ez657 (by rw [show (Int32.ofInt 1).toInt = 1 from rfl]; omega) (by rw [show (Int32.ofInt 1).toInt = 1 from rfl]; omega)
              rw [show (Int32.ofInt 1).toInt = 1 from rfl] at hz657
              refine lv_iinc (lv' := [(4, .int z657), (3, .int z614), (2, .int v), (1, .int q), (0, .ref h0)]) (k := 0) (v := z657) hx hb dX12_apply_139 hl rfl ez657.symm (by decide) rfl (fun ls hl => ?_)
              refine lv_goto (tgt := 108) hx hb dX12_apply_142 rfl ?_
              have hl : lv_has ls 5 [(4, .int z657), (3, .int z614), (2, .int v), (1, .int q), (0, .ref h0)] := lv_sub hl [0, 1, 2, 3, 4] rfl
              exact ih (z657) σ656 ls H locs (by (try dsimp only); omega) hl ⟨hle, hfr, by (try dsimp only); omega⟩ hH
    · skip
      refine lv_aload_n hx hb dX12_apply_27 rfl (lv_at hl 1 rfl) ?_
      refine m_getA 14 hF hH fk_X12_56 dX12_apply_28 (by decide) rfl ?_
      refine lv_iload_n hx hb dX12_apply_31 rfl (lv_at hl 2 rfl) ?_
      refine m_iald 14 9 hF hH dX12_apply_32 (by decide) rfl rfl 0 5 rfl rfl (by omega) (by omega) (fun z620 ez620 vz620 => ?_)
      have wz620 := i_eq ez620
      refine lv_if_ne (tgt := 62) hx hb dX12_apply_33 rfl (fun h621 => ?_) (fun h621 => ?_)
      · have ch621 := i_ne h621
        have hl : lv_has ls 5 [(3, .int z614), (2, .int v), (1, .int q), (0, .ref h0)] := lv_sub hl [0, 3, 2, 1] rfl
        exact jn618 () σ ls _ _ hl ⟨hle, hfr, trivial⟩ hH
      · have ch621 := i_eq h621
        refine lv_aload_n hx hb dX12_apply_36 rfl (lv_at hl 1 rfl) ?_
        refine m_getA 1 hF hH fk_X12_13 dX12_apply_37 (by decide) rfl ?_
        refine lv_iload_n hx hb dX12_apply_40 rfl (lv_at hl 0 rfl) ?_
        refine lv_iconst (v := 1) hx hb dX12_apply_41 (by decide) ?_
        have hMp := hH.2
        refine m_zast 1 160 hF hH dX12_apply_42 (by decide) rfl rfl rfl rfl (by omega) (by omega) (fun σ622 H locs eσ622 hH => ?_)
        have hle := hle.tr (show HLe σ σ622 by rw [eσ622]; exact HLe.uI)
        have hfr := hfr.aI hMp (by decide) eσ622 (by decide)
        refine lv_aload_n hx hb dX12_apply_43 rfl (lv_at hl 1 rfl) ?_
        refine m_getA 3 hF hH fk_X12_21 dX12_apply_44 (by decide) rfl ?_
        refine lv_iload_n hx hb dX12_apply_47 rfl (lv_at hl 0 rfl) ?_
        refine lv_aload_n hx hb dX12_apply_48 rfl (lv_at hl 1 rfl) ?_
        refine m_getA 17 hF hH fk_X12_65 dX12_apply_49 (by decide) rfl ?_
        refine lv_iload_n hx hb dX12_apply_52 rfl (lv_at hl 2 rfl) ?_
        refine m_zald 17 9 hF hH dX12_apply_53 (by decide) rfl rfl 0 1 rfl rfl (by omega) (by omega) (fun z623 ez623 vz623 => ?_)
        have wz623 := i_eq ez623
        have hMp := hH.2
        refine m_zast 3 160 hF hH dX12_apply_54 (by decide) rfl rfl rfl rfl (by omega) (by omega) (fun σ624 H locs eσ624 hH => ?_)
        have hle := hle.tr (show HLe σ622 σ624 by rw [eσ624]; exact HLe.uI)
        have hfr := hfr.aI hMp (by decide) eσ624 (by decide)
        refine lv_aload_n hx hb dX12_apply_55 rfl (lv_at hl 1 rfl) ?_
        refine m_getA 8 hF hH fk_X12_37 dX12_apply_56 (by decide) rfl ?_
        refine lv_iload_n hx hb dX12_apply_59 rfl (lv_at hl 0 rfl) ?_
        refine lv_iconst (v := 0) hx hb dX12_apply_60 (by decide) ?_
        have hMp := hH.2
        refine m_iast 8 160 hF hH dX12_apply_61 (by decide) rfl rfl 0 4096 rfl rfl (by omega) (by omega) (by omega) (fun σ625 H locs eσ625 hH => ?_)
        have hle := hle.tr (show HLe σ624 σ625 by rw [eσ625]; exact HLe.uI)
        have hfr := hfr.aI hMp (by decide) eσ625 (by decide)
        have hl : lv_has ls 5 [(3, .int z614), (2, .int v), (1, .int q), (0, .ref h0)] := lv_sub hl [0, 3, 2, 1] rfl
        exact jn618 () σ625 ls _ _ hl ⟨hle, hfr, trivial⟩ hH
  · have ch616 := i_eq h616
    refine lv_aload_n hx hb dX12_apply_19 rfl (lv_at hl 1 rfl) ?_
    refine m_getA 1 hF hH fk_X12_13 dX12_apply_20 (by decide) rfl ?_
    refine lv_iload_n hx hb dX12_apply_23 rfl (lv_at hl 0 rfl) ?_
    refine lv_iconst (v := 0) hx hb dX12_apply_24 (by decide) ?_
    have hMp := hH.2
    refine m_zast 1 160 hF hH dX12_apply_25 (by decide) rfl rfl rfl rfl (by omega) (by omega) (fun σ617 H locs eσ617 hH => ?_)
    have hle := hle.tr (show HLe σ σ617 by rw [eσ617]; exact HLe.uI)
    have hfr := hfr.aI hMp (by decide) eσ617 (by decide)
    exact h_retv hF hr hlk dX12_apply_26 hH.1 hle ⟨hH.2, hfr, trivial⟩

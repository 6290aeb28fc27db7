def RF (L : Nat → Nat) (σ : HS) : Prop := ∀ q : Nat, q < 9 → (sI σ (L 22) q).toInt + (sI σ (L 23) q).toInt ≤ 4096
theorem RF.fr {h0 : Nat} {L : Nat → Nat} {fs js : List Nat} {σ σ' : HS} (h : RF L σ) (hf : Fr h0 L fs js σ σ') (h1 : 22 ∉ js) (h2 : 23 ∉ js) : RF L σ' := fun q hq => by rw [(hf.2.1 22 (by decide) h1 q).1, (hf.2.1 23 (by decide) h2 q).1]; exact h q hq
theorem dX12_come_0 : decode cX12_come 0 = .ok (.iconst 0, 1) := by decide +kernel
theorem dX12_come_1 : decode cX12_come 1 = .ok (.istore_n 3, 1) := by decide +kernel
theorem dX12_come_2 : decode cX12_come 2 = .ok (.iload_n 3, 1) := by decide +kernel
theorem dX12_come_3 : decode cX12_come 3 = .ok (.iload_n 1, 1) := by decide +kernel
theorem dX12_come_4 : decode cX12_come 4 = .ok (.if_icmp .ge 16, 3) := by decide +kernel
theorem dX12_come_7 : decode cX12_come 7 = .ok (.aload_n 0, 1) := by decide +kernel
theorem dX12_come_8 : decode cX12_come 8 = .ok (.iload_n 3, 1) := by decide +kernel
theorem dX12_come_9 : decode cX12_come 9 = .ok (.bipush 80, 2) := by decide +kernel
theorem dX12_come_11 : decode cX12_come 11 = .ok (.invokevirtual 274, 3) := by decide +kernel
theorem dX12_come_14 : decode cX12_come 14 = .ok (.iinc 3 1, 3) := by decide +kernel
theorem dX12_come_17 : decode cX12_come 17 = .ok (.goto (-15), 3) := by decide +kernel
theorem dX12_come_20 : decode cX12_come 20 = .ok (.aload_n 0, 1) := by decide +kernel
theorem dX12_come_21 : decode cX12_come 21 = .ok (.iconst 0, 1) := by decide +kernel
theorem dX12_come_22 : decode cX12_come 22 = .ok (.putfield 271, 3) := by decide +kernel
theorem dX12_come_25 : decode cX12_come 25 = .ok (.return_, 1) := by decide +kernel
set_option maxRecDepth 100000 in
set_option maxHeartbeats 4000000 in
theorem c_X12_come (l : Launch) (D : va_G) (t : Nat → ClassId) (h0 : Nat) (L : Nat → Nat) (σ : HS) (hO : OK ph τ0 σ) (hM : MdI h0 L σ) (k q : Int32) (hR : RF L σ) (hz : k.toInt ≤ 8) (sz : Nat) : HMv ph τ0 l D t yX12_come cX12_come 4 ({ frames := 2, cells := 0, slots := 0, locals := 70 }) σ sz [.ref h0, .int k, .int q] 0 0 (fun σ' => MdI h0 L σ' ∧ Fr h0 L [16] [1, 2, 3, 4, 5, 6, 7, 8, 9] σ σ' ∧ ((sI σ' h0 16).toInt = 0)) := by
  refine h_go hO (by decide) (Nat.le_of_ble_eq_true rfl) ?_
  intro p e s m below meth c ls A hF hr hlk hAe hH0 hA hl
  unfold hB
  rw [hAe]
  clear hAe
  have hF : FX p m c cX12_come 4 s _ RX12 D t := hF
  have hx := hF.1.1
  have hb := hF.1.2.1
  have hH : MT D t A s.heap h0 L σ s.heap [] := ⟨hH0, hM⟩
  have hle : HLe σ σ := HLe.rf
  have hfr : Fr h0 L [16] [1, 2, 3, 4, 5, 6, 7, 8, 9] σ σ := Fr.rf
  have k_0 : (0 : Int32).toInt = 0 := rfl
  have k_80 : (80 : Int32).toInt = 80 := rfl
  have rg_1 := i_range k
  have rg_2 := i_range q
  have hl : lv_has ls 4 [(0, .ref h0), (1, .int k), (2, .int q)] := hl
  refine lv_iconst (v := 0) hx hb dX12_come_0 (by decide) ?_
  refine lv_istore_n (lv' := [(3, .int 0), (0, .ref h0), (1, .int k), (2, .int q)]) hx hb dX12_come_1 rfl hl (by decide) rfl (fun ls hl => ?_)
  have hl : lv_has ls 4 [(3, .int 0), (2, .int q), (1, .int k), (0, .ref h0)] := lv_sub hl [0, 3, 2, 1] rfl
  refine m_loop (β := Int32) (L0 := fun x => [(3, .int x), (2, .int q), (1, .int k), (0, .ref h0)]) (I := fun x σ2 => HLe σ σ2 ∧ Fr h0 L [16] [1, 2, 3, 4, 5, 6, 7, 8, 9] σ σ2 ∧ (0 ≤ x.toInt)) (fun x σ2 => (8 - x.toInt).toNat) (0) hl ⟨hle, hfr, by (try dsimp only); omega⟩ hH (fun x σL ls H locs hl hI hH ih => ?_)
  obtain ⟨x715, hx1⟩ : ∃ y, y = x := ⟨_, rfl⟩
  subst hx1
  obtain ⟨hle, hfr, hI⟩ := hI
  have hl : lv_has ls 4 [(3, .int x715), (2, .int q), (1, .int k), (0, .ref h0)] := hl
  have hI : 0 ≤ x715.toInt := hI
  have rg_x715 := i_range x715
  have hR2 : RF L σL := hR.fr hfr (by decide) (by decide)
  refine lv_iload_n hx hb dX12_come_2 rfl (lv_at hl 0 rfl) ?_
  refine lv_iload_n hx hb dX12_come_3 rfl (lv_at hl 2 rfl) ?_
  refine lv_icmp_ge (tgt := 20) hx hb dX12_come_4 rfl (fun h716 => ?_) (fun h716 => ?_)
  · have ch716 := i_le h716
    have kf_16 : sI σL h0 16 = sI σL h0 16 := rfl
    refine lv_aload_n hx hb dX12_come_20 rfl (lv_at hl 3 rfl) ?_
    refine lv_iconst (v := 0) hx hb dX12_come_21 (by decide) ?_
    have hMp := hH.2
    refine m_putI hF hH fk_X12_271 dX12_come_22 0 8 rfl rfl (by omega) rfl rfl rfl (fun σ720 H locs eσ720 hH => ?_)
    have kf_16 : (sI σ720 h0 16).toInt = (0 : Int32).toInt := by rw [eσ720]; exact congrArg Int32.toInt u2_same
    have hle := hle.tr (show HLe σL σ720 by rw [eσ720]; exact HLe.uI)
    have hfr := hfr.fI hMp eσ720 (by decide) rfl
    exact h_retv hF hr hlk dX12_come_25 hH.1 hle ⟨hH.2, hfr, by (try dsimp only); omega⟩
  · have ch716 := i_nle h716
    have hq3 := hR2 x715.toInt.toNat (by omega)
    refine lv_aload_n hx hb dX12_come_7 rfl (lv_at hl 3 rfl) ?_
    refine lv_iload_n hx hb dX12_come_8 rfl (lv_at hl 0 rfl) ?_
    refine lv_bipush (v := 80) hx hb dX12_come_9 (by decide) ?_
    refine m_cVv (As := [.int x715, .int 80]) (rest := []) hF hH hA mv_X12_274 (fun sz => c_X12_apply l D t h0 L _ hH.1.2.2.2 hH.2 x715 80 (by omega) hq3 sz) dX12_come_11 rfl rfl (by decide) rfl hl.1 (Nat.le_of_ble_eq_true rfl) (by decide) rfl (fun σ718 H locs lσ718 pz717 hH => ?_)
    obtain ⟨fz717, pz717⟩ := pz717
    have hle := hle.tr lσ718
    have hfr := hfr.tr fz717 (by decide) (by decide)
    obtain ⟨z719, ez719⟩ : ∃ z : Int32, z = x715 + Int32.ofInt 1 := ⟨_, rfl⟩
    have hz719 := i_add ez719 (by rw [show (Int32.ofInt 1).toInt = 1 from rfl]; omega) (by rw [show (Int32.ofInt 1).toInt = 1 from rfl]; omega)
    rw [show (Int32.ofInt 1).toInt = 1 from rfl] at hz719
    refine lv_iinc (lv' := [(3, .int z719), (2, .int q), (1, .int k), (0, .ref h0)]) (k := 0) (v := z719) hx hb dX12_come_14 hl rfl ez719.symm (by decide) rfl (fun ls hl => ?_)
    refine lv_goto (tgt := 2) hx hb dX12_come_17 rfl ?_
    have hl : lv_has ls 4 [(3, .int z719), (2, .int q), (1, .int k), (0, .ref h0)] := lv_sub hl [0, 1, 2, 3] rfl
    exact ih (z719) σ718 ls H locs (by (try dsimp only); omega) hl ⟨hle, hfr, by (try dsimp only); omega⟩ hH
theorem dX12_allCome_0 : decode cX12_allCome 0 = .ok (.aload_n 0, 1) := by decide +kernel
theorem dX12_allCome_1 : decode cX12_allCome 1 = .ok (.aload_n 0, 1) := by decide +kernel
theorem dX12_allCome_2 : decode cX12_allCome 2 = .ok (.getfield 271, 3) := by decide +kernel
theorem dX12_allCome_5 : decode cX12_allCome 5 = .ok (.iconst 1, 1) := by decide +kernel
theorem dX12_allCome_6 : decode cX12_allCome 6 = .ok (.invokevirtual 281, 3) := by decide +kernel
theorem dX12_allCome_9 : decode cX12_allCome 9 = .ok (.return_, 1) := by decide +kernel
set_option maxRecDepth 100000 in
set_option maxHeartbeats 4000000 in
theorem c_X12_allCome (l : Launch) (D : va_G) (t : Nat → ClassId) (h0 : Nat) (L : Nat → Nat) (σ : HS) (hO : OK ph τ0 σ) (hM : MdI h0 L σ) (hR : RF L σ) (sz : Nat) : HMv ph τ0 l D t yX12_allCome cX12_allCome 1 ({ frames := 3, cells := 0, slots := 0, locals := 100 }) σ sz [.ref h0] 0 0 (fun σ' => MdI h0 L σ' ∧ Fr h0 L [16] [1, 2, 3, 4, 5, 6, 7, 8, 9] σ σ' ∧ ((sI σ' h0 16).toInt = 0)) := by
  refine h_go hO (by decide) (Nat.le_of_ble_eq_true rfl) ?_
  intro p e s m below meth c ls A hF hr hlk hAe hH0 hA hl
  unfold hB
  rw [hAe]
  clear hAe
  have hF : FX p m c cX12_allCome 1 s _ RX12 D t := hF
  have hx := hF.1.1
  have hb := hF.1.2.1
  have hH : MT D t A s.heap h0 L σ s.heap [] := ⟨hH0, hM⟩
  have hle : HLe σ σ := HLe.rf
  have hfr : Fr h0 L [16] [1, 2, 3, 4, 5, 6, 7, 8, 9] σ σ := Fr.rf
  have k_0 : (0 : Int32).toInt = 0 := rfl
  have k_1 : (1 : Int32).toInt = 1 := rfl
  have hl : lv_has ls 1 [(0, .ref h0)] := hl
  have rf_16 : (0 : Int) ≤ (sI σ h0 16).toInt ∧ (sI σ h0 16).toInt ≤ 8 := m_fld hH 16 (by decide) rfl
  refine lv_aload_n hx hb dX12_allCome_0 rfl (lv_at hl 0 rfl) ?_
  refine lv_aload_n hx hb dX12_allCome_1 rfl (lv_at hl 0 rfl) ?_
  refine m_getI hF hH fk_X12_271 dX12_allCome_2 0 8 rfl rfl (fun z721 ez721 vz721 => ?_)
  have wz721 := i_eq ez721
  refine lv_iconst (v := 1) hx hb dX12_allCome_5 (by decide) ?_
  refine m_cVv (As := [.int z721, .int 1]) (rest := []) hF hH hA mv_X12_281 (fun sz => c_X12_come l D t h0 L _ hH.1.2.2.2 hH.2 z721 1 hR (by omega) sz) dX12_allCome_6 rfl rfl (by decide) rfl hl.1 (Nat.le_of_ble_eq_true rfl) (by decide) rfl (fun σ723 H locs lσ723 pz722 hH => ?_)
  obtain ⟨fz722, pz722⟩ := pz722
  have hle := hle.tr lσ723
  have hfr := hfr.tr fz722 (by decide) (by decide)
  exact h_retv hF hr hlk dX12_allCome_9 hH.1 hle ⟨hH.2, hfr, pz722⟩
theorem dX12_done_0 : decode cX12_done 0 = .ok (.aload_n 0, 1) := by decide +kernel
theorem dX12_done_1 : decode cX12_done 1 = .ok (.aload_n 0, 1) := by decide +kernel
theorem dX12_done_2 : decode cX12_done 2 = .ok (.getfield 271, 3) := by decide +kernel
theorem dX12_done_5 : decode cX12_done 5 = .ok (.iconst 0, 1) := by decide +kernel
theorem dX12_done_6 : decode cX12_done 6 = .ok (.invokevirtual 274, 3) := by decide +kernel
theorem dX12_done_9 : decode cX12_done 9 = .ok (.aload_n 0, 1) := by decide +kernel
theorem dX12_done_10 : decode cX12_done 10 = .ok (.dup, 1) := by decide +kernel
theorem dX12_done_11 : decode cX12_done 11 = .ok (.getfield 271, 3) := by decide +kernel
theorem dX12_done_14 : decode cX12_done 14 = .ok (.iconst 1, 1) := by decide +kernel
theorem dX12_done_15 : decode cX12_done 15 = .ok (.iadd, 1) := by decide +kernel
theorem dX12_done_16 : decode cX12_done 16 = .ok (.putfield 271, 3) := by decide +kernel
theorem dX12_done_19 : decode cX12_done 19 = .ok (.aload_n 0, 1) := by decide +kernel
theorem dX12_done_20 : decode cX12_done 20 = .ok (.getfield 271, 3) := by decide +kernel
theorem dX12_done_23 : decode cX12_done 23 = .ok (.bipush 8, 2) := by decide +kernel
theorem dX12_done_25 : decode cX12_done 25 = .ok (.if_icmp .ne 7, 3) := by decide +kernel
theorem dX12_done_28 : decode cX12_done 28 = .ok (.aload_n 0, 1) := by decide +kernel
theorem dX12_done_29 : decode cX12_done 29 = .ok (.invokevirtual 278, 3) := by decide +kernel
theorem dX12_done_32 : decode cX12_done 32 = .ok (.return_, 1) := by decide +kernel
set_option maxRecDepth 100000 in
set_option maxHeartbeats 4000000 in
theorem c_X12_done (l : Launch) (D : va_G) (t : Nat → ClassId) (h0 : Nat) (L : Nat → Nat) (σ : HS) (hO : OK ph τ0 σ) (hM : MdI h0 L σ) (hR : RF L σ) (hz : (sI σ h0 16).toInt ≤ 7) (sz : Nat) : HMv ph τ0 l D t yX12_done cX12_done 1 ({ frames := 4, cells := 0, slots := 0, locals := 130 }) σ sz [.ref h0] 0 0 (fun σ' => MdI h0 L σ' ∧ Fr h0 L [16] [1, 2, 3, 4, 5, 6, 7, 8, 9] σ σ' ∧ ((sI σ' h0 16).toInt ≤ 7)) := by
  refine h_go hO (by decide) (Nat.le_of_ble_eq_true rfl) ?_
  intro p e s m below meth c ls A hF hr hlk hAe hH0 hA hl
  unfold hB
  rw [hAe]
  clear hAe
  have hF : FX p m c cX12_done 1 s _ RX12 D t := hF
  have hx := hF.1.1
  have hb := hF.1.2.1
  have hH : MT D t A s.heap h0 L σ s.heap [] := ⟨hH0, hM⟩
  have hle : HLe σ σ := HLe.rf
  have hfr : Fr h0 L [16] [1, 2, 3, 4, 5, 6, 7, 8, 9] σ σ := Fr.rf
  have k_0 : (0 : Int32).toInt = 0 := rfl
  have k_1 : (1 : Int32).toInt = 1 := rfl
  have k_8 : (8 : Int32).toInt = 8 := rfl
  have hl : lv_has ls 1 [(0, .ref h0)] := hl
  have rf_16 : (0 : Int) ≤ (sI σ h0 16).toInt ∧ (sI σ h0 16).toInt ≤ 8 := m_fld hH 16 (by decide) rfl
  have hq3 := hR (sI σ h0 16).toInt.toNat (by omega)
  refine lv_aload_n hx hb dX12_done_0 rfl (lv_at hl 0 rfl) ?_
  refine lv_aload_n hx hb dX12_done_1 rfl (lv_at hl 0 rfl) ?_
  refine m_getI hF hH fk_X12_271 dX12_done_2 0 8 rfl rfl (fun z724 ez724 vz724 => ?_)
  have wz724 := i_eq ez724
  have hq4 : (sI σ (L 22) z724.toInt.toNat).toInt + (sI σ (L 23) z724.toInt.toNat).toInt ≤ 4096 := by rw [ez724]; exact hq3
  refine lv_iconst (v := 0) hx hb dX12_done_5 (by decide) ?_
  refine m_cVv (As := [.int z724, .int 0]) (rest := []) hF hH hA mv_X12_274 (fun sz => c_X12_apply l D t h0 L _ hH.1.2.2.2 hH.2 z724 0 (by omega) hq4 sz) dX12_done_6 rfl rfl (by decide) rfl hl.1 (Nat.le_of_ble_eq_true rfl) (by decide) rfl (fun σ726 H locs lσ726 pz725 hH => ?_)
  obtain ⟨fz725, pz725⟩ := pz725
  have hle := hle.tr lσ726
  have hfr := hfr.tr fz725 (by decide) (by decide)
  have hR2 : RF L σ726 := hR.fr hfr (by decide) (by decide)
  have hrc : sI σ726 h0 16 = sI σ h0 16 := (fz725.1 16 (by decide)).1
  have hrc := i_eq hrc
  have kf_16 : sI σ726 h0 16 = sI σ726 h0 16 := rfl
  refine lv_aload_n hx hb dX12_done_9 rfl (lv_at hl 0 rfl) ?_
  refine lv_dup hx hb dX12_done_10 rfl ?_
  refine m_getI hF hH fk_X12_271 dX12_done_11 0 8 rfl rfl (fun z727 ez727 vz727 => ?_)
  have wz727 := i_eq ez727
  refine lv_iconst (v := 1) hx hb dX12_done_14 (by decide) ?_
  refine lv_iadd hx hb dX12_done_15 ?_
  refine lv_topi (fun z728 ez728 => ?_)
  try have hz728 := i_add ez728 (by omega) (by omega)
  have hMp := hH.2
  refine m_putI hF hH fk_X12_271 dX12_done_16 0 8 rfl rfl (by omega) rfl rfl rfl (fun σ729 H locs eσ729 hH => ?_)
  have kf_16 : (sI σ729 h0 16).toInt = z728.toInt := by rw [eσ729]; exact congrArg Int32.toInt u2_same
  have hle := hle.tr (show HLe σ726 σ729 by rw [eσ729]; exact HLe.uI)
  have hfr := hfr.fI hMp eσ729 (by decide) rfl
  refine lv_aload_n hx hb dX12_done_19 rfl (lv_at hl 0 rfl) ?_
  refine m_getI hF hH fk_X12_271 dX12_done_20 0 8 rfl rfl (fun z730 ez730 vz730 => ?_)
  have wz730 := i_eq ez730
  refine lv_bipush (v := 8) hx hb dX12_done_23 (by decide) ?_
  refine lv_icmp_ne (tgt := 32) hx hb dX12_done_25 rfl (fun h731 => ?_) (fun h731 => ?_)
  · have ch731 := i_ne h731
    exact h_retv hF hr hlk dX12_done_32 hH.1 hle ⟨hH.2, hfr, by (try dsimp only); omega⟩
  · have ch731 := i_eq h731
    have hR3 : RF L σ729 := hR.fr hfr (by decide) (by decide)
    refine lv_aload_n hx hb dX12_done_28 rfl (lv_at hl 0 rfl) ?_
    refine m_cVv (As := []) (rest := []) hF hH hA mv_X12_278 (fun sz => c_X12_allCome l D t h0 L _ hH.1.2.2.2 hH.2  hR3 sz) dX12_done_29 rfl rfl (by decide) rfl hl.1 (Nat.le_of_ble_eq_true rfl) (by decide) rfl (fun σ733 H locs lσ733 pz732 hH => ?_)
    obtain ⟨fz732, pz732⟩ := pz732
    have hle := hle.tr lσ733
    have hfr := hfr.tr fz732 (by decide) (by decide)
    exact h_retv hF hr hlk dX12_done_32 hH.1 hle ⟨hH.2, hfr, by (try dsimp only); omega⟩

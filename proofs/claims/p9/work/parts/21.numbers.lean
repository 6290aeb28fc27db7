theorem dX12_number_0 : decode cX12_number 0 = .ok (.lconst 0, 1) := by decide +kernel
theorem dX12_number_1 : decode cX12_number 1 = .ok (.lstore_n 3, 1) := by decide +kernel
theorem dX12_number_2 : decode cX12_number 2 = .ok (.iload_n 2, 1) := by decide +kernel
theorem dX12_number_3 : decode cX12_number 3 = .ok (.iconst 1, 1) := by decide +kernel
theorem dX12_number_4 : decode cX12_number 4 = .ok (.isub, 1) := by decide +kernel
theorem dX12_number_5 : decode cX12_number 5 = .ok (.istore 5, 2) := by decide +kernel
theorem dX12_number_7 : decode cX12_number 7 = .ok (.iload 5, 2) := by decide +kernel
theorem dX12_number_9 : decode cX12_number 9 = .ok (.ifCond .lt 34, 3) := by decide +kernel
theorem dX12_number_12 : decode cX12_number 12 = .ok (.lload_n 3, 1) := by decide +kernel
theorem dX12_number_13 : decode cX12_number 13 = .ok (.bipush 8, 2) := by decide +kernel
theorem dX12_number_15 : decode cX12_number 15 = .ok (.lshl, 1) := by decide +kernel
theorem dX12_number_16 : decode cX12_number 16 = .ok (.aload_n 0, 1) := by decide +kernel
theorem dX12_number_17 : decode cX12_number 17 = .ok (.getfield 356, 3) := by decide +kernel
theorem dX12_number_20 : decode cX12_number 20 = .ok (.aload_n 0, 1) := by decide +kernel
theorem dX12_number_21 : decode cX12_number 21 = .ok (.getfield 359, 3) := by decide +kernel
theorem dX12_number_24 : decode cX12_number 24 = .ok (.iload_n 1, 1) := by decide +kernel
theorem dX12_number_25 : decode cX12_number 25 = .ok (.iadd, 1) := by decide +kernel
theorem dX12_number_26 : decode cX12_number 26 = .ok (.iload 5, 2) := by decide +kernel
theorem dX12_number_28 : decode cX12_number 28 = .ok (.iadd, 1) := by decide +kernel
theorem dX12_number_29 : decode cX12_number 29 = .ok (.baload, 1) := by decide +kernel
theorem dX12_number_30 : decode cX12_number 30 = .ok (.i2l, 1) := by decide +kernel
theorem dX12_number_31 : decode cX12_number 31 = .ok (.ldc2_w 362, 3) := by decide +kernel
theorem dX12_number_34 : decode cX12_number 34 = .ok (.land, 1) := by decide +kernel
theorem dX12_number_35 : decode cX12_number 35 = .ok (.lor, 1) := by decide +kernel
theorem dX12_number_36 : decode cX12_number 36 = .ok (.lstore_n 3, 1) := by decide +kernel
theorem dX12_number_37 : decode cX12_number 37 = .ok (.iinc 5 (-1), 3) := by decide +kernel
theorem dX12_number_40 : decode cX12_number 40 = .ok (.goto (-33), 3) := by decide +kernel
theorem dX12_number_43 : decode cX12_number 43 = .ok (.lload_n 3, 1) := by decide +kernel
theorem dX12_number_44 : decode cX12_number 44 = .ok (.lreturn, 1) := by decide +kernel
set_option maxRecDepth 100000 in
set_option maxHeartbeats 4000000 in
theorem c_X12_number (l : Launch) (D : va_G) (t : Nat → ClassId) (h0 : Nat) (L : Nat → Nat) (σ : HS) (hO : OK ph τ0 σ) (hM : MdI h0 L σ) (a n : Int32) (hz : InM h0 L σ (a.toInt + n.toInt)) (hy : 0 ≤ a.toInt ∧ 0 ≤ n.toInt ∧ n.toInt ≤ 8 ∧ a.toInt ≤ 100000) (sz : Nat) : HMl ph τ0 l D t yX12_number cX12_number 6 (some .long) ({ frames := 0, cells := 0, slots := 0, locals := 0 }) σ sz [.ref h0, .int a, .int n] 0 0 (fun r σ' => MdI h0 L σ' ∧ σ' = σ ∧ (r = lN (NUM h0 L σ a.toInt n.toInt.toNat))) := by
  refine h_go hO (by decide) (Nat.le_of_ble_eq_true rfl) ?_
  intro p e s m below meth c ls A hF hr hlk hAe hH0 hA hl
  unfold hB
  rw [hAe]
  clear hAe
  have hF : FX p m c cX12_number 6 s _ RX12 D t := hF
  have hx := hF.1.1
  have hb := hF.1.2.1
  have hH : MT D t A s.heap h0 L σ s.heap [] := ⟨hH0, hM⟩
  have hle : HLe σ σ := HLe.rf
  have kl_0 : (0 : Int64).toInt = 0 := rfl
  have kl_255 : (255 : Int64).toInt = 255 := rfl
  have k_0 : (0 : Int32).toInt = 0 := rfl
  have k_1 : (1 : Int32).toInt = 1 := rfl
  have k_8 : (8 : Int32).toInt = 8 := rfl
  have rg_1 := i_range a
  have rg_2 := i_range n
  have hl : lv_has ls 6 [(0, .ref h0), (1, .int a), (2, .int n)] := hl
  have hbs := m_fld hH 86 (by decide) rfl
  have hbs : (0 : Int) ≤ (sI σ h0 86).toInt ∧ (sI σ h0 86).toInt ≤ 72600 := hbs
  rcases hz with ⟨hin, hM2⟩ | ⟨hin, hM2⟩
  · have hrow : InRow h0 L σ = sI σ (L 29) := InRow_1 hin
    refine lv_lconst (v := 0) hx hb dX12_number_0 (by decide) ?_
    refine lv_lstore_n (lv' := [(3, .long 0), (0, .ref h0), (1, .int a), (2, .int n)]) hx hb dX12_number_1 rfl hl (by decide) rfl (fun ls hl => ?_)
    refine lv_iload_n hx hb dX12_number_2 rfl (lv_at hl 3 rfl) ?_
    refine lv_iconst (v := 1) hx hb dX12_number_3 (by decide) ?_
    refine lv_isub hx hb dX12_number_4 ?_
    refine lv_topi (fun z76 ez76 => ?_)
    try have hz76 := i_sub ez76 (by omega) (by omega)
    refine lv_istore (lv' := [(5, .int z76), (3, .long 0), (0, .ref h0), (1, .int a), (2, .int n)]) hx hb dX12_number_5 hl (by decide) rfl (fun ls hl => ?_)
    have hl : lv_has ls 6 [(5, .int z76), (3, .long 0), (2, .int n), (1, .int a), (0, .ref h0)] := lv_sub hl [0, 1, 4, 3, 2] rfl
    have hv0 : (0 : Int64) = lN (NumN (InRow h0 L σ) ((sI σ h0 86).toInt + a.toInt + z76.toInt + 1).toNat (n.toInt - 1 - z76.toInt).toNat) := by rw [show (n.toInt - 1 - z76.toInt).toNat = 0 by omega]; rfl
    refine m_loop (β := Int32 × Int64) (L0 := fun x => [(5, .int x.1), (3, .long x.2), (2, .int n), (1, .int a), (0, .ref h0)]) (I := fun x σ2 => σ = σ2 ∧ ((-1 ≤ x.1.toInt ∧ x.1.toInt < n.toInt) ∧ x.2 = lN (NumN (InRow h0 L σ) ((sI σ h0 86).toInt + a.toInt + x.1.toInt + 1).toNat (n.toInt - 1 - x.1.toInt).toNat))) (fun x σ2 => (1 + x.1.toInt).toNat) (z76, 0) hl ⟨rfl, ⟨by (try dsimp only); omega, hv0⟩⟩ hH (fun x σL ls H locs hl hI hH ih => ?_)
    obtain ⟨x77, x78⟩ := x
    obtain ⟨hsL, hI⟩ := hI
    subst hsL
    have hl : lv_has ls 6 [(5, .int x77), (3, .long x78), (2, .int n), (1, .int a), (0, .ref h0)] := hl
    have hI : (-1 ≤ x77.toInt ∧ x77.toInt < n.toInt) ∧ x78 = lN (NumN (InRow h0 L σ) ((sI σ h0 86).toInt + a.toInt + x77.toInt + 1).toNat (n.toInt - 1 - x77.toInt).toNat) := hI
    have rg_x77 := i_range x77
    refine lv_iload hx hb dX12_number_7 (lv_at hl 0 rfl) ?_
    refine lv_if_lt (tgt := 43) hx hb dX12_number_9 rfl (fun h79 => ?_) (fun h79 => ?_)
    · have ch79 := i_lt h79
      refine lv_lload_n hx hb dX12_number_43 rfl (lv_at hl 1 rfl) ?_
      have hv2 : x78 = lN (NUM h0 L σ a.toInt n.toInt.toNat) := by unfold NUM; rw [hI.2, show ((sI σ h0 86).toInt + a.toInt + x77.toInt + 1) = (sI σ h0 86).toInt + a.toInt by omega, show (n.toInt - 1 - x77.toInt).toNat = n.toInt.toNat by omega]
      exact h_retl hF hr hlk dX12_number_44 hH.1 hle ⟨hH.2, rfl, hv2⟩
    · have ch79 := i_nlt h79
      refine lv_lload_n hx hb dX12_number_12 rfl (lv_at hl 1 rfl) ?_
      refine lv_bipush (v := 8) hx hb dX12_number_13 (by decide) ?_
      refine lv_lshl hx hb dX12_number_15 rfl ?_
      refine lv_topl (fun z80 ez80 => ?_)
      refine lv_aload_n hx hb dX12_number_16 rfl (lv_at hl 4 rfl) ?_
      refine m_getIn 29 hF hH fk_X12_356 dX12_number_17 hin ?_
      refine lv_aload_n hx hb dX12_number_20 rfl (lv_at hl 4 rfl) ?_
      refine m_getI hF hH fk_X12_359 dX12_number_21 0 72600 rfl rfl (fun z81 ez81 vz81 => ?_)
      have wz81 := i_eq ez81
      refine lv_iload_n hx hb dX12_number_24 rfl (lv_at hl 3 rfl) ?_
      refine lv_iadd hx hb dX12_number_25 ?_
      refine lv_topi (fun z82 ez82 => ?_)
      try have hz82 := i_add ez82 (by omega) (by omega)
      refine lv_iload hx hb dX12_number_26 (lv_at hl 0 rfl) ?_
      refine lv_iadd hx hb dX12_number_28 ?_
      refine lv_topi (fun z83 ez83 => ?_)
      try have hz83 := i_add ez83 (by omega) (by omega)
      refine m_bald 29 72600 hF hH dX12_number_29 (by decide) rfl rfl (-128) 127 rfl rfl (by omega) (by omega) (fun z84 ez84 vz84 => ?_)
      have wz84 := i_eq ez84
      refine lv_i2l hx hb dX12_number_30 rfl ?_
      refine lv_topl (fun z85 ez85 => ?_)
      have hz85 := i_tol ez85
      refine lv_ldc2 (v := 255) hx hb hF.1.2.2.2.1 (hF.1.2.2.2.2 _ (wc_47 13 rfl)) dX12_number_31 ?_
      refine lv_land hx hb dX12_number_34 ?_
      refine lv_topl (fun z86 ez86 => ?_)
      try have hz86 := l_and ez86 (by omega)
      refine lv_lor hx hb dX12_number_35 ?_
      refine lv_topl (fun z87 ez87 => ?_)
      refine lv_lstore_n (lv' := [(3, .long z87), (5, .int x77), (2, .int n), (1, .int a), (0, .ref h0)]) hx hb dX12_number_36 rfl hl (by decide) rfl (fun ls hl => ?_)
      obtain ⟨z88, ez88⟩ : ∃ z : Int32, z = x77 + Int32.ofInt (-1) := ⟨_, rfl⟩
      have hz88 := i_add ez88 (by rw [show (Int32.ofInt (-1)).toInt = (-1) from rfl]; omega) (by rw [show (Int32.ofInt (-1)).toInt = (-1) from rfl]; omega)
      rw [show (Int32.ofInt (-1)).toInt = (-1) from rfl] at hz88
      refine lv_iinc (lv' := [(5, .int z88), (3, .long z87), (2, .int n), (1, .int a), (0, .ref h0)]) (k := 1) (v := z88) hx hb dX12_number_37 hl rfl ez88.symm (by decide) rfl (fun ls hl => ?_)
      refine lv_goto (tgt := 7) hx hb dX12_number_40 rfl ?_
      have hs1 : ((sI σ h0 86).toInt + a.toInt + x77.toInt + 1).toNat = z83.toInt.toNat + 1 := by omega
      have hs2 : ((sI σ h0 86).toInt + a.toInt + z88.toInt + 1).toNat = z83.toInt.toNat := by omega
      have hs3 : (n.toInt - 1 - z88.toInt).toNat = (n.toInt - 1 - x77.toInt).toNat + 1 := by omega
      have hst := num_step (f := InRow h0 L σ) (s := z83.toInt.toNat) (c := (n.toInt - 1 - x77.toInt).toNat) (z := z84) (by omega) (by rw [hrow]; exact ez84)
      have hv1 : z87 = lN (NumN (InRow h0 L σ) ((sI σ h0 86).toInt + a.toInt + z88.toInt + 1).toNat (n.toInt - 1 - z88.toInt).toNat) := by rw [hs2, hs3, ← hst, ← hs1, ← hI.2, ez87, ez80, ez86, ez85]
      have hl : lv_has ls 6 [(5, .int z88), (3, .long z87), (2, .int n), (1, .int a), (0, .ref h0)] := lv_sub hl [0, 1, 2, 3, 4] rfl
      exact ih (z88, z87) σ ls H locs (by (try dsimp only); omega) hl ⟨rfl, ⟨by (try dsimp only); omega, hv1⟩⟩ hH
  · have hrow : InRow h0 L σ = sI σ (L 75) := InRow_2 hM hin
    refine lv_lconst (v := 0) hx hb dX12_number_0 (by decide) ?_
    refine lv_lstore_n (lv' := [(3, .long 0), (0, .ref h0), (1, .int a), (2, .int n)]) hx hb dX12_number_1 rfl hl (by decide) rfl (fun ls hl => ?_)
    refine lv_iload_n hx hb dX12_number_2 rfl (lv_at hl 3 rfl) ?_
    refine lv_iconst (v := 1) hx hb dX12_number_3 (by decide) ?_
    refine lv_isub hx hb dX12_number_4 ?_
    refine lv_topi (fun z89 ez89 => ?_)
    try have hz89 := i_sub ez89 (by omega) (by omega)
    refine lv_istore (lv' := [(5, .int z89), (3, .long 0), (0, .ref h0), (1, .int a), (2, .int n)]) hx hb dX12_number_5 hl (by decide) rfl (fun ls hl => ?_)
    have hl : lv_has ls 6 [(5, .int z89), (3, .long 0), (2, .int n), (1, .int a), (0, .ref h0)] := lv_sub hl [0, 1, 4, 3, 2] rfl
    have hv0 : (0 : Int64) = lN (NumN (InRow h0 L σ) ((sI σ h0 86).toInt + a.toInt + z89.toInt + 1).toNat (n.toInt - 1 - z89.toInt).toNat) := by rw [show (n.toInt - 1 - z89.toInt).toNat = 0 by omega]; rfl
    refine m_loop (β := Int32 × Int64) (L0 := fun x => [(5, .int x.1), (3, .long x.2), (2, .int n), (1, .int a), (0, .ref h0)]) (I := fun x σ2 => σ = σ2 ∧ ((-1 ≤ x.1.toInt ∧ x.1.toInt < n.toInt) ∧ x.2 = lN (NumN (InRow h0 L σ) ((sI σ h0 86).toInt + a.toInt + x.1.toInt + 1).toNat (n.toInt - 1 - x.1.toInt).toNat))) (fun x σ2 => (1 + x.1.toInt).toNat) (z89, 0) hl ⟨rfl, ⟨by (try dsimp only); omega, hv0⟩⟩ hH (fun x σL ls H locs hl hI hH ih => ?_)
    obtain ⟨x90, x91⟩ := x
    obtain ⟨hsL, hI⟩ := hI
    subst hsL
    have hl : lv_has ls 6 [(5, .int x90), (3, .long x91), (2, .int n), (1, .int a), (0, .ref h0)] := hl
    have hI : (-1 ≤ x90.toInt ∧ x90.toInt < n.toInt) ∧ x91 = lN (NumN (InRow h0 L σ) ((sI σ h0 86).toInt + a.toInt + x90.toInt + 1).toNat (n.toInt - 1 - x90.toInt).toNat) := hI
    have rg_x90 := i_range x90
    refine lv_iload hx hb dX12_number_7 (lv_at hl 0 rfl) ?_
    refine lv_if_lt (tgt := 43) hx hb dX12_number_9 rfl (fun h92 => ?_) (fun h92 => ?_)
    · have ch92 := i_lt h92
      refine lv_lload_n hx hb dX12_number_43 rfl (lv_at hl 1 rfl) ?_
      have hv2 : x91 = lN (NUM h0 L σ a.toInt n.toInt.toNat) := by unfold NUM; rw [hI.2, show ((sI σ h0 86).toInt + a.toInt + x90.toInt + 1) = (sI σ h0 86).toInt + a.toInt by omega, show (n.toInt - 1 - x90.toInt).toNat = n.toInt.toNat by omega]
      exact h_retl hF hr hlk dX12_number_44 hH.1 hle ⟨hH.2, rfl, hv2⟩
    · have ch92 := i_nlt h92
      refine lv_lload_n hx hb dX12_number_12 rfl (lv_at hl 1 rfl) ?_
      refine lv_bipush (v := 8) hx hb dX12_number_13 (by decide) ?_
      refine lv_lshl hx hb dX12_number_15 rfl ?_
      refine lv_topl (fun z93 ez93 => ?_)
      refine lv_aload_n hx hb dX12_number_16 rfl (lv_at hl 4 rfl) ?_
      refine m_getIn 75 hF hH fk_X12_356 dX12_number_17 hin ?_
      refine lv_aload_n hx hb dX12_number_20 rfl (lv_at hl 4 rfl) ?_
      refine m_getI hF hH fk_X12_359 dX12_number_21 0 72600 rfl rfl (fun z94 ez94 vz94 => ?_)
      have wz94 := i_eq ez94
      refine lv_iload_n hx hb dX12_number_24 rfl (lv_at hl 3 rfl) ?_
      refine lv_iadd hx hb dX12_number_25 ?_
      refine lv_topi (fun z95 ez95 => ?_)
      try have hz95 := i_add ez95 (by omega) (by omega)
      refine lv_iload hx hb dX12_number_26 (lv_at hl 0 rfl) ?_
      refine lv_iadd hx hb dX12_number_28 ?_
      refine lv_topi (fun z96 ez96 => ?_)
      try have hz96 := i_add ez96 (by omega) (by omega)
      refine m_bald 75 64000 hF hH dX12_number_29 (by decide) rfl rfl (-128) 127 rfl rfl (by omega) (by omega) (fun z97 ez97 vz97 => ?_)
      have wz97 := i_eq ez97
      refine lv_i2l hx hb dX12_number_30 rfl ?_
      refine lv_topl (fun z98 ez98 => ?_)
      have hz98 := i_tol ez98
      refine lv_ldc2 (v := 255) hx hb hF.1.2.2.2.1 (hF.1.2.2.2.2 _ (wc_47 13 rfl)) dX12_number_31 ?_
      refine lv_land hx hb dX12_number_34 ?_
      refine lv_topl (fun z99 ez99 => ?_)
      try have hz99 := l_and ez99 (by omega)
      refine lv_lor hx hb dX12_number_35 ?_
      refine lv_topl (fun z100 ez100 => ?_)
      refine lv_lstore_n (lv' := [(3, .long z100), (5, .int x90), (2, .int n), (1, .int a), (0, .ref h0)]) hx hb dX12_number_36 rfl hl (by decide) rfl (fun ls hl => ?_)
      obtain ⟨z101, ez101⟩ : ∃ z : Int32, z = x90 + Int32.ofInt (-1) := ⟨_, rfl⟩
      have hz101 := i_add ez101 (by rw [show (Int32.ofInt (-1)).toInt = (-1) from rfl]; omega) (by rw [show (Int32.ofInt (-1)).toInt = (-1) from rfl]; omega)
      rw [show (Int32.ofInt (-1)).toInt = (-1) from rfl] at hz101
      refine lv_iinc (lv' := [(5, .int z101), (3, .long z100), (2, .int n), (1, .int a), (0, .ref h0)]) (k := 1) (v := z101) hx hb dX12_number_37 hl rfl ez101.symm (by decide) rfl (fun ls hl => ?_)
      refine lv_goto (tgt := 7) hx hb dX12_number_40 rfl ?_
      have hs1 : ((sI σ h0 86).toInt + a.toInt + x90.toInt + 1).toNat = z96.toInt.toNat + 1 := by omega
      have hs2 : ((sI σ h0 86).toInt + a.toInt + z101.toInt + 1).toNat = z96.toInt.toNat := by omega
      have hs3 : (n.toInt - 1 - z101.toInt).toNat = (n.toInt - 1 - x90.toInt).toNat + 1 := by omega
      have hst := num_step (f := InRow h0 L σ) (s := z96.toInt.toNat) (c := (n.toInt - 1 - x90.toInt).toNat) (z := z97) (by omega) (by rw [hrow]; exact ez97)
      have hv1 : z100 = lN (NumN (InRow h0 L σ) ((sI σ h0 86).toInt + a.toInt + z101.toInt + 1).toNat (n.toInt - 1 - z101.toInt).toNat) := by rw [hs2, hs3, ← hst, ← hs1, ← hI.2, ez100, ez93, ez99, ez98]
      have hl : lv_has ls 6 [(5, .int z101), (3, .long z100), (2, .int n), (1, .int a), (0, .ref h0)] := lv_sub hl [0, 1, 2, 3, 4] rfl
      exact ih (z101, z100) σ ls H locs (by (try dsimp only); omega) hl ⟨rfl, ⟨by (try dsimp only); omega, hv1⟩⟩ hH
theorem dX12_number1_0 : decode cX12_number1 0 = .ok (.aload_n 0, 1) := by decide +kernel
theorem dX12_number1_1 : decode cX12_number1 1 = .ok (.getfield 356, 3) := by decide +kernel
theorem dX12_number1_4 : decode cX12_number1 4 = .ok (.aload_n 0, 1) := by decide +kernel
theorem dX12_number1_5 : decode cX12_number1 5 = .ok (.getfield 359, 3) := by decide +kernel
theorem dX12_number1_8 : decode cX12_number1 8 = .ok (.iload_n 1, 1) := by decide +kernel
theorem dX12_number1_9 : decode cX12_number1 9 = .ok (.iadd, 1) := by decide +kernel
theorem dX12_number1_10 : decode cX12_number1 10 = .ok (.baload, 1) := by decide +kernel
theorem dX12_number1_11 : decode cX12_number1 11 = .ok (.sipush 255, 3) := by decide +kernel
theorem dX12_number1_14 : decode cX12_number1 14 = .ok (.iand, 1) := by decide +kernel
theorem dX12_number1_15 : decode cX12_number1 15 = .ok (.ireturn, 1) := by decide +kernel
set_option maxRecDepth 100000 in
set_option maxHeartbeats 4000000 in
theorem c_X12_number1 (l : Launch) (D : va_G) (t : Nat → ClassId) (h0 : Nat) (L : Nat → Nat) (σ : HS) (hO : OK ph τ0 σ) (hM : MdI h0 L σ) (a : Int32) (hz : InM h0 L σ (a.toInt + 1)) (hy : 0 ≤ a.toInt ∧ a.toInt ≤ 100000) (sz : Nat) : HMi ph τ0 l D t yX12_number1 cX12_number1 2 (some .int) ({ frames := 0, cells := 0, slots := 0, locals := 0 }) σ sz [.ref h0, .int a] 0 0 (fun r σ' => MdI h0 L σ' ∧ σ' = σ ∧ (0 ≤ r.toInt ∧ r.toInt ≤ 255)) := by
  refine h_go hO (by decide) (Nat.le_of_ble_eq_true rfl) ?_
  intro p e s m below meth c ls A hF hr hlk hAe hH0 hA hl
  unfold hB
  rw [hAe]
  clear hAe
  have hF : FX p m c cX12_number1 2 s _ RX12 D t := hF
  have hx := hF.1.1
  have hb := hF.1.2.1
  have hH : MT D t A s.heap h0 L σ s.heap [] := ⟨hH0, hM⟩
  have hle : HLe σ σ := HLe.rf
  have k_0 : (0 : Int32).toInt = 0 := rfl
  have k_255 : (255 : Int32).toInt = 255 := rfl
  have rg_1 := i_range a
  have hl : lv_has ls 2 [(0, .ref h0), (1, .int a)] := hl
  have hand : ∀ x : Int32, 0 ≤ (x &&& 255).toInt ∧ (x &&& 255).toInt ≤ 255 := fun x => by obtain ⟨j, hj, e⟩ := pk_andE x (m := 255) 8 (by decide); rw [e, nI_toInt (by omega)]; omega
  rcases hz with ⟨hin, hM2⟩ | ⟨hin, hM2⟩
  · refine lv_aload_n hx hb dX12_number1_0 rfl (lv_at hl 0 rfl) ?_
    refine m_getIn 29 hF hH fk_X12_356 dX12_number1_1 hin ?_
    refine lv_aload_n hx hb dX12_number1_4 rfl (lv_at hl 0 rfl) ?_
    refine m_getI hF hH fk_X12_359 dX12_number1_5 0 72600 rfl rfl (fun z102 ez102 vz102 => ?_)
    have wz102 := i_eq ez102
    refine lv_iload_n hx hb dX12_number1_8 rfl (lv_at hl 1 rfl) ?_
    refine lv_iadd hx hb dX12_number1_9 ?_
    refine lv_topi (fun z103 ez103 => ?_)
    try have hz103 := i_add ez103 (by omega) (by omega)
    refine m_bald 29 72600 hF hH dX12_number1_10 (by decide) rfl rfl (-128) 127 rfl rfl (by omega) (by omega) (fun z104 ez104 vz104 => ?_)
    have wz104 := i_eq ez104
    refine lv_sipush (v := 255) hx hb dX12_number1_11 (by decide) ?_
    refine lv_iand hx hb dX12_number1_14 ?_
    refine lv_topi (fun z105 ez105 => ?_)
    try have hz105 := i_and ez105 (by omega)
    have hz105 : 0 ≤ z105.toInt ∧ z105.toInt ≤ 255 := by rw [ez105]; exact hand _
    exact h_reti hF hr hlk rfl dX12_number1_15 hH.1 hle ⟨hH.2, rfl, by (try dsimp only); omega⟩
  · refine lv_aload_n hx hb dX12_number1_0 rfl (lv_at hl 0 rfl) ?_
    refine m_getIn 75 hF hH fk_X12_356 dX12_number1_1 hin ?_
    refine lv_aload_n hx hb dX12_number1_4 rfl (lv_at hl 0 rfl) ?_
    refine m_getI hF hH fk_X12_359 dX12_number1_5 0 72600 rfl rfl (fun z106 ez106 vz106 => ?_)
    have wz106 := i_eq ez106
    refine lv_iload_n hx hb dX12_number1_8 rfl (lv_at hl 1 rfl) ?_
    refine lv_iadd hx hb dX12_number1_9 ?_
    refine lv_topi (fun z107 ez107 => ?_)
    try have hz107 := i_add ez107 (by omega) (by omega)
    refine m_bald 75 64000 hF hH dX12_number1_10 (by decide) rfl rfl (-128) 127 rfl rfl (by omega) (by omega) (fun z108 ez108 vz108 => ?_)
    have wz108 := i_eq ez108
    refine lv_sipush (v := 255) hx hb dX12_number1_11 (by decide) ?_
    refine lv_iand hx hb dX12_number1_14 ?_
    refine lv_topi (fun z109 ez109 => ?_)
    try have hz109 := i_and ez109 (by omega)
    have hz109 : 0 ≤ z109.toInt ∧ z109.toInt ≤ 255 := by rw [ez109]; exact hand _
    exact h_reti hF hr hlk rfl dX12_number1_15 hH.1 hle ⟨hH.2, rfl, by (try dsimp only); omega⟩
theorem dX12_set_0 : decode cX12_set 0 = .ok (.iconst 0, 1) := by decide +kernel
theorem dX12_set_1 : decode cX12_set 1 = .ok (.istore 5, 2) := by decide +kernel
theorem dX12_set_3 : decode cX12_set 3 = .ok (.iload 5, 2) := by decide +kernel
theorem dX12_set_5 : decode cX12_set 5 = .ok (.iload_n 2, 1) := by decide +kernel
theorem dX12_set_6 : decode cX12_set 6 = .ok (.if_icmp .ge 32, 3) := by decide +kernel
theorem dX12_set_9 : decode cX12_set 9 = .ok (.aload_n 0, 1) := by decide +kernel
theorem dX12_set_10 : decode cX12_set 10 = .ok (.getfield 246, 3) := by decide +kernel
theorem dX12_set_13 : decode cX12_set 13 = .ok (.aload_n 0, 1) := by decide +kernel
theorem dX12_set_14 : decode cX12_set 14 = .ok (.getfield 368, 3) := by decide +kernel
theorem dX12_set_17 : decode cX12_set 17 = .ok (.iload_n 1, 1) := by decide +kernel
theorem dX12_set_18 : decode cX12_set 18 = .ok (.iadd, 1) := by decide +kernel
theorem dX12_set_19 : decode cX12_set 19 = .ok (.iload 5, 2) := by decide +kernel
theorem dX12_set_21 : decode cX12_set 21 = .ok (.iadd, 1) := by decide +kernel
theorem dX12_set_22 : decode cX12_set 22 = .ok (.lload_n 3, 1) := by decide +kernel
theorem dX12_set_23 : decode cX12_set 23 = .ok (.bipush 8, 2) := by decide +kernel
theorem dX12_set_25 : decode cX12_set 25 = .ok (.iload 5, 2) := by decide +kernel
theorem dX12_set_27 : decode cX12_set 27 = .ok (.imul, 1) := by decide +kernel
theorem dX12_set_28 : decode cX12_set 28 = .ok (.lushr, 1) := by decide +kernel
theorem dX12_set_29 : decode cX12_set 29 = .ok (.l2i, 1) := by decide +kernel
theorem dX12_set_30 : decode cX12_set 30 = .ok (.i2b, 1) := by decide +kernel
theorem dX12_set_31 : decode cX12_set 31 = .ok (.bastore, 1) := by decide +kernel
theorem dX12_set_32 : decode cX12_set 32 = .ok (.iinc 5 1, 3) := by decide +kernel
theorem dX12_set_35 : decode cX12_set 35 = .ok (.goto (-32), 3) := by decide +kernel
theorem dX12_set_38 : decode cX12_set 38 = .ok (.return_, 1) := by decide +kernel
set_option maxRecDepth 100000 in
set_option maxHeartbeats 4000000 in
theorem c_X12_set (l : Launch) (D : va_G) (t : Nat → ClassId) (h0 : Nat) (L : Nat → Nat) (σ : HS) (hO : OK ph τ0 σ) (hM : MdI h0 L σ) (a n : Int32) (v : Int64) (hz : 0 ≤ a.toInt ∧ 0 ≤ n.toInt ∧ n.toInt ≤ 8 ∧ a.toInt + n.toInt ≤ 5000) (sz : Nat) : HMv ph τ0 l D t yX12_set cX12_set 6 ({ frames := 0, cells := 0, slots := 0, locals := 0 }) σ sz [.ref h0, .int a, .int n, .long v] 0 0 (fun σ' => MdI h0 L σ' ∧ Fr h0 L [] [76] σ σ' ∧ (True)) := by
  refine h_go hO (by decide) (Nat.le_of_ble_eq_true rfl) ?_
  intro p e s m below meth c ls A hF hr hlk hAe hH0 hA hl
  unfold hB
  rw [hAe]
  clear hAe
  have hF : FX p m c cX12_set 6 s _ RX12 D t := hF
  have hx := hF.1.1
  have hb := hF.1.2.1
  have hH : MT D t A s.heap h0 L σ s.heap [] := ⟨hH0, hM⟩
  have hle : HLe σ σ := HLe.rf
  have hfr : Fr h0 L [] [76] σ σ := Fr.rf
  have k_0 : (0 : Int32).toInt = 0 := rfl
  have k_8 : (8 : Int32).toInt = 8 := rfl
  have rg_1 := i_range a
  have rg_2 := i_range n
  have hl : lv_has ls 6 [(0, .ref h0), (1, .int a), (2, .int n), (3, .long v)] := hl
  refine lv_iconst (v := 0) hx hb dX12_set_0 (by decide) ?_
  refine lv_istore (lv' := [(5, .int 0), (0, .ref h0), (1, .int a), (2, .int n), (3, .long v)]) hx hb dX12_set_1 hl (by decide) rfl (fun ls hl => ?_)
  have hl : lv_has ls 6 [(5, .int 0), (3, .long v), (2, .int n), (1, .int a), (0, .ref h0)] := lv_sub hl [0, 4, 3, 2, 1] rfl
  refine m_loop (β := Int32) (L0 := fun x => [(5, .int x), (3, .long v), (2, .int n), (1, .int a), (0, .ref h0)]) (I := fun x σ2 => HLe σ σ2 ∧ Fr h0 L [] [76] σ σ2 ∧ (0 ≤ x.toInt ∧ x.toInt ≤ n.toInt)) (fun x σ2 => (n.toInt - x.toInt).toNat) (0) hl ⟨hle, hfr, by (try dsimp only); omega⟩ hH (fun x σL ls H locs hl hI hH ih => ?_)
  obtain ⟨x110, hx1⟩ : ∃ y, y = x := ⟨_, rfl⟩
  subst hx1
  obtain ⟨hle, hfr, hI⟩ := hI
  have hl : lv_has ls 6 [(5, .int x110), (3, .long v), (2, .int n), (1, .int a), (0, .ref h0)] := hl
  have hI : 0 ≤ x110.toInt ∧ x110.toInt ≤ n.toInt := hI
  have rg_x110 := i_range x110
  refine lv_iload hx hb dX12_set_3 (lv_at hl 0 rfl) ?_
  refine lv_iload_n hx hb dX12_set_5 rfl (lv_at hl 2 rfl) ?_
  refine lv_icmp_ge (tgt := 38) hx hb dX12_set_6 rfl (fun h111 => ?_) (fun h111 => ?_)
  · have ch111 := i_le h111
    exact h_retv hF hr hlk dX12_set_38 hH.1 hle ⟨hH.2, hfr, trivial⟩
  · have ch111 := i_nle h111
    refine lv_aload_n hx hb dX12_set_9 rfl (lv_at hl 4 rfl) ?_
    refine m_getA 76 hF hH fk_X12_246 dX12_set_10 (by decide) rfl ?_
    refine lv_aload_n hx hb dX12_set_13 rfl (lv_at hl 4 rfl) ?_
    refine m_getI hF hH fk_X12_368 dX12_set_14 0 85000 rfl rfl (fun z112 ez112 vz112 => ?_)
    have wz112 := i_eq ez112
    refine lv_iload_n hx hb dX12_set_17 rfl (lv_at hl 3 rfl) ?_
    refine lv_iadd hx hb dX12_set_18 ?_
    refine lv_topi (fun z113 ez113 => ?_)
    try have hz113 := i_add ez113 (by omega) (by omega)
    refine lv_iload hx hb dX12_set_19 (lv_at hl 0 rfl) ?_
    refine lv_iadd hx hb dX12_set_21 ?_
    refine lv_topi (fun z114 ez114 => ?_)
    try have hz114 := i_add ez114 (by omega) (by omega)
    refine lv_lload_n hx hb dX12_set_22 rfl (lv_at hl 1 rfl) ?_
    refine lv_bipush (v := 8) hx hb dX12_set_23 (by decide) ?_
    refine lv_iload hx hb dX12_set_25 (lv_at hl 0 rfl) ?_
    refine lv_imul hx hb dX12_set_27 ?_
    refine lv_topi (fun z115 ez115 => ?_)
    try have hz115 := i_mulk 8 rfl ez115 (by omega) (by omega)
    refine lv_lushr hx hb dX12_set_28 rfl ?_
    refine lv_topl (fun z116 ez116 => ?_)
    refine lv_l2i hx hb dX12_set_29 rfl ?_
    refine lv_topi (fun z117 ez117 => ?_)
    try have hz117 := l_toi ez117 (by omega) (by omega)
    refine lv_i2b hx hb dX12_set_30 rfl ?_
    refine lv_topi (fun z118 ez118 => ?_)
    have hMp := hH.2
    refine m_bast 76 90000 hF hH dX12_set_31 (by decide) rfl rfl rfl rfl (by omega) (by omega) (fun σ119 H locs eσ119 hH => ?_)
    have hle := hle.tr (show HLe σL σ119 by rw [eσ119]; exact HLe.uI)
    have hfr := hfr.aI hMp (by decide) eσ119 (by decide)
    obtain ⟨z120, ez120⟩ : ∃ z : Int32, z = x110 + Int32.ofInt 1 := ⟨_, rfl⟩
    have hz120 := i_add ez120 (by rw [show (Int32.ofInt 1).toInt = 1 from rfl]; omega) (by rw [show (Int32.ofInt 1).toInt = 1 from rfl]; omega)
    rw [show (Int32.ofInt 1).toInt = 1 from rfl] at hz120
    refine lv_iinc (lv' := [(5, .int z120), (3, .long v), (2, .int n), (1, .int a), (0, .ref h0)]) (k := 0) (v := z120) hx hb dX12_set_32 hl rfl ez120.symm (by decide) rfl (fun ls hl => ?_)
    refine lv_goto (tgt := 3) hx hb dX12_set_35 rfl ?_
    have hl : lv_has ls 6 [(5, .int z120), (3, .long v), (2, .int n), (1, .int a), (0, .ref h0)] := lv_sub hl [0, 1, 2, 3, 4] rfl
    exact ih (z120) σ119 ls H locs (by (try dsimp only); omega) hl ⟨hle, hfr, by (try dsimp only); omega⟩ hH
theorem dX12_body_0 : decode cX12_body 0 = .ok (.bipush 64, 2) := by decide +kernel
theorem dX12_body_2 : decode cX12_body 2 = .ok (.istore_n 2, 1) := by decide +kernel
theorem dX12_body_3 : decode cX12_body 3 = .ok (.iload_n 2, 1) := by decide +kernel
theorem dX12_body_4 : decode cX12_body 4 = .ok (.bipush 64, 2) := by decide +kernel
theorem dX12_body_6 : decode cX12_body 6 = .ok (.iload_n 1, 1) := by decide +kernel
theorem dX12_body_7 : decode cX12_body 7 = .ok (.iadd, 1) := by decide +kernel
theorem dX12_body_8 : decode cX12_body 8 = .ok (.if_icmp .ge 21, 3) := by decide +kernel
theorem dX12_body_11 : decode cX12_body 11 = .ok (.aload_n 0, 1) := by decide +kernel
theorem dX12_body_12 : decode cX12_body 12 = .ok (.getfield 246, 3) := by decide +kernel
theorem dX12_body_15 : decode cX12_body 15 = .ok (.aload_n 0, 1) := by decide +kernel
theorem dX12_body_16 : decode cX12_body 16 = .ok (.getfield 368, 3) := by decide +kernel
theorem dX12_body_19 : decode cX12_body 19 = .ok (.iload_n 2, 1) := by decide +kernel
theorem dX12_body_20 : decode cX12_body 20 = .ok (.iadd, 1) := by decide +kernel
theorem dX12_body_21 : decode cX12_body 21 = .ok (.iconst 0, 1) := by decide +kernel
theorem dX12_body_22 : decode cX12_body 22 = .ok (.bastore, 1) := by decide +kernel
theorem dX12_body_23 : decode cX12_body 23 = .ok (.iinc 2 1, 3) := by decide +kernel
theorem dX12_body_26 : decode cX12_body 26 = .ok (.goto (-23), 3) := by decide +kernel
theorem dX12_body_29 : decode cX12_body 29 = .ok (.aload_n 0, 1) := by decide +kernel
theorem dX12_body_30 : decode cX12_body 30 = .ok (.bipush 64, 2) := by decide +kernel
theorem dX12_body_32 : decode cX12_body 32 = .ok (.iload_n 1, 1) := by decide +kernel
theorem dX12_body_33 : decode cX12_body 33 = .ok (.iadd, 1) := by decide +kernel
theorem dX12_body_34 : decode cX12_body 34 = .ok (.putfield 371, 3) := by decide +kernel
theorem dX12_body_37 : decode cX12_body 37 = .ok (.return_, 1) := by decide +kernel
set_option maxRecDepth 100000 in
set_option maxHeartbeats 4000000 in
theorem c_X12_body (l : Launch) (D : va_G) (t : Nat → ClassId) (h0 : Nat) (L : Nat → Nat) (σ : HS) (hO : OK ph τ0 σ) (hM : MdI h0 L σ) (n : Int32) (hz : 0 ≤ n.toInt ∧ n.toInt ≤ 1100) (sz : Nat) : HMv ph τ0 l D t yX12_body cX12_body 3 ({ frames := 0, cells := 0, slots := 0, locals := 0 }) σ sz [.ref h0, .int n] 0 0 (fun σ' => MdI h0 L σ' ∧ Fr h0 L [91] [76] σ σ' ∧ ((sI σ' h0 91).toInt = 64 + n.toInt)) := by
  refine h_go hO (by decide) (Nat.le_of_ble_eq_true rfl) ?_
  intro p e s m below meth c ls A hF hr hlk hAe hH0 hA hl
  unfold hB
  rw [hAe]
  clear hAe
  have hF : FX p m c cX12_body 3 s _ RX12 D t := hF
  have hx := hF.1.1
  have hb := hF.1.2.1
  have hH : MT D t A s.heap h0 L σ s.heap [] := ⟨hH0, hM⟩
  have hle : HLe σ σ := HLe.rf
  have hfr : Fr h0 L [91] [76] σ σ := Fr.rf
  have k_0 : (0 : Int32).toInt = 0 := rfl
  have k_64 : (64 : Int32).toInt = 64 := rfl
  have rg_1 := i_range n
  have hl : lv_has ls 3 [(0, .ref h0), (1, .int n)] := hl
  refine lv_bipush (v := 64) hx hb dX12_body_0 (by decide) ?_
  refine lv_istore_n (lv' := [(2, .int 64), (0, .ref h0), (1, .int n)]) hx hb dX12_body_2 rfl hl (by decide) rfl (fun ls hl => ?_)
  have hl : lv_has ls 3 [(2, .int 64), (1, .int n), (0, .ref h0)] := lv_sub hl [0, 2, 1] rfl
  refine m_loop (β := Int32) (L0 := fun x => [(2, .int x), (1, .int n), (0, .ref h0)]) (I := fun x σ2 => HLe σ σ2 ∧ Fr h0 L [91] [76] σ σ2 ∧ (64 ≤ x.toInt ∧ x.toInt ≤ 64 + n.toInt)) (fun x σ2 => (64 + n.toInt - x.toInt).toNat) (64) hl ⟨hle, hfr, by (try dsimp only); omega⟩ hH (fun x σL ls H locs hl hI hH ih => ?_)
  obtain ⟨x121, hx1⟩ : ∃ y, y = x := ⟨_, rfl⟩
  subst hx1
  obtain ⟨hle, hfr, hI⟩ := hI
  have hl : lv_has ls 3 [(2, .int x121), (1, .int n), (0, .ref h0)] := hl
  have hI : 64 ≤ x121.toInt ∧ x121.toInt ≤ 64 + n.toInt := hI
  have rg_x121 := i_range x121
  refine lv_iload_n hx hb dX12_body_3 rfl (lv_at hl 0 rfl) ?_
  refine lv_bipush (v := 64) hx hb dX12_body_4 (by decide) ?_
  refine lv_iload_n hx hb dX12_body_6 rfl (lv_at hl 1 rfl) ?_
  refine lv_iadd hx hb dX12_body_7 ?_
  refine lv_topi (fun z122 ez122 => ?_)
  try have hz122 := i_add ez122 (by omega) (by omega)
  refine lv_icmp_ge (tgt := 29) hx hb dX12_body_8 rfl (fun h123 => ?_) (fun h123 => ?_)
  · have ch123 := i_le h123
    refine lv_aload_n hx hb dX12_body_29 rfl (lv_at hl 2 rfl) ?_
    refine lv_bipush (v := 64) hx hb dX12_body_30 (by decide) ?_
    refine lv_iload_n hx hb dX12_body_32 rfl (lv_at hl 1 rfl) ?_
    refine lv_iadd hx hb dX12_body_33 ?_
    refine lv_topi (fun z124 ez124 => ?_)
    try have hz124 := i_add ez124 (by omega) (by omega)
    have hMp := hH.2
    refine m_putI hF hH fk_X12_371 dX12_body_34 0 1200 rfl rfl (by omega) rfl rfl rfl (fun σ125 H locs eσ125 hH => ?_)
    have hle := hle.tr (show HLe σL σ125 by rw [eσ125]; exact HLe.uI)
    have hfr := hfr.fI hMp eσ125 (by decide) rfl
    have hsz : (sI σ125 h0 91).toInt = 64 + n.toInt := by rw [eσ125]; exact (congrArg Int32.toInt u2_same).trans (by omega)
    exact h_retv hF hr hlk dX12_body_37 hH.1 hle ⟨hH.2, hfr, hsz⟩
  · have ch123 := i_nle h123
    refine lv_aload_n hx hb dX12_body_11 rfl (lv_at hl 2 rfl) ?_
    refine m_getA 76 hF hH fk_X12_246 dX12_body_12 (by decide) rfl ?_
    refine lv_aload_n hx hb dX12_body_15 rfl (lv_at hl 2 rfl) ?_
    refine m_getI hF hH fk_X12_368 dX12_body_16 0 85000 rfl rfl (fun z126 ez126 vz126 => ?_)
    have wz126 := i_eq ez126
    refine lv_iload_n hx hb dX12_body_19 rfl (lv_at hl 0 rfl) ?_
    refine lv_iadd hx hb dX12_body_20 ?_
    refine lv_topi (fun z127 ez127 => ?_)
    try have hz127 := i_add ez127 (by omega) (by omega)
    refine lv_iconst (v := 0) hx hb dX12_body_21 (by decide) ?_
    have hMp := hH.2
    refine m_bast 76 90000 hF hH dX12_body_22 (by decide) rfl rfl rfl rfl (by omega) (by omega) (fun σ128 H locs eσ128 hH => ?_)
    have hle := hle.tr (show HLe σL σ128 by rw [eσ128]; exact HLe.uI)
    have hfr := hfr.aI hMp (by decide) eσ128 (by decide)
    obtain ⟨z129, ez129⟩ : ∃ z : Int32, z = x121 + Int32.ofInt 1 := ⟨_, rfl⟩
    have hz129 := i_add ez129 (by rw [show (Int32.ofInt 1).toInt = 1 from rfl]; omega) (by rw [show (Int32.ofInt 1).toInt = 1 from rfl]; omega)
    rw [show (Int32.ofInt 1).toInt = 1 from rfl] at hz129
    refine lv_iinc (lv' := [(2, .int z129), (1, .int n), (0, .ref h0)]) (k := 0) (v := z129) hx hb dX12_body_23 hl rfl ez129.symm (by decide) rfl (fun ls hl => ?_)
    refine lv_goto (tgt := 3) hx hb dX12_body_26 rfl ?_
    have hl : lv_has ls 3 [(2, .int z129), (1, .int n), (0, .ref h0)] := lv_sub hl [0, 1, 2] rfl
    exact ih (z129) σ128 ls H locs (by (try dsimp only); omega) hl ⟨hle, hfr, by (try dsimp only); omega⟩ hH

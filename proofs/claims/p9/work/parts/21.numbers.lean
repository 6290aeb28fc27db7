theorem dX12_number_0 : decode cX12_number 0 = .ok (.lconst 0, 1) := by decide +kernel
theorem dX12_number_1 : decode cX12_number 1 = .ok (.lstore_n 3, 1) := by decide +kernel
theorem dX12_number_2 : decode cX12_number 2 = .ok (.iload_n 2, 1) := by decide +kernel
theorem dX12_number_3 : decode cX12_number 3 = .ok (.iconst 1, 1) := by decide +kernel
theorem dX12_number_4 : decode cX12_number 4 = .ok (.isub, 1) := by decide +kernel
theorem dX12_number_5 : decode cX12_number 5 = .ok (.istore 5, 2) := by decide +kernel
theorem dX12_number_7 : decode cX12_number 7 = .ok (.iload 5, 2) := by decide +kernel
theorem dX12_number_9 : decode cX12_number 9 = .ok (.ifCond .lt 34, 3) := by decide +kernel
theorem dX12_number_12 : decode cX12_number 12 = .ok (.lload_n 3, 1) := by decide +kernel
theorem dX12_number_13 : decode cX12_number 13 = .ok (.bipush 8, 2) := by decide +kernel
theorem dX12_number_15 : decode cX12_number 15 = .ok (.lshl, 1) := by decide +kernel
theorem dX12_number_16 : decode cX12_number 16 = .ok (.aload_n 0, 1) := by decide +kernel
theorem dX12_number_17 : decode cX12_number 17 = .ok (.getfield 356, 3) := by decide +kernel
theorem dX12_number_20 : decode cX12_number 20 = .ok (.aload_n 0, 1) := by decide +kernel
theorem dX12_number_21 : decode cX12_number 21 = .ok (.getfield 359, 3) := by decide +kernel
theorem dX12_number_24 : decode cX12_number 24 = .ok (.iload_n 1, 1) := by decide +kernel
theorem dX12_number_25 : decode cX12_number 25 = .ok (.iadd, 1) := by decide +kernel
theorem dX12_number_26 : decode cX12_number 26 = .ok (.iload 5, 2) := by decide +kernel
theorem dX12_number_28 : decode cX12_number 28 = .ok (.iadd, 1) := by decide +kernel
theorem dX12_number_29 : decode cX12_number 29 = .ok (.baload, 1) := by decide +kernel
theorem dX12_number_30 : decode cX12_number 30 = .ok (.i2l, 1) := by decide +kernel
theorem dX12_number_31 : decode cX12_number 31 = .ok (.ldc2_w 362, 3) := by decide +kernel
theorem dX12_number_34 : decode cX12_number 34 = .ok (.land, 1) := by decide +kernel
theorem dX12_number_35 : decode cX12_number 35 = .ok (.lor, 1) := by decide +kernel
theorem dX12_number_36 : decode cX12_number 36 = .ok (.lstore_n 3, 1) := by decide +kernel
theorem dX12_number_37 : decode cX12_number 37 = .ok (.iinc 5 (-1), 3) := by decide +kernel
theorem dX12_number_40 : decode cX12_number 40 = .ok (.goto (-33), 3) := by decide +kernel
theorem dX12_number_43 : decode cX12_number 43 = .ok (.lload_n 3, 1) := by decide +kernel
theorem dX12_number_44 : decode cX12_number 44 = .ok (.lreturn, 1) := by decide +kernel
set_option maxRecDepth 100000 in
set_option maxHeartbeats 4000000 in
theorem c_X12_number (l : Launch) (D : va_G) (t : Nat → ClassId) (h0 : Nat) (L : Nat → Nat) (σ : HS) (hO : OK ph τ0 σ) (hM : MdI h0 L σ) (a n : Int32) (hz : InM h0 L σ (a.toInt + n.toInt)) (hy : 0 ≤ a.toInt ∧ 0 ≤ n.toInt ∧ n.toInt ≤ 8 ∧ a.toInt ≤ 100000) (sz : Nat) : HMl ph τ0 l D t yX12_number cX12_number 6 (some .long) ({ frames := 0, cells := 0, slots := 0, locals := 0 }) σ sz [.ref h0, .int a, .int n] 0 0 (fun r σ' => MdI h0 L σ' ∧ σ' = σ ∧ (r = lN (NUM h0 L σ a.toInt n.toInt.toNat))) := by
  refine h_go hO (by decide) (Nat.le_of_ble_eq_true rfl) ?_
  intro p e s m below meth c ls A hF hr hlk hAe hH0 hA hl
  unfold hB
  rw [hAe]
  clear hAe
  have hF : FX p m c cX12_number 6 s _ RX12 D t := hF
  have hx := hF.1.1
  have hb := hF.1.2.1
  have hH : MT D t A s.heap h0 L σ s.heap [] := ⟨hH0, hM⟩
  have hle : HLe σ σ := HLe.rf
  have k_0 : (0 : Int32).toInt = 0 := rfl
  have k_1 : (1 : Int32).toInt = 1 := rfl
  have k_8 : (8 : Int32).toInt = 8 := rfl
  have rg_1 := i_range a
  have rg_2 := i_range n
  have hl : lv_has ls 6 [(0, .ref h0), (1, .int a), (2, .int n)] := hl
  have hbs := m_fld hH 86 (by decide) rfl
  have hbs : (0 : Int) ≤ (sI σ h0 86).toInt ∧ (sI σ h0 86).toInt ≤ 72600 := hbs
  rcases hz with ⟨hin, hM2⟩ | ⟨hin, hM2⟩
  · have hrow : InRow h0 L σ = sI σ (L 29) := InRow_1 hin
    refine lv_lconst (v := 0) hx hb dX12_number_0 (by decide) ?_
    refine lv_lstore_n (lv' := [(3, .long 0), (0, .ref h0), (1, .int a), (2, .int n)]) hx hb dX12_number_1 rfl hl (by decide) rfl (fun ls hl => ?_)
    refine lv_iload_n hx hb dX12_number_2 rfl (lv_at hl 3 rfl) ?_
    refine lv_iconst (v := 1) hx hb dX12_number_3 (by decide) ?_
    refine lv_isub hx hb dX12_number_4 ?_
    refine lv_topi (fun z72 ez72 => ?_)
    try have hz72 := i_sub ez72 (by omega) (by omega)
    refine lv_istore (lv' := [(5, .int z72), (3, .long 0), (0, .ref h0), (1, .int a), (2, .int n)]) hx hb dX12_number_5 hl (by decide) rfl (fun ls hl => ?_)
    have hl : lv_has ls 6 [(5, .int z72), (3, .long 0), (2, .int n), (1, .int a), (0, .ref h0)] := lv_sub hl [0, 1, 4, 3, 2] rfl
    have hv0 : (0 : Int64) = lN (NumN (InRow h0 L σ) ((sI σ h0 86).toInt + a.toInt + z72.toInt + 1).toNat (n.toInt - 1 - z72.toInt).toNat) := by rw [show (n.toInt - 1 - z72.toInt).toNat = 0 by omega]; rfl
    refine m_loop (β := Int32 × Int64) (L0 := fun x => [(5, .int x.1), (3, .long x.2), (2, .int n), (1, .int a), (0, .ref h0)]) (I := fun x σ2 => σ = σ2 ∧ ((-1 ≤ x.1.toInt ∧ x.1.toInt < n.toInt) ∧ x.2 = lN (NumN (InRow h0 L σ) ((sI σ h0 86).toInt + a.toInt + x.1.toInt + 1).toNat (n.toInt - 1 - x.1.toInt).toNat))) (fun x σ2 => (1 + x.1.toInt).toNat) (z72, 0) hl ⟨rfl, ⟨by (try dsimp only); omega, hv0⟩⟩ hH (fun x σL ls H locs hl hI hH ih => ?_)
    obtain ⟨x73, x74⟩ := x
    obtain ⟨hsL, hI⟩ := hI
    subst hsL
    have hl : lv_has ls 6 [(5, .int x73), (3, .long x74), (2, .int n), (1, .int a), (0, .ref h0)] := hl
    have hI : (-1 ≤ x73.toInt ∧ x73.toInt < n.toInt) ∧ x74 = lN (NumN (InRow h0 L σ) ((sI σ h0 86).toInt + a.toInt + x73.toInt + 1).toNat (n.toInt - 1 - x73.toInt).toNat) := hI
    have rg_x73 := i_range x73
    refine lv_iload hx hb dX12_number_7 (lv_at hl 0 rfl) ?_
    refine lv_if_lt (tgt := 43) hx hb dX12_number_9 rfl (fun h75 => ?_) (fun h75 => ?_)
    · have ch75 := i_lt h75
      refine lv_lload_n hx hb dX12_number_43 rfl (lv_at hl 1 rfl) ?_
      have hv2 : x74 = lN (NUM h0 L σ a.toInt n.toInt.toNat) := by unfold NUM; rw [hI.2, show ((sI σ h0 86).toInt + a.toInt + x73.toInt + 1) = (sI σ h0 86).toInt + a.toInt by omega, show (n.toInt - 1 - x73.toInt).toNat = n.toInt.toNat by omega]
      exact h_retl hF hr hlk dX12_number_44 hH.1 hle ⟨hH.2, rfl, hv2⟩
    · have ch75 := i_nlt h75
      refine lv_lload_n hx hb dX12_number_12 rfl (lv_at hl 1 rfl) ?_
      refine lv_bipush (v := 8) hx hb dX12_number_13 (by decide) ?_
      refine lv_lshl hx hb dX12_number_15 rfl ?_
      refine lv_topl (fun z76 ez76 => ?_)
      refine lv_aload_n hx hb dX12_number_16 rfl (lv_at hl 4 rfl) ?_
      refine m_getIn 29 hF hH fk_X12_356 dX12_number_17 hin ?_
      refine lv_aload_n hx hb dX12_number_20 rfl (lv_at hl 4 rfl) ?_
      refine m_getI hF hH fk_X12_359 dX12_number_21 0 72600 rfl rfl (fun z77 ez77 vz77 => ?_)
      have wz77 := i_eq ez77
      refine lv_iload_n hx hb dX12_number_24 rfl (lv_at hl 3 rfl) ?_
      refine lv_iadd hx hb dX12_number_25 ?_
      refine lv_topi (fun z78 ez78 => ?_)
      try have hz78 := i_add ez78 (by omega) (by omega)
      refine lv_iload hx hb dX12_number_26 (lv_at hl 0 rfl) ?_
      refine lv_iadd hx hb dX12_number_28 ?_
      refine lv_topi (fun z79 ez79 => ?_)
      try have hz79 := i_add ez79 (by omega) (by omega)
      refine m_bald 29 72600 hF hH dX12_number_29 (by decide) rfl rfl (-128) 127 rfl rfl (by omega) (by omega) (fun z80 ez80 vz80 => ?_)
      have wz80 := i_eq ez80
      refine lv_i2l hx hb dX12_number_30 rfl ?_
      refine lv_topl (fun z81 ez81 => ?_)
      refine lv_ldc2 (v := 255) hx hb hF.1.2.2.2.1 (hF.1.2.2.2.2 _ (wc_47 13 rfl)) dX12_number_31 ?_
      refine lv_land hx hb dX12_number_34 ?_
      refine lv_topl (fun z82 ez82 => ?_)
      refine lv_lor hx hb dX12_number_35 ?_
      refine lv_topl (fun z83 ez83 => ?_)
      refine lv_lstore_n (lv' := [(3, .long z83), (5, .int x73), (2, .int n), (1, .int a), (0, .ref h0)]) hx hb dX12_number_36 rfl hl (by decide) rfl (fun ls hl => ?_)
      obtain ⟨z84, ez84⟩ : ∃ z : Int32, z = x73 + Int32.ofInt (-1) := ⟨_, rfl⟩
      have hz84 := i_add ez84 (by rw [show (Int32.ofInt (-1)).toInt = (-1) from rfl]; omega) (by rw [show (Int32.ofInt (-1)).toInt = (-1) from rfl]; omega)
      rw [show (Int32.ofInt (-1)).toInt = (-1) from rfl] at hz84
      refine lv_iinc (lv' := [(5, .int z84), (3, .long z83), (2, .int n), (1, .int a), (0, .ref h0)]) (k := 1) (v := z84) hx hb dX12_number_37 hl rfl ez84.symm (by decide) rfl (fun ls hl => ?_)
      refine lv_goto (tgt := 7) hx hb dX12_number_40 rfl ?_
      have hs1 : ((sI σ h0 86).toInt + a.toInt + x73.toInt + 1).toNat = z79.toInt.toNat + 1 := by omega
      have hs2 : ((sI σ h0 86).toInt + a.toInt + z84.toInt + 1).toNat = z79.toInt.toNat := by omega
      have hs3 : (n.toInt - 1 - z84.toInt).toNat = (n.toInt - 1 - x73.toInt).toNat + 1 := by omega
      have hst := num_step (f := InRow h0 L σ) (s := z79.toInt.toNat) (c := (n.toInt - 1 - x73.toInt).toNat) (z := z80) (by omega) (by rw [hrow]; exact ez80)
      have hv1 : z83 = lN (NumN (InRow h0 L σ) ((sI σ h0 86).toInt + a.toInt + z84.toInt + 1).toNat (n.toInt - 1 - z84.toInt).toNat) := by rw [hs2, hs3, ← hst, ← hs1, ← hI.2, ez83, ez76, ez82, ez81]
      have hl : lv_has ls 6 [(5, .int z84), (3, .long z83), (2, .int n), (1, .int a), (0, .ref h0)] := lv_sub hl [0, 1, 2, 3, 4] rfl
      exact ih (z84, z83) σ ls H locs (by (try dsimp only); omega) hl ⟨rfl, ⟨by (try dsimp only); omega, hv1⟩⟩ hH
  · have hrow : InRow h0 L σ = sI σ (L 75) := InRow_2 hM hin
    refine lv_lconst (v := 0) hx hb dX12_number_0 (by decide) ?_
    refine lv_lstore_n (lv' := [(3, .long 0), (0, .ref h0), (1, .int a), (2, .int n)]) hx hb dX12_number_1 rfl hl (by decide) rfl (fun ls hl => ?_)
    refine lv_iload_n hx hb dX12_number_2 rfl (lv_at hl 3 rfl) ?_
    refine lv_iconst (v := 1) hx hb dX12_number_3 (by decide) ?_
    refine lv_isub hx hb dX12_number_4 ?_
    refine lv_topi (fun z85 ez85 => ?_)
    try have hz85 := i_sub ez85 (by omega) (by omega)
    refine lv_istore (lv' := [(5, .int z85), (3, .long 0), (0, .ref h0), (1, .int a), (2, .int n)]) hx hb dX12_number_5 hl (by decide) rfl (fun ls hl => ?_)
    have hl : lv_has ls 6 [(5, .int z85), (3, .long 0), (2, .int n), (1, .int a), (0, .ref h0)] := lv_sub hl [0, 1, 4, 3, 2] rfl
    have hv0 : (0 : Int64) = lN (NumN (InRow h0 L σ) ((sI σ h0 86).toInt + a.toInt + z85.toInt + 1).toNat (n.toInt - 1 - z85.toInt).toNat) := by rw [show (n.toInt - 1 - z85.toInt).toNat = 0 by omega]; rfl
    refine m_loop (β := Int32 × Int64) (L0 := fun x => [(5, .int x.1), (3, .long x.2), (2, .int n), (1, .int a), (0, .ref h0)]) (I := fun x σ2 => σ = σ2 ∧ ((-1 ≤ x.1.toInt ∧ x.1.toInt < n.toInt) ∧ x.2 = lN (NumN (InRow h0 L σ) ((sI σ h0 86).toInt + a.toInt + x.1.toInt + 1).toNat (n.toInt - 1 - x.1.toInt).toNat))) (fun x σ2 => (1 + x.1.toInt).toNat) (z85, 0) hl ⟨rfl, ⟨by (try dsimp only); omega, hv0⟩⟩ hH (fun x σL ls H locs hl hI hH ih => ?_)
    obtain ⟨x86, x87⟩ := x
    obtain ⟨hsL, hI⟩ := hI
    subst hsL
    have hl : lv_has ls 6 [(5, .int x86), (3, .long x87), (2, .int n), (1, .int a), (0, .ref h0)] := hl
    have hI : (-1 ≤ x86.toInt ∧ x86.toInt < n.toInt) ∧ x87 = lN (NumN (InRow h0 L σ) ((sI σ h0 86).toInt + a.toInt + x86.toInt + 1).toNat (n.toInt - 1 - x86.toInt).toNat) := hI
    have rg_x86 := i_range x86
    refine lv_iload hx hb dX12_number_7 (lv_at hl 0 rfl) ?_
    refine lv_if_lt (tgt := 43) hx hb dX12_number_9 rfl (fun h88 => ?_) (fun h88 => ?_)
    · have ch88 := i_lt h88
      refine lv_lload_n hx hb dX12_number_43 rfl (lv_at hl 1 rfl) ?_
      have hv2 : x87 = lN (NUM h0 L σ a.toInt n.toInt.toNat) := by unfold NUM; rw [hI.2, show ((sI σ h0 86).toInt + a.toInt + x86.toInt + 1) = (sI σ h0 86).toInt + a.toInt by omega, show (n.toInt - 1 - x86.toInt).toNat = n.toInt.toNat by omega]
      exact h_retl hF hr hlk dX12_number_44 hH.1 hle ⟨hH.2, rfl, hv2⟩
    · have ch88 := i_nlt h88
      refine lv_lload_n hx hb dX12_number_12 rfl (lv_at hl 1 rfl) ?_
      refine lv_bipush (v := 8) hx hb dX12_number_13 (by decide) ?_
      refine lv_lshl hx hb dX12_number_15 rfl ?_
      refine lv_topl (fun z89 ez89 => ?_)
      refine lv_aload_n hx hb dX12_number_16 rfl (lv_at hl 4 rfl) ?_
      refine m_getIn 75 hF hH fk_X12_356 dX12_number_17 hin ?_
      refine lv_aload_n hx hb dX12_number_20 rfl (lv_at hl 4 rfl) ?_
      refine m_getI hF hH fk_X12_359 dX12_number_21 0 72600 rfl rfl (fun z90 ez90 vz90 => ?_)
      have wz90 := i_eq ez90
      refine lv_iload_n hx hb dX12_number_24 rfl (lv_at hl 3 rfl) ?_
      refine lv_iadd hx hb dX12_number_25 ?_
      refine lv_topi (fun z91 ez91 => ?_)
      try have hz91 := i_add ez91 (by omega) (by omega)
      refine lv_iload hx hb dX12_number_26 (lv_at hl 0 rfl) ?_
      refine lv_iadd hx hb dX12_number_28 ?_
      refine lv_topi (fun z92 ez92 => ?_)
      try have hz92 := i_add ez92 (by omega) (by omega)
      refine m_bald 75 64000 hF hH dX12_number_29 (by decide) rfl rfl (-128) 127 rfl rfl (by omega) (by omega) (fun z93 ez93 vz93 => ?_)
      have wz93 := i_eq ez93
      refine lv_i2l hx hb dX12_number_30 rfl ?_
      refine lv_topl (fun z94 ez94 => ?_)
      refine lv_ldc2 (v := 255) hx hb hF.1.2.2.2.1 (hF.1.2.2.2.2 _ (wc_47 13 rfl)) dX12_number_31 ?_
      refine lv_land hx hb dX12_number_34 ?_
      refine lv_topl (fun z95 ez95 => ?_)
      refine lv_lor hx hb dX12_number_35 ?_
      refine lv_topl (fun z96 ez96 => ?_)
      refine lv_lstore_n (lv' := [(3, .long z96), (5, .int x86), (2, .int n), (1, .int a), (0, .ref h0)]) hx hb dX12_number_36 rfl hl (by decide) rfl (fun ls hl => ?_)
      obtain ⟨z97, ez97⟩ : ∃ z : Int32, z = x86 + Int32.ofInt (-1) := ⟨_, rfl⟩
      have hz97 := i_add ez97 (by rw [show (Int32.ofInt (-1)).toInt = (-1) from rfl]; omega) (by rw [show (Int32.ofInt (-1)).toInt = (-1) from rfl]; omega)
      rw [show (Int32.ofInt (-1)).toInt = (-1) from rfl] at hz97
      refine lv_iinc (lv' := [(5, .int z97), (3, .long z96), (2, .int n), (1, .int a), (0, .ref h0)]) (k := 1) (v := z97) hx hb dX12_number_37 hl rfl ez97.symm (by decide) rfl (fun ls hl => ?_)
      refine lv_goto (tgt := 7) hx hb dX12_number_40 rfl ?_
      have hs1 : ((sI σ h0 86).toInt + a.toInt + x86.toInt + 1).toNat = z92.toInt.toNat + 1 := by omega
      have hs2 : ((sI σ h0 86).toInt + a.toInt + z97.toInt + 1).toNat = z92.toInt.toNat := by omega
      have hs3 : (n.toInt - 1 - z97.toInt).toNat = (n.toInt - 1 - x86.toInt).toNat + 1 := by omega
      have hst := num_step (f := InRow h0 L σ) (s := z92.toInt.toNat) (c := (n.toInt - 1 - x86.toInt).toNat) (z := z93) (by omega) (by rw [hrow]; exact ez93)
      have hv1 : z96 = lN (NumN (InRow h0 L σ) ((sI σ h0 86).toInt + a.toInt + z97.toInt + 1).toNat (n.toInt - 1 - z97.toInt).toNat) := by rw [hs2, hs3, ← hst, ← hs1, ← hI.2, ez96, ez89, ez95, ez94]
      have hl : lv_has ls 6 [(5, .int z97), (3, .long z96), (2, .int n), (1, .int a), (0, .ref h0)] := lv_sub hl [0, 1, 2, 3, 4] rfl
      exact ih (z97, z96) σ ls H locs (by (try dsimp only); omega) hl ⟨rfl, ⟨by (try dsimp only); omega, hv1⟩⟩ hH
theorem dX12_number1_0 : decode cX12_number1 0 = .ok (.aload_n 0, 1) := by decide +kernel
theorem dX12_number1_1 : decode cX12_number1 1 = .ok (.getfield 356, 3) := by decide +kernel
theorem dX12_number1_4 : decode cX12_number1 4 = .ok (.aload_n 0, 1) := by decide +kernel
theorem dX12_number1_5 : decode cX12_number1 5 = .ok (.getfield 359, 3) := by decide +kernel
theorem dX12_number1_8 : decode cX12_number1 8 = .ok (.iload_n 1, 1) := by decide +kernel
theorem dX12_number1_9 : decode cX12_number1 9 = .ok (.iadd, 1) := by decide +kernel
theorem dX12_number1_10 : decode cX12_number1 10 = .ok (.baload, 1) := by decide +kernel
theorem dX12_number1_11 : decode cX12_number1 11 = .ok (.sipush 255, 3) := by decide +kernel
theorem dX12_number1_14 : decode cX12_number1 14 = .ok (.iand, 1) := by decide +kernel
theorem dX12_number1_15 : decode cX12_number1 15 = .ok (.ireturn, 1) := by decide +kernel
set_option maxRecDepth 100000 in
set_option maxHeartbeats 4000000 in
theorem c_X12_number1 (l : Launch) (D : va_G) (t : Nat → ClassId) (h0 : Nat) (L : Nat → Nat) (σ : HS) (hO : OK ph τ0 σ) (hM : MdI h0 L σ) (a : Int32) (hz : InM h0 L σ (a.toInt + 1)) (hy : 0 ≤ a.toInt ∧ a.toInt ≤ 100000) (sz : Nat) : HMi ph τ0 l D t yX12_number1 cX12_number1 2 (some .int) ({ frames := 0, cells := 0, slots := 0, locals := 0 }) σ sz [.ref h0, .int a] 0 0 (fun r σ' => MdI h0 L σ' ∧ σ' = σ ∧ (0 ≤ r.toInt ∧ r.toInt ≤ 255)) := by
  refine h_go hO (by decide) (Nat.le_of_ble_eq_true rfl) ?_
  intro p e s m below meth c ls A hF hr hlk hAe hH0 hA hl
  unfold hB
  rw [hAe]
  clear hAe
  have hF : FX p m c cX12_number1 2 s _ RX12 D t := hF
  have hx := hF.1.1
  have hb := hF.1.2.1
  have hH : MT D t A s.heap h0 L σ s.heap [] := ⟨hH0, hM⟩
  have hle : HLe σ σ := HLe.rf
  have k_0 : (0 : Int32).toInt = 0 := rfl
  have k_255 : (255 : Int32).toInt = 255 := rfl
  have rg_1 := i_range a
  have hl : lv_has ls 2 [(0, .ref h0), (1, .int a)] := hl
  have hand : ∀ x : Int32, 0 ≤ (x &&& 255).toInt ∧ (x &&& 255).toInt ≤ 255 := fun x => by obtain ⟨j, hj, e⟩ := pk_andE x (m := 255) 8 (by decide); rw [e, nI_toInt (by omega)]; omega
  rcases hz with ⟨hin, hM2⟩ | ⟨hin, hM2⟩
  · refine lv_aload_n hx hb dX12_number1_0 rfl (lv_at hl 0 rfl) ?_
    refine m_getIn 29 hF hH fk_X12_356 dX12_number1_1 hin ?_
    refine lv_aload_n hx hb dX12_number1_4 rfl (lv_at hl 0 rfl) ?_
    refine m_getI hF hH fk_X12_359 dX12_number1_5 0 72600 rfl rfl (fun z98 ez98 vz98 => ?_)
    have wz98 := i_eq ez98
    refine lv_iload_n hx hb dX12_number1_8 rfl (lv_at hl 1 rfl) ?_
    refine lv_iadd hx hb dX12_number1_9 ?_
    refine lv_topi (fun z99 ez99 => ?_)
    try have hz99 := i_add ez99 (by omega) (by omega)
    refine m_bald 29 72600 hF hH dX12_number1_10 (by decide) rfl rfl (-128) 127 rfl rfl (by omega) (by omega) (fun z100 ez100 vz100 => ?_)
    have wz100 := i_eq ez100
    refine lv_sipush (v := 255) hx hb dX12_number1_11 (by decide) ?_
    refine lv_iand hx hb dX12_number1_14 ?_
    refine lv_topi (fun z101 ez101 => ?_)
    try have hz101 := i_and ez101 (by omega)
    have hz101 : 0 ≤ z101.toInt ∧ z101.toInt ≤ 255 := by rw [ez101]; exact hand _
    exact h_reti hF hr hlk rfl dX12_number1_15 hH.1 hle ⟨hH.2, rfl, by (try dsimp only); omega⟩
  · refine lv_aload_n hx hb dX12_number1_0 rfl (lv_at hl 0 rfl) ?_
    refine m_getIn 75 hF hH fk_X12_356 dX12_number1_1 hin ?_
    refine lv_aload_n hx hb dX12_number1_4 rfl (lv_at hl 0 rfl) ?_
    refine m_getI hF hH fk_X12_359 dX12_number1_5 0 72600 rfl rfl (fun z102 ez102 vz102 => ?_)
    have wz102 := i_eq ez102
    refine lv_iload_n hx hb dX12_number1_8 rfl (lv_at hl 1 rfl) ?_
    refine lv_iadd hx hb dX12_number1_9 ?_
    refine lv_topi (fun z103 ez103 => ?_)
    try have hz103 := i_add ez103 (by omega) (by omega)
    refine m_bald 75 64000 hF hH dX12_number1_10 (by decide) rfl rfl (-128) 127 rfl rfl (by omega) (by omega) (fun z104 ez104 vz104 => ?_)
    have wz104 := i_eq ez104
    refine lv_sipush (v := 255) hx hb dX12_number1_11 (by decide) ?_
    refine lv_iand hx hb dX12_number1_14 ?_
    refine lv_topi (fun z105 ez105 => ?_)
    try have hz105 := i_and ez105 (by omega)
    have hz105 : 0 ≤ z105.toInt ∧ z105.toInt ≤ 255 := by rw [ez105]; exact hand _
    exact h_reti hF hr hlk rfl dX12_number1_15 hH.1 hle ⟨hH.2, rfl, by (try dsimp only); omega⟩
theorem dX12_set_0 : decode cX12_set 0 = .ok (.iconst 0, 1) := by decide +kernel
theorem dX12_set_1 : decode cX12_set 1 = .ok (.istore 5, 2) := by decide +kernel
theorem dX12_set_3 : decode cX12_set 3 = .ok (.iload 5, 2) := by decide +kernel
theorem dX12_set_5 : decode cX12_set 5 = .ok (.iload_n 2, 1) := by decide +kernel
theorem dX12_set_6 : decode cX12_set 6 = .ok (.if_icmp .ge 32, 3) := by decide +kernel
theorem dX12_set_9 : decode cX12_set 9 = .ok (.aload_n 0, 1) := by decide +kernel
theorem dX12_set_10 : decode cX12_set 10 = .ok (.getfield 246, 3) := by decide +kernel
theorem dX12_set_13 : decode cX12_set 13 = .ok (.aload_n 0, 1) := by decide +kernel
theorem dX12_set_14 : decode cX12_set 14 = .ok (.getfield 368, 3) := by decide +kernel
theorem dX12_set_17 : decode cX12_set 17 = .ok (.iload_n 1, 1) := by decide +kernel
theorem dX12_set_18 : decode cX12_set 18 = .ok (.iadd, 1) := by decide +kernel
theorem dX12_set_19 : decode cX12_set 19 = .ok (.iload 5, 2) := by decide +kernel
theorem dX12_set_21 : decode cX12_set 21 = .ok (.iadd, 1) := by decide +kernel
theorem dX12_set_22 : decode cX12_set 22 = .ok (.lload_n 3, 1) := by decide +kernel
theorem dX12_set_23 : decode cX12_set 23 = .ok (.bipush 8, 2) := by decide +kernel
theorem dX12_set_25 : decode cX12_set 25 = .ok (.iload 5, 2) := by decide +kernel
theorem dX12_set_27 : decode cX12_set 27 = .ok (.imul, 1) := by decide +kernel
theorem dX12_set_28 : decode cX12_set 28 = .ok (.lushr, 1) := by decide +kernel
theorem dX12_set_29 : decode cX12_set 29 = .ok (.l2i, 1) := by decide +kernel
theorem dX12_set_30 : decode cX12_set 30 = .ok (.i2b, 1) := by decide +kernel
theorem dX12_set_31 : decode cX12_set 31 = .ok (.bastore, 1) := by decide +kernel
theorem dX12_set_32 : decode cX12_set 32 = .ok (.iinc 5 1, 3) := by decide +kernel
theorem dX12_set_35 : decode cX12_set 35 = .ok (.goto (-32), 3) := by decide +kernel
theorem dX12_set_38 : decode cX12_set 38 = .ok (.return_, 1) := by decide +kernel
set_option maxRecDepth 100000 in
set_option maxHeartbeats 4000000 in
theorem c_X12_set (l : Launch) (D : va_G) (t : Nat → ClassId) (h0 : Nat) (L : Nat → Nat) (σ : HS) (hO : OK ph τ0 σ) (hM : MdI h0 L σ) (a n : Int32) (v : Int64) (hz : 0 ≤ a.toInt ∧ 0 ≤ n.toInt ∧ n.toInt ≤ 8 ∧ a.toInt + n.toInt ≤ 5000) (sz : Nat) : HMv ph τ0 l D t yX12_set cX12_set 6 ({ frames := 0, cells := 0, slots := 0, locals := 0 }) σ sz [.ref h0, .int a, .int n, .long v] 0 0 (fun σ' => MdI h0 L σ' ∧ Fr h0 L [] [76] σ σ' ∧ (True)) := by
  refine h_go hO (by decide) (Nat.le_of_ble_eq_true rfl) ?_
  intro p e s m below meth c ls A hF hr hlk hAe hH0 hA hl
  unfold hB
  rw [hAe]
  clear hAe
  have hF : FX p m c cX12_set 6 s _ RX12 D t := hF
  have hx := hF.1.1
  have hb := hF.1.2.1
  have hH : MT D t A s.heap h0 L σ s.heap [] := ⟨hH0, hM⟩
  have hle : HLe σ σ := HLe.rf
  have hfr : Fr h0 L [] [76] σ σ := Fr.rf
  have k_0 : (0 : Int32).toInt = 0 := rfl
  have k_8 : (8 : Int32).toInt = 8 := rfl
  have rg_1 := i_range a
  have rg_2 := i_range n
  have hl : lv_has ls 6 [(0, .ref h0), (1, .int a), (2, .int n), (3, .long v)] := hl
  refine lv_iconst (v := 0) hx hb dX12_set_0 (by decide) ?_
  refine lv_istore (lv' := [(5, .int 0), (0, .ref h0), (1, .int a), (2, .int n), (3, .long v)]) hx hb dX12_set_1 hl (by decide) rfl (fun ls hl => ?_)
  have hl : lv_has ls 6 [(5, .int 0), (3, .long v), (2, .int n), (1, .int a), (0, .ref h0)] := lv_sub hl [0, 4, 3, 2, 1] rfl
  refine m_loop (β := Int32) (L0 := fun x => [(5, .int x), (3, .long v), (2, .int n), (1, .int a), (0, .ref h0)]) (I := fun x σ2 => HLe σ σ2 ∧ Fr h0 L [] [76] σ σ2 ∧ (0 ≤ x.toInt ∧ x.toInt ≤ n.toInt)) (fun x σ2 => (n.toInt - x.toInt).toNat) (0) hl ⟨hle, hfr, by (try dsimp only); omega⟩ hH (fun x σL ls H locs hl hI hH ih => ?_)
  obtain ⟨x106, hx1⟩ : ∃ y, y = x := ⟨_, rfl⟩
  subst hx1
  obtain ⟨hle, hfr, hI⟩ := hI
  have hl : lv_has ls 6 [(5, .int x106), (3, .long v), (2, .int n), (1, .int a), (0, .ref h0)] := hl
  have hI : 0 ≤ x106.toInt ∧ x106.toInt ≤ n.toInt := hI
  have rg_x106 := i_range x106
  refine lv_iload hx hb dX12_set_3 (lv_at hl 0 rfl) ?_
  refine lv_iload_n hx hb dX12_set_5 rfl (lv_at hl 2 rfl) ?_
  refine lv_icmp_ge (tgt := 38) hx hb dX12_set_6 rfl (fun h107 => ?_) (fun h107 => ?_)
  · have ch107 := i_le h107
    exact h_retv hF hr hlk dX12_set_38 hH.1 hle ⟨hH.2, hfr, trivial⟩
  · have ch107 := i_nle h107
    refine lv_aload_n hx hb dX12_set_9 rfl (lv_at hl 4 rfl) ?_
    refine m_getA 76 hF hH fk_X12_246 dX12_set_10 (by decide) rfl ?_
    refine lv_aload_n hx hb dX12_set_13 rfl (lv_at hl 4 rfl) ?_
    refine m_getI hF hH fk_X12_368 dX12_set_14 0 85000 rfl rfl (fun z108 ez108 vz108 => ?_)
    have wz108 := i_eq ez108
    refine lv_iload_n hx hb dX12_set_17 rfl (lv_at hl 3 rfl) ?_
    refine lv_iadd hx hb dX12_set_18 ?_
    refine lv_topi (fun z109 ez109 => ?_)
    try have hz109 := i_add ez109 (by omega) (by omega)
    refine lv_iload hx hb dX12_set_19 (lv_at hl 0 rfl) ?_
    refine lv_iadd hx hb dX12_set_21 ?_
    refine lv_topi (fun z110 ez110 => ?_)
    try have hz110 := i_add ez110 (by omega) (by omega)
    refine lv_lload_n hx hb dX12_set_22 rfl (lv_at hl 1 rfl) ?_
    refine lv_bipush (v := 8) hx hb dX12_set_23 (by decide) ?_
    refine lv_iload hx hb dX12_set_25 (lv_at hl 0 rfl) ?_
    refine lv_imul hx hb dX12_set_27 ?_
    refine lv_topi (fun z111 ez111 => ?_)
    try have hz111 := i_mulk 8 rfl ez111 (by omega) (by omega)
    refine lv_lushr hx hb dX12_set_28 rfl ?_
    refine lv_topl (fun z112 ez112 => ?_)
    refine lv_l2i hx hb dX12_set_29 rfl ?_
    refine lv_topi (fun z113 ez113 => ?_)
    refine lv_i2b hx hb dX12_set_30 rfl ?_
    refine lv_topi (fun z114 ez114 => ?_)
    have hMp := hH.2
    refine m_bast 76 90000 hF hH dX12_set_31 (by decide) rfl rfl rfl rfl (by omega) (by omega) (fun σ115 H locs eσ115 hH => ?_)
    have hle := hle.tr (show HLe σL σ115 by rw [eσ115]; exact HLe.uI)
    have hfr := hfr.aI hMp (by decide) eσ115 (by decide)
    obtain ⟨z116, ez116⟩ : ∃ z : Int32, z = x106 + Int32.ofInt 1 := ⟨_, rfl⟩
    have hz116 := i_add ez116 (by rw [show (Int32.ofInt 1).toInt = 1 from rfl]; omega) (by rw [show (Int32.ofInt 1).toInt = 1 from rfl]; omega)
    rw [show (Int32.ofInt 1).toInt = 1 from rfl] at hz116
    refine lv_iinc (lv' := [(5, .int z116), (3, .long v), (2, .int n), (1, .int a), (0, .ref h0)]) (k := 0) (v := z116) hx hb dX12_set_32 hl rfl ez116.symm (by decide) rfl (fun ls hl => ?_)
    refine lv_goto (tgt := 3) hx hb dX12_set_35 rfl ?_
    have hl : lv_has ls 6 [(5, .int z116), (3, .long v), (2, .int n), (1, .int a), (0, .ref h0)] := lv_sub hl [0, 1, 2, 3, 4] rfl
    exact ih (z116) σ115 ls H locs (by (try dsimp only); omega) hl ⟨hle, hfr, by (try dsimp only); omega⟩ hH
theorem dX12_body_0 : decode cX12_body 0 = .ok (.bipush 64, 2) := by decide +kernel
theorem dX12_body_2 : decode cX12_body 2 = .ok (.istore_n 2, 1) := by decide +kernel
theorem dX12_body_3 : decode cX12_body 3 = .ok (.iload_n 2, 1) := by decide +kernel
theorem dX12_body_4 : decode cX12_body 4 = .ok (.bipush 64, 2) := by decide +kernel
theorem dX12_body_6 : decode cX12_body 6 = .ok (.iload_n 1, 1) := by decide +kernel
theorem dX12_body_7 : decode cX12_body 7 = .ok (.iadd, 1) := by decide +kernel
theorem dX12_body_8 : decode cX12_body 8 = .ok (.if_icmp .ge 21, 3) := by decide +kernel
theorem dX12_body_11 : decode cX12_body 11 = .ok (.aload_n 0, 1) := by decide +kernel
theorem dX12_body_12 : decode cX12_body 12 = .ok (.getfield 246, 3) := by decide +kernel
theorem dX12_body_15 : decode cX12_body 15 = .ok (.aload_n 0, 1) := by decide +kernel
theorem dX12_body_16 : decode cX12_body 16 = .ok (.getfield 368, 3) := by decide +kernel
theorem dX12_body_19 : decode cX12_body 19 = .ok (.iload_n 2, 1) := by decide +kernel
theorem dX12_body_20 : decode cX12_body 20 = .ok (.iadd, 1) := by decide +kernel
theorem dX12_body_21 : decode cX12_body 21 = .ok (.iconst 0, 1) := by decide +kernel
theorem dX12_body_22 : decode cX12_body 22 = .ok (.bastore, 1) := by decide +kernel
theorem dX12_body_23 : decode cX12_body 23 = .ok (.iinc 2 1, 3) := by decide +kernel
theorem dX12_body_26 : decode cX12_body 26 = .ok (.goto (-23), 3) := by decide +kernel
theorem dX12_body_29 : decode cX12_body 29 = .ok (.aload_n 0, 1) := by decide +kernel
theorem dX12_body_30 : decode cX12_body 30 = .ok (.bipush 64, 2) := by decide +kernel
theorem dX12_body_32 : decode cX12_body 32 = .ok (.iload_n 1, 1) := by decide +kernel
theorem dX12_body_33 : decode cX12_body 33 = .ok (.iadd, 1) := by decide +kernel
theorem dX12_body_34 : decode cX12_body 34 = .ok (.putfield 371, 3) := by decide +kernel
theorem dX12_body_37 : decode cX12_body 37 = .ok (.return_, 1) := by decide +kernel
set_option maxRecDepth 100000 in
set_option maxHeartbeats 4000000 in
theorem c_X12_body (l : Launch) (D : va_G) (t : Nat → ClassId) (h0 : Nat) (L : Nat → Nat) (σ : HS) (hO : OK ph τ0 σ) (hM : MdI h0 L σ) (n : Int32) (hz : 0 ≤ n.toInt ∧ n.toInt ≤ 1100) (sz : Nat) : HMv ph τ0 l D t yX12_body cX12_body 3 ({ frames := 0, cells := 0, slots := 0, locals := 0 }) σ sz [.ref h0, .int n] 0 0 (fun σ' => MdI h0 L σ' ∧ Fr h0 L [91] [76] σ σ' ∧ ((sI σ' h0 91).toInt = 64 + n.toInt)) := by
  refine h_go hO (by decide) (Nat.le_of_ble_eq_true rfl) ?_
  intro p e s m below meth c ls A hF hr hlk hAe hH0 hA hl
  unfold hB
  rw [hAe]
  clear hAe
  have hF : FX p m c cX12_body 3 s _ RX12 D t := hF
  have hx := hF.1.1
  have hb := hF.1.2.1
  have hH : MT D t A s.heap h0 L σ s.heap [] := ⟨hH0, hM⟩
  have hle : HLe σ σ := HLe.rf
  have hfr : Fr h0 L [91] [76] σ σ := Fr.rf
  have k_0 : (0 : Int32).toInt = 0 := rfl
  have k_64 : (64 : Int32).toInt = 64 := rfl
  have rg_1 := i_range n
  have hl : lv_has ls 3 [(0, .ref h0), (1, .int n)] := hl
  refine lv_bipush (v := 64) hx hb dX12_body_0 (by decide) ?_
  refine lv_istore_n (lv' := [(2, .int 64), (0, .ref h0), (1, .int n)]) hx hb dX12_body_2 rfl hl (by decide) rfl (fun ls hl => ?_)
  have hl : lv_has ls 3 [(2, .int 64), (1, .int n), (0, .ref h0)] := lv_sub hl [0, 2, 1] rfl
  refine m_loop (β := Int32) (L0 := fun x => [(2, .int x), (1, .int n), (0, .ref h0)]) (I := fun x σ2 => HLe σ σ2 ∧ Fr h0 L [91] [76] σ σ2 ∧ (64 ≤ x.toInt ∧ x.toInt ≤ 64 + n.toInt)) (fun x σ2 => (64 + n.toInt - x.toInt).toNat) (64) hl ⟨hle, hfr, by (try dsimp only); omega⟩ hH (fun x σL ls H locs hl hI hH ih => ?_)
  obtain ⟨x117, hx1⟩ : ∃ y, y = x := ⟨_, rfl⟩
  subst hx1
  obtain ⟨hle, hfr, hI⟩ := hI
  have hl : lv_has ls 3 [(2, .int x117), (1, .int n), (0, .ref h0)] := hl
  have hI : 64 ≤ x117.toInt ∧ x117.toInt ≤ 64 + n.toInt := hI
  have rg_x117 := i_range x117
  refine lv_iload_n hx hb dX12_body_3 rfl (lv_at hl 0 rfl) ?_
  refine lv_bipush (v := 64) hx hb dX12_body_4 (by decide) ?_
  refine lv_iload_n hx hb dX12_body_6 rfl (lv_at hl 1 rfl) ?_
  refine lv_iadd hx hb dX12_body_7 ?_
  refine lv_topi (fun z118 ez118 => ?_)
  try have hz118 := i_add ez118 (by omega) (by omega)
  refine lv_icmp_ge (tgt := 29) hx hb dX12_body_8 rfl (fun h119 => ?_) (fun h119 => ?_)
  · have ch119 := i_le h119
    refine lv_aload_n hx hb dX12_body_29 rfl (lv_at hl 2 rfl) ?_
    refine lv_bipush (v := 64) hx hb dX12_body_30 (by decide) ?_
    refine lv_iload_n hx hb dX12_body_32 rfl (lv_at hl 1 rfl) ?_
    refine lv_iadd hx hb dX12_body_33 ?_
    refine lv_topi (fun z120 ez120 => ?_)
    try have hz120 := i_add ez120 (by omega) (by omega)
    have hMp := hH.2
    refine m_putI hF hH fk_X12_371 dX12_body_34 0 5000 rfl rfl (by omega) rfl rfl rfl (fun σ121 H locs eσ121 hH => ?_)
    have hle := hle.tr (show HLe σL σ121 by rw [eσ121]; exact HLe.uI)
    have hfr := hfr.fI hMp eσ121 (by decide)
    have hsz : (sI σ121 h0 91).toInt = 64 + n.toInt := by rw [eσ121]; exact (congrArg Int32.toInt u2_same).trans (by omega)
    exact h_retv hF hr hlk dX12_body_37 hH.1 hle ⟨hH.2, hfr, hsz⟩
  · have ch119 := i_nle h119
    refine lv_aload_n hx hb dX12_body_11 rfl (lv_at hl 2 rfl) ?_
    refine m_getA 76 hF hH fk_X12_246 dX12_body_12 (by decide) rfl ?_
    refine lv_aload_n hx hb dX12_body_15 rfl (lv_at hl 2 rfl) ?_
    refine m_getI hF hH fk_X12_368 dX12_body_16 0 85000 rfl rfl (fun z122 ez122 vz122 => ?_)
    have wz122 := i_eq ez122
    refine lv_iload_n hx hb dX12_body_19 rfl (lv_at hl 0 rfl) ?_
    refine lv_iadd hx hb dX12_body_20 ?_
    refine lv_topi (fun z123 ez123 => ?_)
    try have hz123 := i_add ez123 (by omega) (by omega)
    refine lv_iconst (v := 0) hx hb dX12_body_21 (by decide) ?_
    have hMp := hH.2
    refine m_bast 76 90000 hF hH dX12_body_22 (by decide) rfl rfl rfl rfl (by omega) (by omega) (fun σ124 H locs eσ124 hH => ?_)
    have hle := hle.tr (show HLe σL σ124 by rw [eσ124]; exact HLe.uI)
    have hfr := hfr.aI hMp (by decide) eσ124 (by decide)
    obtain ⟨z125, ez125⟩ : ∃ z : Int32, z = x117 + Int32.ofInt 1 := ⟨_, rfl⟩
    have hz125 := i_add ez125 (by rw [show (Int32.ofInt 1).toInt = 1 from rfl]; omega) (by rw [show (Int32.ofInt 1).toInt = 1 from rfl]; omega)
    rw [show (Int32.ofInt 1).toInt = 1 from rfl] at hz125
    refine lv_iinc (lv' := [(2, .int z125), (1, .int n), (0, .ref h0)]) (k := 0) (v := z125) hx hb dX12_body_23 hl rfl ez125.symm (by decide) rfl (fun ls hl => ?_)
    refine lv_goto (tgt := 3) hx hb dX12_body_26 rfl ?_
    have hl : lv_has ls 3 [(2, .int z125), (1, .int n), (0, .ref h0)] := lv_sub hl [0, 1, 2] rfl
    exact ih (z125) σ124 ls H locs (by (try dsimp only); omega) hl ⟨hle, hfr, by (try dsimp only); omega⟩ hH

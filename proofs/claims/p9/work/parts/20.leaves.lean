theorem dX12_isLine_0 : decode cX12_isLine 0 = .ok (.iload_n 0, 1) := by decide +kernel
theorem dX12_isLine_1 : decode cX12_isLine 1 = .ok (.ifCond .lt 13, 3) := by decide +kernel
theorem dX12_isLine_4 : decode cX12_isLine 4 = .ok (.iload_n 0, 1) := by decide +kernel
theorem dX12_isLine_5 : decode cX12_isLine 5 = .ok (.bipush 6, 2) := by decide +kernel
theorem dX12_isLine_7 : decode cX12_isLine 7 = .ok (.if_icmp .ge 7, 3) := by decide +kernel
theorem dX12_isLine_10 : decode cX12_isLine 10 = .ok (.iconst 1, 1) := by decide +kernel
theorem dX12_isLine_11 : decode cX12_isLine 11 = .ok (.goto 4, 3) := by decide +kernel
theorem dX12_isLine_14 : decode cX12_isLine 14 = .ok (.iconst 0, 1) := by decide +kernel
theorem dX12_isLine_15 : decode cX12_isLine 15 = .ok (.ireturn, 1) := by decide +kernel
set_option maxRecDepth 100000 in
set_option maxHeartbeats 4000000 in
theorem c_X12_isLine (l : Launch) (D : va_G) (t : Nat → ClassId) (h0 : Nat) (L : Nat → Nat) (σ : HS) (hO : OK ph τ0 σ) (hM : MdI h0 L σ) (k : Int32) (sz : Nat) : HMi ph τ0 l D t yX12_isLine cX12_isLine 1 (some .boolean) ({ frames := 0, cells := 0, slots := 0, locals := 0 }) σ sz [.int k] 0 0 (fun r σ' => σ' = σ ∧ ((r.toInt = 1 ∧ 0 ≤ k.toInt ∧ k.toInt < 6) ∨ (r.toInt = 0 ∧ (k.toInt < 0 ∨ 6 ≤ k.toInt)))) := by
  refine h_go hO (by decide) (Nat.le_of_ble_eq_true rfl) ?_
  intro p e s m below meth c ls A hF hr hlk hAe hH0 hA hl
  unfold hB
  rw [hAe]
  clear hAe
  have hF : FX p m c cX12_isLine 1 s _ RX12 D t := hF
  have hx := hF.1.1
  have hb := hF.1.2.1
  have hH : MT D t A s.heap h0 L σ s.heap [] := ⟨hH0, hM⟩
  have hle : HLe σ σ := HLe.rf
  have k_0 : (0 : Int32).toInt = 0 := rfl
  have k_1 : (1 : Int32).toInt = 1 := rfl
  have k_6 : (6 : Int32).toInt = 6 := rfl
  have rg_0 := i_range k
  have hl : lv_has ls 1 [(0, .int k)] := hl
  refine lv_iload_n hx hb dX12_isLine_0 rfl (lv_at hl 0 rfl) ?_
  refine lv_if_lt (tgt := 14) hx hb dX12_isLine_1 rfl (fun h1 => ?_) (fun h1 => ?_)
  · have ch1 := i_lt h1
    refine lv_iconst (v := 0) hx hb dX12_isLine_14 (by decide) ?_
    exact h_reti hF hr hlk (i_01 (by omega)).1 dX12_isLine_15 hH.1 hle ⟨rfl, by omega⟩
  · have ch1 := i_nlt h1
    refine lv_iload_n hx hb dX12_isLine_4 rfl (lv_at hl 0 rfl) ?_
    refine lv_bipush (v := 6) hx hb dX12_isLine_5 (by decide) ?_
    refine lv_icmp_ge (tgt := 14) hx hb dX12_isLine_7 rfl (fun h2 => ?_) (fun h2 => ?_)
    · have ch2 := i_le h2
      refine lv_iconst (v := 0) hx hb dX12_isLine_14 (by decide) ?_
      exact h_reti hF hr hlk (i_01 (by omega)).1 dX12_isLine_15 hH.1 hle ⟨rfl, by omega⟩
    · have ch2 := i_nle h2
      refine lv_iconst (v := 1) hx hb dX12_isLine_10 (by decide) ?_
      refine lv_goto (tgt := 15) hx hb dX12_isLine_11 rfl ?_
      exact h_reti hF hr hlk (i_01 (by omega)).1 dX12_isLine_15 hH.1 hle ⟨rfl, by omega⟩
theorem dX12_folded_0 : decode cX12_folded 0 = .ok (.iload_n 0, 1) := by decide +kernel
theorem dX12_folded_1 : decode cX12_folded 1 = .ok (.bipush 97, 2) := by decide +kernel
theorem dX12_folded_3 : decode cX12_folded 3 = .ok (.if_icmp .lt 16, 3) := by decide +kernel
theorem dX12_folded_6 : decode cX12_folded 6 = .ok (.iload_n 0, 1) := by decide +kernel
theorem dX12_folded_7 : decode cX12_folded 7 = .ok (.bipush 122, 2) := by decide +kernel
theorem dX12_folded_9 : decode cX12_folded 9 = .ok (.if_icmp .gt 10, 3) := by decide +kernel
theorem dX12_folded_12 : decode cX12_folded 12 = .ok (.iload_n 0, 1) := by decide +kernel
theorem dX12_folded_13 : decode cX12_folded 13 = .ok (.bipush 32, 2) := by decide +kernel
theorem dX12_folded_15 : decode cX12_folded 15 = .ok (.isub, 1) := by decide +kernel
theorem dX12_folded_16 : decode cX12_folded 16 = .ok (.goto 4, 3) := by decide +kernel
theorem dX12_folded_19 : decode cX12_folded 19 = .ok (.iload_n 0, 1) := by decide +kernel
theorem dX12_folded_20 : decode cX12_folded 20 = .ok (.ireturn, 1) := by decide +kernel
set_option maxRecDepth 100000 in
set_option maxHeartbeats 4000000 in
theorem c_X12_folded (l : Launch) (D : va_G) (t : Nat → ClassId) (h0 : Nat) (L : Nat → Nat) (σ : HS) (hO : OK ph τ0 σ) (hM : MdI h0 L σ) (k : Int32) (sz : Nat) : HMi ph τ0 l D t yX12_folded cX12_folded 1 (some .int) ({ frames := 0, cells := 0, slots := 0, locals := 0 }) σ sz [.int k] 0 0 (fun r σ' => σ' = σ ∧ r.toInt ≤ k.toInt ∧ k.toInt - 32 ≤ r.toInt) := by
  refine h_go hO (by decide) (Nat.le_of_ble_eq_true rfl) ?_
  intro p e s m below meth c ls A hF hr hlk hAe hH0 hA hl
  unfold hB
  rw [hAe]
  clear hAe
  have hF : FX p m c cX12_folded 1 s _ RX12 D t := hF
  have hx := hF.1.1
  have hb := hF.1.2.1
  have hH : MT D t A s.heap h0 L σ s.heap [] := ⟨hH0, hM⟩
  have hle : HLe σ σ := HLe.rf
  have k_0 : (0 : Int32).toInt = 0 := rfl
  have k_32 : (32 : Int32).toInt = 32 := rfl
  have k_97 : (97 : Int32).toInt = 97 := rfl
  have k_122 : (122 : Int32).toInt = 122 := rfl
  have rg_0 := i_range k
  have hl : lv_has ls 1 [(0, .int k)] := hl
  refine lv_iload_n hx hb dX12_folded_0 rfl (lv_at hl 0 rfl) ?_
  refine lv_bipush (v := 97) hx hb dX12_folded_1 (by decide) ?_
  refine lv_icmp_lt (tgt := 19) hx hb dX12_folded_3 rfl (fun h3 => ?_) (fun h3 => ?_)
  · have ch3 := i_lt h3
    refine lv_iload_n hx hb dX12_folded_19 rfl (lv_at hl 0 rfl) ?_
    exact h_reti hF hr hlk rfl dX12_folded_20 hH.1 hle ⟨rfl, by omega⟩
  · have ch3 := i_nlt h3
    refine lv_iload_n hx hb dX12_folded_6 rfl (lv_at hl 0 rfl) ?_
    refine lv_bipush (v := 122) hx hb dX12_folded_7 (by decide) ?_
    refine lv_icmp_gt (tgt := 19) hx hb dX12_folded_9 rfl (fun h4 => ?_) (fun h4 => ?_)
    · have ch4 := i_lt h4
      refine lv_iload_n hx hb dX12_folded_19 rfl (lv_at hl 0 rfl) ?_
      exact h_reti hF hr hlk rfl dX12_folded_20 hH.1 hle ⟨rfl, by omega⟩
    · have ch4 := i_nlt h4
      refine lv_iload_n hx hb dX12_folded_12 rfl (lv_at hl 0 rfl) ?_
      refine lv_bipush (v := 32) hx hb dX12_folded_13 (by decide) ?_
      refine lv_isub hx hb dX12_folded_15 ?_
      refine lv_topi (fun z5 ez5 => ?_)
      try have hz5 := i_sub ez5 (by omega) (by omega)
      refine lv_goto (tgt := 20) hx hb dX12_folded_16 rfl ?_
      exact h_reti hF hr hlk rfl dX12_folded_20 hH.1 hle ⟨rfl, by omega⟩
theorem dX12_nodes_0 : decode cX12_nodes 0 = .ok (.iconst 0, 1) := by decide +kernel
theorem dX12_nodes_1 : decode cX12_nodes 1 = .ok (.istore_n 2, 1) := by decide +kernel
theorem dX12_nodes_2 : decode cX12_nodes 2 = .ok (.iload_n 1, 1) := by decide +kernel
theorem dX12_nodes_3 : decode cX12_nodes 3 = .ok (.istore_n 3, 1) := by decide +kernel
theorem dX12_nodes_4 : decode cX12_nodes 4 = .ok (.iload_n 3, 1) := by decide +kernel
theorem dX12_nodes_5 : decode cX12_nodes 5 = .ok (.iload_n 1, 1) := by decide +kernel
theorem dX12_nodes_6 : decode cX12_nodes 6 = .ok (.bipush 80, 2) := by decide +kernel
theorem dX12_nodes_8 : decode cX12_nodes 8 = .ok (.iadd, 1) := by decide +kernel
theorem dX12_nodes_9 : decode cX12_nodes 9 = .ok (.if_icmp .ge 26, 3) := by decide +kernel
theorem dX12_nodes_12 : decode cX12_nodes 12 = .ok (.iload_n 2, 1) := by decide +kernel
theorem dX12_nodes_13 : decode cX12_nodes 13 = .ok (.aload_n 0, 1) := by decide +kernel
theorem dX12_nodes_14 : decode cX12_nodes 14 = .ok (.getfield 13, 3) := by decide +kernel
theorem dX12_nodes_17 : decode cX12_nodes 17 = .ok (.iload_n 3, 1) := by decide +kernel
theorem dX12_nodes_18 : decode cX12_nodes 18 = .ok (.baload, 1) := by decide +kernel
theorem dX12_nodes_19 : decode cX12_nodes 19 = .ok (.ifCond .eq 7, 3) := by decide +kernel
theorem dX12_nodes_22 : decode cX12_nodes 22 = .ok (.iconst 1, 1) := by decide +kernel
theorem dX12_nodes_23 : decode cX12_nodes 23 = .ok (.goto 4, 3) := by decide +kernel
theorem dX12_nodes_26 : decode cX12_nodes 26 = .ok (.iconst 0, 1) := by decide +kernel
theorem dX12_nodes_27 : decode cX12_nodes 27 = .ok (.iadd, 1) := by decide +kernel
theorem dX12_nodes_28 : decode cX12_nodes 28 = .ok (.istore_n 2, 1) := by decide +kernel
theorem dX12_nodes_29 : decode cX12_nodes 29 = .ok (.iinc 3 1, 3) := by decide +kernel
theorem dX12_nodes_32 : decode cX12_nodes 32 = .ok (.goto (-28), 3) := by decide +kernel
theorem dX12_nodes_35 : decode cX12_nodes 35 = .ok (.iload_n 2, 1) := by decide +kernel
theorem dX12_nodes_36 : decode cX12_nodes 36 = .ok (.ireturn, 1) := by decide +kernel
set_option maxRecDepth 100000 in
set_option maxHeartbeats 4000000 in
theorem c_X12_nodes (l : Launch) (D : va_G) (t : Nat → ClassId) (h0 : Nat) (L : Nat → Nat) (σ : HS) (hO : OK ph τ0 σ) (hM : MdI h0 L σ) (k : Int32) (hk : 0 ≤ k.toInt ∧ k.toInt ≤ 80) (sz : Nat) : HMi ph τ0 l D t yX12_nodes cX12_nodes 4 (some .int) ({ frames := 0, cells := 0, slots := 0, locals := 0 }) σ sz [.ref h0, .int k] 0 0 (fun r σ' => MdI h0 L σ' ∧ (σ' = σ ∧ 0 ≤ r.toInt ∧ r.toInt ≤ 80)) := by
  refine h_go hO (by decide) (Nat.le_of_ble_eq_true rfl) ?_
  intro p e s m below meth c ls A hF hr hlk hAe hH0 hA hl
  unfold hB
  rw [hAe]
  clear hAe
  have hF : FX p m c cX12_nodes 4 s _ RX12 D t := hF
  have hx := hF.1.1
  have hb := hF.1.2.1
  have hH : MT D t A s.heap h0 L σ s.heap [] := ⟨hH0, hM⟩
  have hle : HLe σ σ := HLe.rf
  have k_0 : (0 : Int32).toInt = 0 := rfl
  have k_1 : (1 : Int32).toInt = 1 := rfl
  have k_80 : (80 : Int32).toInt = 80 := rfl
  have rg_1 := i_range k
  have hl : lv_has ls 4 [(0, .ref h0), (1, .int k)] := hl
  refine lv_iconst (v := 0) hx hb dX12_nodes_0 (by decide) ?_
  refine lv_istore_n (lv' := [(2, .int 0), (0, .ref h0), (1, .int k)]) hx hb dX12_nodes_1 rfl hl (by decide) rfl (fun ls hl => ?_)
  refine lv_iload_n hx hb dX12_nodes_2 rfl (lv_at hl 2 rfl) ?_
  refine lv_istore_n (lv' := [(3, .int k), (2, .int 0), (0, .ref h0), (1, .int k)]) hx hb dX12_nodes_3 rfl hl (by decide) rfl (fun ls hl => ?_)
  have hl : lv_has ls 4 [(3, .int k), (2, .int 0), (1, .int k), (0, .ref h0)] := lv_sub hl [0, 1, 3, 2] rfl
  refine m_loop (β := Int32 × Int32) (L0 := fun x => [(3, .int x.1), (2, .int x.2), (1, .int k), (0, .ref h0)]) (I := fun x σ2 => HLe σ σ2 ∧ (σ = σ2 ∧ k.toInt ≤ x.1.toInt ∧ x.1.toInt ≤ k.toInt + 80 ∧ 0 ≤ x.2.toInt ∧ x.2.toInt ≤ x.1.toInt - k.toInt)) (fun x σ2 => (k.toInt + 80 - x.1.toInt).toNat) (k, 0) hl ⟨hle, ⟨rfl, by (try dsimp only); omega, by (try dsimp only); omega, by (try dsimp only); omega, by (try dsimp only); omega⟩⟩ hH (fun x σL ls H locs hl hI hH ih => ?_)
  obtain ⟨x6, x7⟩ := x
  obtain ⟨hle, hI⟩ := hI
  have hl : lv_has ls 4 [(3, .int x6), (2, .int x7), (1, .int k), (0, .ref h0)] := hl
  have hI : σ = σL ∧ k.toInt ≤ x6.toInt ∧ x6.toInt ≤ k.toInt + 80 ∧ 0 ≤ x7.toInt ∧ x7.toInt ≤ x6.toInt - k.toInt := hI
  refine lv_iload_n hx hb dX12_nodes_4 rfl (lv_at hl 0 rfl) ?_
  refine lv_iload_n hx hb dX12_nodes_5 rfl (lv_at hl 2 rfl) ?_
  refine lv_bipush (v := 80) hx hb dX12_nodes_6 (by decide) ?_
  refine lv_iadd hx hb dX12_nodes_8 ?_
  refine lv_topi (fun z8 ez8 => ?_)
  try have hz8 := i_add ez8 (by omega) (by omega)
  refine lv_icmp_ge (tgt := 35) hx hb dX12_nodes_9 rfl (fun h9 => ?_) (fun h9 => ?_)
  · have ch9 := i_le h9
    refine lv_iload_n hx hb dX12_nodes_35 rfl (lv_at hl 1 rfl) ?_
    exact h_reti hF hr hlk rfl dX12_nodes_36 hH.1 hle ⟨hH.2, hI.1.symm, by omega⟩
  · have ch9 := i_nle h9
    refine lv_iload_n hx hb dX12_nodes_12 rfl (lv_at hl 1 rfl) ?_
    refine lv_aload_n hx hb dX12_nodes_13 rfl (lv_at hl 3 rfl) ?_
    refine m_getA 1 hF hH fk_X12_13 dX12_nodes_14 (by decide) rfl ?_
    refine lv_iload_n hx hb dX12_nodes_17 rfl (lv_at hl 0 rfl) ?_
    refine m_zald 1 160 hF hH dX12_nodes_18 (by decide) rfl rfl 0 1 rfl rfl (by omega) (by omega) (fun z10 ez10 vz10 => ?_)
    refine lv_if_eq (tgt := 26) hx hb dX12_nodes_19 rfl (fun h11 => ?_) (fun h11 => ?_)
    · have ch11 := i_eq h11
      refine lv_iconst (v := 0) hx hb dX12_nodes_26 (by decide) ?_
      refine lv_iadd hx hb dX12_nodes_27 ?_
      refine lv_topi (fun z12 ez12 => ?_)
      try have hz12 := i_add ez12 (by omega) (by omega)
      refine lv_istore_n (lv' := [(2, .int z12), (3, .int x6), (1, .int k), (0, .ref h0)]) hx hb dX12_nodes_28 rfl hl (by decide) rfl (fun ls hl => ?_)
      obtain ⟨z13, ez13⟩ : ∃ z : Int32, z = x6 + Int32.ofInt 1 := ⟨_, rfl⟩
      have hz13 := i_add ez13 (by rw [show (Int32.ofInt 1).toInt = 1 from rfl]; omega) (by rw [show (Int32.ofInt 1).toInt = 1 from rfl]; omega)
      rw [show (Int32.ofInt 1).toInt = 1 from rfl] at hz13
      refine lv_iinc (lv' := [(3, .int z13), (2, .int z12), (1, .int k), (0, .ref h0)]) (k := 1) (v := z13) hx hb dX12_nodes_29 hl rfl ez13.symm (by decide) rfl (fun ls hl => ?_)
      refine lv_goto (tgt := 4) hx hb dX12_nodes_32 rfl ?_
      have hl : lv_has ls 4 [(3, .int z13), (2, .int z12), (1, .int k), (0, .ref h0)] := lv_sub hl [0, 1, 2, 3] rfl
      exact ih (z13, z12) σL ls H locs (by (try dsimp only); omega) hl ⟨hle, ⟨hI.1, by (try dsimp only); omega, by (try dsimp only); omega, by (try dsimp only); omega, by (try dsimp only); omega⟩⟩ hH
    · have ch11 := i_ne h11
      refine lv_iconst (v := 1) hx hb dX12_nodes_22 (by decide) ?_
      refine lv_goto (tgt := 27) hx hb dX12_nodes_23 rfl ?_
      refine lv_iadd hx hb dX12_nodes_27 ?_
      refine lv_topi (fun z14 ez14 => ?_)
      try have hz14 := i_add ez14 (by omega) (by omega)
      refine lv_istore_n (lv' := [(2, .int z14), (3, .int x6), (1, .int k), (0, .ref h0)]) hx hb dX12_nodes_28 rfl hl (by decide) rfl (fun ls hl => ?_)
      obtain ⟨z15, ez15⟩ : ∃ z : Int32, z = x6 + Int32.ofInt 1 := ⟨_, rfl⟩
      have hz15 := i_add ez15 (by rw [show (Int32.ofInt 1).toInt = 1 from rfl]; omega) (by rw [show (Int32.ofInt 1).toInt = 1 from rfl]; omega)
      rw [show (Int32.ofInt 1).toInt = 1 from rfl] at hz15
      refine lv_iinc (lv' := [(3, .int z15), (2, .int z14), (1, .int k), (0, .ref h0)]) (k := 1) (v := z15) hx hb dX12_nodes_29 hl rfl ez15.symm (by decide) rfl (fun ls hl => ?_)
      refine lv_goto (tgt := 4) hx hb dX12_nodes_32 rfl ?_
      have hl : lv_has ls 4 [(3, .int z15), (2, .int z14), (1, .int k), (0, .ref h0)] := lv_sub hl [0, 1, 2, 3] rfl
      exact ih (z15, z14) σL ls H locs (by (try dsimp only); omega) hl ⟨hle, ⟨hI.1, by (try dsimp only); omega, by (try dsimp only); omega, by (try dsimp only); omega, by (try dsimp only); omega⟩⟩ hH

theorem dX12_isLine_0 : decode cX12_isLine 0 = .ok (.iload_n 0, 1) := by decide +kernel
theorem dX12_isLine_1 : decode cX12_isLine 1 = .ok (.ifCond .lt 13, 3) := by decide +kernel
theorem dX12_isLine_4 : decode cX12_isLine 4 = .ok (.iload_n 0, 1) := by decide +kernel
theorem dX12_isLine_5 : decode cX12_isLine 5 = .ok (.bipush 6, 2) := by decide +kernel
theorem dX12_isLine_7 : decode cX12_isLine 7 = .ok (.if_icmp .ge 7, 3) := by decide +kernel
theorem dX12_isLine_10 : decode cX12_isLine 10 = .ok (.iconst 1, 1) := by decide +kernel
theorem dX12_isLine_11 : decode cX12_isLine 11 = .ok (.goto 4, 3) := by decide +kernel
theorem dX12_isLine_14 : decode cX12_isLine 14 = .ok (.iconst 0, 1) := by decide +kernel
theorem dX12_isLine_15 : decode cX12_isLine 15 = .ok (.ireturn, 1) := by decide +kernel
set_option maxRecDepth 100000 in
set_option maxHeartbeats 4000000 in
theorem c_X12_isLine (l : Launch) (D : va_G) (t : Nat → ClassId) (h0 : Nat) (L : Nat → Nat) (σ : HS) (hO : OK ph τ0 σ) (hM : MdI h0 L σ) (k : Int32) (sz : Nat) : HMi ph τ0 l D t yX12_isLine cX12_isLine 1 (some .boolean) ({ frames := 0, cells := 0, slots := 0, locals := 0 }) σ sz [.int k] 0 0 (fun r σ' => σ' = σ ∧ ((r.toInt = 1 ∧ 0 ≤ k.toInt ∧ k.toInt < 6) ∨ (r.toInt = 0 ∧ (k.toInt < 0 ∨ 6 ≤ k.toInt)))) := by
  refine h_go hO (by decide) (Nat.le_of_ble_eq_true rfl) ?_
  intro p e s m below meth c ls A hF hr hlk hAe hH0 hA hl
  unfold hB
  rw [hAe]
  clear hAe
  have hF : FX p m c cX12_isLine 1 s _ RX12 D t := hF
  have hx := hF.1.1
  have hb := hF.1.2.1
  have hH : MT D t A s.heap h0 L σ s.heap [] := ⟨hH0, hM⟩
  have hle : HLe σ σ := HLe.rf
  have k_0 : (0 : Int32).toInt = 0 := rfl
  have k_1 : (1 : Int32).toInt = 1 := rfl
  have k_6 : (6 : Int32).toInt = 6 := rfl
  have rg_0 := i_range k
  have hl : lv_has ls 1 [(0, .int k)] := hl
  refine lv_iload_n hx hb dX12_isLine_0 rfl (lv_at hl 0 rfl) ?_
  refine lv_if_lt (tgt := 14) hx hb dX12_isLine_1 rfl (fun h1 => ?_) (fun h1 => ?_)
  · have ch1 := i_lt h1
    refine lv_iconst (v := 0) hx hb dX12_isLine_14 (by decide) ?_
    exact h_reti hF hr hlk (i_01 (by omega)).1 dX12_isLine_15 hH.1 hle ⟨rfl, by (try dsimp only); omega⟩
  · have ch1 := i_nlt h1
    refine lv_iload_n hx hb dX12_isLine_4 rfl (lv_at hl 0 rfl) ?_
    refine lv_bipush (v := 6) hx hb dX12_isLine_5 (by decide) ?_
    refine lv_icmp_ge (tgt := 14) hx hb dX12_isLine_7 rfl (fun h2 => ?_) (fun h2 => ?_)
    · have ch2 := i_le h2
      refine lv_iconst (v := 0) hx hb dX12_isLine_14 (by decide) ?_
      exact h_reti hF hr hlk (i_01 (by omega)).1 dX12_isLine_15 hH.1 hle ⟨rfl, by (try dsimp only); omega⟩
    · have ch2 := i_nle h2
      refine lv_iconst (v := 1) hx hb dX12_isLine_10 (by decide) ?_
      refine lv_goto (tgt := 15) hx hb dX12_isLine_11 rfl ?_
      exact h_reti hF hr hlk (i_01 (by omega)).1 dX12_isLine_15 hH.1 hle ⟨rfl, by (try dsimp only); omega⟩
theorem dX12_folded_0 : decode cX12_folded 0 = .ok (.iload_n 0, 1) := by decide +kernel
theorem dX12_folded_1 : decode cX12_folded 1 = .ok (.bipush 97, 2) := by decide +kernel
theorem dX12_folded_3 : decode cX12_folded 3 = .ok (.if_icmp .lt 16, 3) := by decide +kernel
theorem dX12_folded_6 : decode cX12_folded 6 = .ok (.iload_n 0, 1) := by decide +kernel
theorem dX12_folded_7 : decode cX12_folded 7 = .ok (.bipush 122, 2) := by decide +kernel
theorem dX12_folded_9 : decode cX12_folded 9 = .ok (.if_icmp .gt 10, 3) := by decide +kernel
theorem dX12_folded_12 : decode cX12_folded 12 = .ok (.iload_n 0, 1) := by decide +kernel
theorem dX12_folded_13 : decode cX12_folded 13 = .ok (.bipush 32, 2) := by decide +kernel
theorem dX12_folded_15 : decode cX12_folded 15 = .ok (.isub, 1) := by decide +kernel
theorem dX12_folded_16 : decode cX12_folded 16 = .ok (.goto 4, 3) := by decide +kernel
theorem dX12_folded_19 : decode cX12_folded 19 = .ok (.iload_n 0, 1) := by decide +kernel
theorem dX12_folded_20 : decode cX12_folded 20 = .ok (.ireturn, 1) := by decide +kernel
set_option maxRecDepth 100000 in
set_option maxHeartbeats 4000000 in
theorem c_X12_folded (l : Launch) (D : va_G) (t : Nat → ClassId) (h0 : Nat) (L : Nat → Nat) (σ : HS) (hO : OK ph τ0 σ) (hM : MdI h0 L σ) (k : Int32) (sz : Nat) : HMi ph τ0 l D t yX12_folded cX12_folded 1 (some .int) ({ frames := 0, cells := 0, slots := 0, locals := 0 }) σ sz [.int k] 0 0 (fun r σ' => σ' = σ ∧ (r.toInt ≤ k.toInt ∧ k.toInt - 32 ≤ r.toInt)) := by
  refine h_go hO (by decide) (Nat.le_of_ble_eq_true rfl) ?_
  intro p e s m below meth c ls A hF hr hlk hAe hH0 hA hl
  unfold hB
  rw [hAe]
  clear hAe
  have hF : FX p m c cX12_folded 1 s _ RX12 D t := hF
  have hx := hF.1.1
  have hb := hF.1.2.1
  have hH : MT D t A s.heap h0 L σ s.heap [] := ⟨hH0, hM⟩
  have hle : HLe σ σ := HLe.rf
  have k_0 : (0 : Int32).toInt = 0 := rfl
  have k_32 : (32 : Int32).toInt = 32 := rfl
  have k_97 : (97 : Int32).toInt = 97 := rfl
  have k_122 : (122 : Int32).toInt = 122 := rfl
  have rg_0 := i_range k
  have hl : lv_has ls 1 [(0, .int k)] := hl
  refine lv_iload_n hx hb dX12_folded_0 rfl (lv_at hl 0 rfl) ?_
  refine lv_bipush (v := 97) hx hb dX12_folded_1 (by decide) ?_
  refine lv_icmp_lt (tgt := 19) hx hb dX12_folded_3 rfl (fun h3 => ?_) (fun h3 => ?_)
  · have ch3 := i_lt h3
    refine lv_iload_n hx hb dX12_folded_19 rfl (lv_at hl 0 rfl) ?_
    exact h_reti hF hr hlk rfl dX12_folded_20 hH.1 hle ⟨rfl, by (try dsimp only); omega⟩
  · have ch3 := i_nlt h3
    refine lv_iload_n hx hb dX12_folded_6 rfl (lv_at hl 0 rfl) ?_
    refine lv_bipush (v := 122) hx hb dX12_folded_7 (by decide) ?_
    refine lv_icmp_gt (tgt := 19) hx hb dX12_folded_9 rfl (fun h4 => ?_) (fun h4 => ?_)
    · have ch4 := i_lt h4
      refine lv_iload_n hx hb dX12_folded_19 rfl (lv_at hl 0 rfl) ?_
      exact h_reti hF hr hlk rfl dX12_folded_20 hH.1 hle ⟨rfl, by (try dsimp only); omega⟩
    · have ch4 := i_nlt h4
      refine lv_iload_n hx hb dX12_folded_12 rfl (lv_at hl 0 rfl) ?_
      refine lv_bipush (v := 32) hx hb dX12_folded_13 (by decide) ?_
      refine lv_isub hx hb dX12_folded_15 ?_
      refine lv_topi (fun z5 ez5 => ?_)
      try have hz5 := i_sub ez5 (by omega) (by omega)
      refine lv_goto (tgt := 20) hx hb dX12_folded_16 rfl ?_
      exact h_reti hF hr hlk rfl dX12_folded_20 hH.1 hle ⟨rfl, by (try dsimp only); omega⟩
theorem dX12_isLess_0 : decode cX12_isLess 0 = .ok (.lload_n 0, 1) := by decide +kernel
theorem dX12_isLess_1 : decode cX12_isLess 1 = .ok (.ldc2_w 269, 3) := by decide +kernel
theorem dX12_isLess_4 : decode cX12_isLess 4 = .ok (.lsub, 1) := by decide +kernel
theorem dX12_isLess_5 : decode cX12_isLess 5 = .ok (.lconst 1, 1) := by decide +kernel
theorem dX12_isLess_6 : decode cX12_isLess 6 = .ok (.lsub, 1) := by decide +kernel
theorem dX12_isLess_7 : decode cX12_isLess 7 = .ok (.lload_n 2, 1) := by decide +kernel
theorem dX12_isLess_8 : decode cX12_isLess 8 = .ok (.ldc2_w 269, 3) := by decide +kernel
theorem dX12_isLess_11 : decode cX12_isLess 11 = .ok (.lsub, 1) := by decide +kernel
theorem dX12_isLess_12 : decode cX12_isLess 12 = .ok (.lconst 1, 1) := by decide +kernel
theorem dX12_isLess_13 : decode cX12_isLess 13 = .ok (.lsub, 1) := by decide +kernel
theorem dX12_isLess_14 : decode cX12_isLess 14 = .ok (.lcmp, 1) := by decide +kernel
theorem dX12_isLess_15 : decode cX12_isLess 15 = .ok (.ifCond .ge 7, 3) := by decide +kernel
theorem dX12_isLess_18 : decode cX12_isLess 18 = .ok (.iconst 1, 1) := by decide +kernel
theorem dX12_isLess_19 : decode cX12_isLess 19 = .ok (.goto 4, 3) := by decide +kernel
theorem dX12_isLess_22 : decode cX12_isLess 22 = .ok (.iconst 0, 1) := by decide +kernel
theorem dX12_isLess_23 : decode cX12_isLess 23 = .ok (.ireturn, 1) := by decide +kernel
set_option maxRecDepth 100000 in
set_option maxHeartbeats 4000000 in
theorem c_X12_isLess (l : Launch) (D : va_G) (t : Nat → ClassId) (h0 : Nat) (L : Nat → Nat) (σ : HS) (hO : OK ph τ0 σ) (hM : MdI h0 L σ) (a b : Int64) (sz : Nat) : HMi ph τ0 l D t yX12_isLess cX12_isLess 4 (some .boolean) ({ frames := 0, cells := 0, slots := 0, locals := 0 }) σ sz [.long a, .long b] 0 0 (fun r σ' => σ' = σ ∧ (0 ≤ r.toInt ∧ r.toInt ≤ 1)) := by
  refine h_go hO (by decide) (Nat.le_of_ble_eq_true rfl) ?_
  intro p e s m below meth c ls A hF hr hlk hAe hH0 hA hl
  unfold hB
  rw [hAe]
  clear hAe
  have hF : FX p m c cX12_isLess 4 s _ RX12 D t := hF
  have hx := hF.1.1
  have hb := hF.1.2.1
  have hH : MT D t A s.heap h0 L σ s.heap [] := ⟨hH0, hM⟩
  have hle : HLe σ σ := HLe.rf
  have kl_1 : (1 : Int64).toInt = 1 := rfl
  have kl_9223372036854775807 : (9223372036854775807 : Int64).toInt = 9223372036854775807 := rfl
  have k_0 : (0 : Int32).toInt = 0 := rfl
  have k_1 : (1 : Int32).toInt = 1 := rfl
  have hl : lv_has ls 4 [(0, .long a), (2, .long b)] := hl
  refine lv_lload_n hx hb dX12_isLess_0 rfl (lv_at hl 0 rfl) ?_
  refine lv_ldc2 (v := 9223372036854775807) hx hb hF.1.2.2.2.1 (hF.1.2.2.2.2 _ (wc_46 4 rfl)) dX12_isLess_1 ?_
  refine lv_lsub hx hb dX12_isLess_4 ?_
  refine lv_topl (fun z6 ez6 => ?_)
  try have hz6 := l_sub ez6 (by omega) (by omega)
  refine lv_lconst (v := 1) hx hb dX12_isLess_5 (by decide) ?_
  refine lv_lsub hx hb dX12_isLess_6 ?_
  refine lv_topl (fun z7 ez7 => ?_)
  try have hz7 := l_sub ez7 (by omega) (by omega)
  refine lv_lload_n hx hb dX12_isLess_7 rfl (lv_at hl 1 rfl) ?_
  refine lv_ldc2 (v := 9223372036854775807) hx hb hF.1.2.2.2.1 (hF.1.2.2.2.2 _ (wc_46 4 rfl)) dX12_isLess_8 ?_
  refine lv_lsub hx hb dX12_isLess_11 ?_
  refine lv_topl (fun z8 ez8 => ?_)
  try have hz8 := l_sub ez8 (by omega) (by omega)
  refine lv_lconst (v := 1) hx hb dX12_isLess_12 (by decide) ?_
  refine lv_lsub hx hb dX12_isLess_13 ?_
  refine lv_topl (fun z9 ez9 => ?_)
  try have hz9 := l_sub ez9 (by omega) (by omega)
  refine W.lcmp hx hb dX12_isLess_14 ?_
  refine lv_topi (fun z10 ez10 => ?_)
  have hz10 := l_cmp ez10
  refine lv_if_ge (tgt := 22) hx hb dX12_isLess_15 rfl (fun h11 => ?_) (fun h11 => ?_)
  · have ch11 := i_le h11
    refine lv_iconst (v := 0) hx hb dX12_isLess_22 (by decide) ?_
    exact h_reti hF hr hlk (i_01 (by omega)).1 dX12_isLess_23 hH.1 hle ⟨rfl, by (try dsimp only); omega⟩
  · have ch11 := i_nle h11
    refine lv_iconst (v := 1) hx hb dX12_isLess_18 (by decide) ?_
    refine lv_goto (tgt := 23) hx hb dX12_isLess_19 rfl ?_
    exact h_reti hF hr hlk (i_01 (by omega)).1 dX12_isLess_23 hH.1 hle ⟨rfl, by (try dsimp only); omega⟩
theorem dX12_nodes_0 : decode cX12_nodes 0 = .ok (.iconst 0, 1) := by decide +kernel
theorem dX12_nodes_1 : decode cX12_nodes 1 = .ok (.istore_n 2, 1) := by decide +kernel
theorem dX12_nodes_2 : decode cX12_nodes 2 = .ok (.iload_n 1, 1) := by decide +kernel
theorem dX12_nodes_3 : decode cX12_nodes 3 = .ok (.istore_n 3, 1) := by decide +kernel
theorem dX12_nodes_4 : decode cX12_nodes 4 = .ok (.iload_n 3, 1) := by decide +kernel
theorem dX12_nodes_5 : decode cX12_nodes 5 = .ok (.iload_n 1, 1) := by decide +kernel
theorem dX12_nodes_6 : decode cX12_nodes 6 = .ok (.bipush 80, 2) := by decide +kernel
theorem dX12_nodes_8 : decode cX12_nodes 8 = .ok (.iadd, 1) := by decide +kernel
theorem dX12_nodes_9 : decode cX12_nodes 9 = .ok (.if_icmp .ge 26, 3) := by decide +kernel
theorem dX12_nodes_12 : decode cX12_nodes 12 = .ok (.iload_n 2, 1) := by decide +kernel
theorem dX12_nodes_13 : decode cX12_nodes 13 = .ok (.aload_n 0, 1) := by decide +kernel
theorem dX12_nodes_14 : decode cX12_nodes 14 = .ok (.getfield 13, 3) := by decide +kernel
theorem dX12_nodes_17 : decode cX12_nodes 17 = .ok (.iload_n 3, 1) := by decide +kernel
theorem dX12_nodes_18 : decode cX12_nodes 18 = .ok (.baload, 1) := by decide +kernel
theorem dX12_nodes_19 : decode cX12_nodes 19 = .ok (.ifCond .eq 7, 3) := by decide +kernel
theorem dX12_nodes_22 : decode cX12_nodes 22 = .ok (.iconst 1, 1) := by decide +kernel
theorem dX12_nodes_23 : decode cX12_nodes 23 = .ok (.goto 4, 3) := by decide +kernel
theorem dX12_nodes_26 : decode cX12_nodes 26 = .ok (.iconst 0, 1) := by decide +kernel
theorem dX12_nodes_27 : decode cX12_nodes 27 = .ok (.iadd, 1) := by decide +kernel
theorem dX12_nodes_28 : decode cX12_nodes 28 = .ok (.istore_n 2, 1) := by decide +kernel
theorem dX12_nodes_29 : decode cX12_nodes 29 = .ok (.iinc 3 1, 3) := by decide +kernel
theorem dX12_nodes_32 : decode cX12_nodes 32 = .ok (.goto (-28), 3) := by decide +kernel
theorem dX12_nodes_35 : decode cX12_nodes 35 = .ok (.iload_n 2, 1) := by decide +kernel
theorem dX12_nodes_36 : decode cX12_nodes 36 = .ok (.ireturn, 1) := by decide +kernel
set_option maxRecDepth 100000 in
set_option maxHeartbeats 4000000 in
theorem c_X12_nodes (l : Launch) (D : va_G) (t : Nat → ClassId) (h0 : Nat) (L : Nat → Nat) (σ : HS) (hO : OK ph τ0 σ) (hM : MdI h0 L σ) (k : Int32) (hk : 0 ≤ k.toInt ∧ k.toInt ≤ 80) (sz : Nat) : HMi ph τ0 l D t yX12_nodes cX12_nodes 4 (some .int) ({ frames := 0, cells := 0, slots := 0, locals := 0 }) σ sz [.ref h0, .int k] 0 0 (fun r σ' => MdI h0 L σ' ∧ σ' = σ ∧ ((0 ≤ r.toInt ∧ r.toInt ≤ 80) ∧ ((∀ i : Nat, i < 80 → (sI σ (L 1) (k.toInt.toNat + i)).toInt ≠ 0) → r.toInt = 80))) := by
  refine h_go hO (by decide) (Nat.le_of_ble_eq_true rfl) ?_
  intro p e s m below meth c ls A hF hr hlk hAe hH0 hA hl
  unfold hB
  rw [hAe]
  clear hAe
  have hF : FX p m c cX12_nodes 4 s _ RX12 D t := hF
  have hx := hF.1.1
  have hb := hF.1.2.1
  have hH : MT D t A s.heap h0 L σ s.heap [] := ⟨hH0, hM⟩
  have hle : HLe σ σ := HLe.rf
  have k_0 : (0 : Int32).toInt = 0 := rfl
  have k_1 : (1 : Int32).toInt = 1 := rfl
  have k_80 : (80 : Int32).toInt = 80 := rfl
  have rg_1 := i_range k
  have hl : lv_has ls 4 [(0, .ref h0), (1, .int k)] := hl
  refine lv_iconst (v := 0) hx hb dX12_nodes_0 (by decide) ?_
  refine lv_istore_n (lv' := [(2, .int 0), (0, .ref h0), (1, .int k)]) hx hb dX12_nodes_1 rfl hl (by decide) rfl (fun ls hl => ?_)
  refine lv_iload_n hx hb dX12_nodes_2 rfl (lv_at hl 2 rfl) ?_
  refine lv_istore_n (lv' := [(3, .int k), (2, .int 0), (0, .ref h0), (1, .int k)]) hx hb dX12_nodes_3 rfl hl (by decide) rfl (fun ls hl => ?_)
  have hl : lv_has ls 4 [(3, .int k), (2, .int 0), (1, .int k), (0, .ref h0)] := lv_sub hl [0, 1, 3, 2] rfl
  refine m_loop (β := Int32 × Int32) (L0 := fun x => [(3, .int x.1), (2, .int x.2), (1, .int k), (0, .ref h0)]) (I := fun x σ2 => σ = σ2 ∧ ((k.toInt ≤ x.1.toInt ∧ x.1.toInt ≤ k.toInt + 80 ∧ 0 ≤ x.2.toInt ∧ x.2.toInt ≤ x.1.toInt - k.toInt) ∧ ((∀ i : Nat, i < 80 → (sI σ (L 1) (k.toInt.toNat + i)).toInt ≠ 0) → x.2.toInt = x.1.toInt - k.toInt))) (fun x σ2 => (k.toInt + 80 - x.1.toInt).toNat) (k, 0) hl ⟨rfl, ⟨by (try dsimp only); omega, fun _ => by (try dsimp only); omega⟩⟩ hH (fun x σL ls H locs hl hI hH ih => ?_)
  obtain ⟨x12, x13⟩ := x
  obtain ⟨hsL, hI⟩ := hI
  subst hsL
  have hl : lv_has ls 4 [(3, .int x12), (2, .int x13), (1, .int k), (0, .ref h0)] := hl
  have hI : (k.toInt ≤ x12.toInt ∧ x12.toInt ≤ k.toInt + 80 ∧ 0 ≤ x13.toInt ∧ x13.toInt ≤ x12.toInt - k.toInt) ∧ ((∀ i : Nat, i < 80 → (sI σ (L 1) (k.toInt.toNat + i)).toInt ≠ 0) → x13.toInt = x12.toInt - k.toInt) := hI
  have rg_x12 := i_range x12
  have rg_x13 := i_range x13
  have hall := hI.2
  have hI := hI.1
  refine lv_iload_n hx hb dX12_nodes_4 rfl (lv_at hl 0 rfl) ?_
  refine lv_iload_n hx hb dX12_nodes_5 rfl (lv_at hl 2 rfl) ?_
  refine lv_bipush (v := 80) hx hb dX12_nodes_6 (by decide) ?_
  refine lv_iadd hx hb dX12_nodes_8 ?_
  refine lv_topi (fun z14 ez14 => ?_)
  try have hz14 := i_add ez14 (by omega) (by omega)
  refine lv_icmp_ge (tgt := 35) hx hb dX12_nodes_9 rfl (fun h15 => ?_) (fun h15 => ?_)
  · have ch15 := i_le h15
    refine lv_iload_n hx hb dX12_nodes_35 rfl (lv_at hl 1 rfl) ?_
    exact h_reti hF hr hlk rfl dX12_nodes_36 hH.1 hle ⟨hH.2, rfl, ⟨by (try dsimp only); omega, fun q => by have := hall q; omega⟩⟩
  · have ch15 := i_nle h15
    have hik : k.toInt.toNat + (x12.toInt - k.toInt).toNat = x12.toInt.toNat := by omega
    have hia : (∀ i : Nat, i < 80 → (sI σ (L 1) (k.toInt.toNat + i)).toInt ≠ 0) → (sI σ (L 1) x12.toInt.toNat).toInt ≠ 0 := fun q => by have := q (x12.toInt - k.toInt).toNat (by omega); rw [hik] at this; exact this
    refine lv_iload_n hx hb dX12_nodes_12 rfl (lv_at hl 1 rfl) ?_
    refine lv_aload_n hx hb dX12_nodes_13 rfl (lv_at hl 3 rfl) ?_
    refine m_getA 1 hF hH fk_X12_13 dX12_nodes_14 (by decide) rfl ?_
    refine lv_iload_n hx hb dX12_nodes_17 rfl (lv_at hl 0 rfl) ?_
    refine m_zald 1 160 hF hH dX12_nodes_18 (by decide) rfl rfl 0 1 rfl rfl (by omega) (by omega) (fun z16 ez16 vz16 => ?_)
    have wz16 := i_eq ez16
    refine lv_if_eq (tgt := 26) hx hb dX12_nodes_19 rfl (fun h17 => ?_) (fun h17 => ?_)
    · have ch17 := i_eq h17
      refine lv_iconst (v := 0) hx hb dX12_nodes_26 (by decide) ?_
      refine lv_iadd hx hb dX12_nodes_27 ?_
      refine lv_topi (fun z18 ez18 => ?_)
      try have hz18 := i_add ez18 (by omega) (by omega)
      refine lv_istore_n (lv' := [(2, .int z18), (3, .int x12), (1, .int k), (0, .ref h0)]) hx hb dX12_nodes_28 rfl hl (by decide) rfl (fun ls hl => ?_)
      obtain ⟨z19, ez19⟩ : ∃ z : Int32, z = x12 + Int32.ofInt 1 := ⟨_, rfl⟩
      have hz19 := i_add ez19 (by rw [show (Int32.ofInt 1).toInt = 1 from rfl]; omega) (by rw [show (Int32.ofInt 1).toInt = 1 from rfl]; omega)
      rw [show (Int32.ofInt 1).toInt = 1 from rfl] at hz19
      refine lv_iinc (lv' := [(3, .int z19), (2, .int z18), (1, .int k), (0, .ref h0)]) (k := 1) (v := z19) hx hb dX12_nodes_29 hl rfl ez19.symm (by decide) rfl (fun ls hl => ?_)
      refine lv_goto (tgt := 4) hx hb dX12_nodes_32 rfl ?_
      have hl : lv_has ls 4 [(3, .int z19), (2, .int z18), (1, .int k), (0, .ref h0)] := lv_sub hl [0, 1, 2, 3] rfl
      exact ih (z19, z18) σ ls H locs (by (try dsimp only); omega) hl ⟨rfl, ⟨by (try dsimp only); omega, fun q => by have := hall q; have := hia q; (try dsimp only); omega⟩⟩ hH
    · have ch17 := i_ne h17
      refine lv_iconst (v := 1) hx hb dX12_nodes_22 (by decide) ?_
      refine lv_goto (tgt := 27) hx hb dX12_nodes_23 rfl ?_
      refine lv_iadd hx hb dX12_nodes_27 ?_
      refine lv_topi (fun z20 ez20 => ?_)
      try have hz20 := i_add ez20 (by omega) (by omega)
      refine lv_istore_n (lv' := [(2, .int z20), (3, .int x12), (1, .int k), (0, .ref h0)]) hx hb dX12_nodes_28 rfl hl (by decide) rfl (fun ls hl => ?_)
      obtain ⟨z21, ez21⟩ : ∃ z : Int32, z = x12 + Int32.ofInt 1 := ⟨_, rfl⟩
      have hz21 := i_add ez21 (by rw [show (Int32.ofInt 1).toInt = 1 from rfl]; omega) (by rw [show (Int32.ofInt 1).toInt = 1 from rfl]; omega)
      rw [show (Int32.ofInt 1).toInt = 1 from rfl] at hz21
      refine lv_iinc (lv' := [(3, .int z21), (2, .int z20), (1, .int k), (0, .ref h0)]) (k := 1) (v := z21) hx hb dX12_nodes_29 hl rfl ez21.symm (by decide) rfl (fun ls hl => ?_)
      refine lv_goto (tgt := 4) hx hb dX12_nodes_32 rfl ?_
      have hl : lv_has ls 4 [(3, .int z21), (2, .int z20), (1, .int k), (0, .ref h0)] := lv_sub hl [0, 1, 2, 3] rfl
      exact ih (z21, z20) σ ls H locs (by (try dsimp only); omega) hl ⟨rfl, ⟨by (try dsimp only); omega, fun q => by have := hall q; have := hia q; (try dsimp only); omega⟩⟩ hH
theorem dX12_freeNode_0 : decode cX12_freeNode 0 = .ok (.iconst 0, 1) := by decide +kernel
theorem dX12_freeNode_1 : decode cX12_freeNode 1 = .ok (.istore_n 1, 1) := by decide +kernel
theorem dX12_freeNode_2 : decode cX12_freeNode 2 = .ok (.iload_n 1, 1) := by decide +kernel
theorem dX12_freeNode_3 : decode cX12_freeNode 3 = .ok (.bipush 80, 2) := by decide +kernel
theorem dX12_freeNode_5 : decode cX12_freeNode 5 = .ok (.if_icmp .ge 18, 3) := by decide +kernel
theorem dX12_freeNode_8 : decode cX12_freeNode 8 = .ok (.aload_n 0, 1) := by decide +kernel
theorem dX12_freeNode_9 : decode cX12_freeNode 9 = .ok (.getfield 13, 3) := by decide +kernel
theorem dX12_freeNode_12 : decode cX12_freeNode 12 = .ok (.iload_n 1, 1) := by decide +kernel
theorem dX12_freeNode_13 : decode cX12_freeNode 13 = .ok (.baload, 1) := by decide +kernel
theorem dX12_freeNode_14 : decode cX12_freeNode 14 = .ok (.ifCond .eq 9, 3) := by decide +kernel
theorem dX12_freeNode_17 : decode cX12_freeNode 17 = .ok (.iinc 1 1, 3) := by decide +kernel
theorem dX12_freeNode_20 : decode cX12_freeNode 20 = .ok (.goto (-18), 3) := by decide +kernel
theorem dX12_freeNode_23 : decode cX12_freeNode 23 = .ok (.iload_n 1, 1) := by decide +kernel
theorem dX12_freeNode_24 : decode cX12_freeNode 24 = .ok (.ireturn, 1) := by decide +kernel
set_option maxRecDepth 100000 in
set_option maxHeartbeats 4000000 in
theorem c_X12_freeNode (l : Launch) (D : va_G) (t : Nat → ClassId) (h0 : Nat) (L : Nat → Nat) (σ : HS) (hO : OK ph τ0 σ) (hM : MdI h0 L σ) (sz : Nat) : HMi ph τ0 l D t yX12_freeNode cX12_freeNode 2 (some .int) ({ frames := 0, cells := 0, slots := 0, locals := 0 }) σ sz [.ref h0] 0 0 (fun r σ' => MdI h0 L σ' ∧ σ' = σ ∧ ((0 ≤ r.toInt ∧ r.toInt ≤ 80 ∧ (r.toInt < 80 → (sI σ (L 1) r.toInt.toNat).toInt = 0)) ∧ (r.toInt = 80 → ∀ i : Nat, i < 80 → (sI σ (L 1) i).toInt ≠ 0))) := by
  refine h_go hO (by decide) (Nat.le_of_ble_eq_true rfl) ?_
  intro p e s m below meth c ls A hF hr hlk hAe hH0 hA hl
  unfold hB
  rw [hAe]
  clear hAe
  have hF : FX p m c cX12_freeNode 2 s _ RX12 D t := hF
  have hx := hF.1.1
  have hb := hF.1.2.1
  have hH : MT D t A s.heap h0 L σ s.heap [] := ⟨hH0, hM⟩
  have hle : HLe σ σ := HLe.rf
  have k_0 : (0 : Int32).toInt = 0 := rfl
  have k_80 : (80 : Int32).toInt = 80 := rfl
  have hl : lv_has ls 2 [(0, .ref h0)] := hl
  refine lv_iconst (v := 0) hx hb dX12_freeNode_0 (by decide) ?_
  refine lv_istore_n (lv' := [(1, .int 0), (0, .ref h0)]) hx hb dX12_freeNode_1 rfl hl (by decide) rfl (fun ls hl => ?_)
  refine m_loop (β := Int32) (L0 := fun x => [(1, .int x), (0, .ref h0)]) (I := fun x σ2 => σ = σ2 ∧ ((0 ≤ x.toInt ∧ x.toInt ≤ 80) ∧ (∀ i : Nat, i < x.toInt.toNat → (sI σ (L 1) i).toInt ≠ 0))) (fun x σ2 => (80 - x.toInt).toNat) (0) hl ⟨rfl, ⟨by (try dsimp only); omega, fun i hi => by exfalso; (try dsimp only at hi); omega⟩⟩ hH (fun x σL ls H locs hl hI hH ih => ?_)
  obtain ⟨x22, hx1⟩ : ∃ y, y = x := ⟨_, rfl⟩
  subst hx1
  obtain ⟨hsL, hI⟩ := hI
  subst hsL
  have hl : lv_has ls 2 [(1, .int x22), (0, .ref h0)] := hl
  have hI : (0 ≤ x22.toInt ∧ x22.toInt ≤ 80) ∧ (∀ i : Nat, i < x22.toInt.toNat → (sI σ (L 1) i).toInt ≠ 0) := hI
  have rg_x22 := i_range x22
  have hall := hI.2
  have hI := hI.1
  refine lv_iload_n hx hb dX12_freeNode_2 rfl (lv_at hl 0 rfl) ?_
  refine lv_bipush (v := 80) hx hb dX12_freeNode_3 (by decide) ?_
  refine lv_icmp_ge (tgt := 23) hx hb dX12_freeNode_5 rfl (fun h23 => ?_) (fun h23 => ?_)
  · have ch23 := i_le h23
    refine lv_iload_n hx hb dX12_freeNode_23 rfl (lv_at hl 0 rfl) ?_
    exact h_reti hF hr hlk rfl dX12_freeNode_24 hH.1 hle ⟨hH.2, rfl, ⟨by (try dsimp only); omega, fun q i hi => hall i (by omega)⟩⟩
  · have ch23 := i_nle h23
    refine lv_aload_n hx hb dX12_freeNode_8 rfl (lv_at hl 1 rfl) ?_
    refine m_getA 1 hF hH fk_X12_13 dX12_freeNode_9 (by decide) rfl ?_
    refine lv_iload_n hx hb dX12_freeNode_12 rfl (lv_at hl 0 rfl) ?_
    refine m_zald 1 160 hF hH dX12_freeNode_13 (by decide) rfl rfl 0 1 rfl rfl (by omega) (by omega) (fun z24 ez24 vz24 => ?_)
    have wz24 := i_eq ez24
    refine lv_if_eq (tgt := 23) hx hb dX12_freeNode_14 rfl (fun h25 => ?_) (fun h25 => ?_)
    · have ch25 := i_eq h25
      refine lv_iload_n hx hb dX12_freeNode_23 rfl (lv_at hl 0 rfl) ?_
      exact h_reti hF hr hlk rfl dX12_freeNode_24 hH.1 hle ⟨hH.2, rfl, ⟨by (try dsimp only); omega, fun q i hi => hall i (by omega)⟩⟩
    · have ch25 := i_ne h25
      obtain ⟨z26, ez26⟩ : ∃ z : Int32, z = x22 + Int32.ofInt 1 := ⟨_, rfl⟩
      have hz26 := i_add ez26 (by rw [show (Int32.ofInt 1).toInt = 1 from rfl]; omega) (by rw [show (Int32.ofInt 1).toInt = 1 from rfl]; omega)
      rw [show (Int32.ofInt 1).toInt = 1 from rfl] at hz26
      refine lv_iinc (lv' := [(1, .int z26), (0, .ref h0)]) (k := 0) (v := z26) hx hb dX12_freeNode_17 hl rfl ez26.symm (by decide) rfl (fun ls hl => ?_)
      refine lv_goto (tgt := 2) hx hb dX12_freeNode_20 rfl ?_
      have hnew : (sI σ (L 1) x22.toInt.toNat).toInt ≠ 0 := by omega
      have hl : lv_has ls 2 [(1, .int z26), (0, .ref h0)] := lv_sub hl [0, 1] rfl
      exact ih (z26) σ ls H locs (by (try dsimp only); omega) hl ⟨rfl, ⟨by (try dsimp only); omega, fun i hi => by (try dsimp only at hi); rcases (show i < x22.toInt.toNat ∨ i = x22.toInt.toNat by omega) with q | q; exact hall i q; rw [q]; exact hnew⟩⟩ hH
theorem dX12_zero_0 : decode cX12_zero 0 = .ok (.iload_n 2, 1) := by decide +kernel
theorem dX12_zero_1 : decode cX12_zero 1 = .ok (.istore 4, 2) := by decide +kernel
theorem dX12_zero_3 : decode cX12_zero 3 = .ok (.iload 4, 2) := by decide +kernel
theorem dX12_zero_5 : decode cX12_zero 5 = .ok (.iload_n 3, 1) := by decide +kernel
theorem dX12_zero_6 : decode cX12_zero 6 = .ok (.if_icmp .ge 23, 3) := by decide +kernel
theorem dX12_zero_9 : decode cX12_zero 9 = .ok (.aload_n 0, 1) := by decide +kernel
theorem dX12_zero_10 : decode cX12_zero 10 = .ok (.getfield 41, 3) := by decide +kernel
theorem dX12_zero_13 : decode cX12_zero 13 = .ok (.sipush 4096, 3) := by decide +kernel
theorem dX12_zero_16 : decode cX12_zero 16 = .ok (.iload_n 1, 1) := by decide +kernel
theorem dX12_zero_17 : decode cX12_zero 17 = .ok (.imul, 1) := by decide +kernel
theorem dX12_zero_18 : decode cX12_zero 18 = .ok (.iload 4, 2) := by decide +kernel
theorem dX12_zero_20 : decode cX12_zero 20 = .ok (.iadd, 1) := by decide +kernel
theorem dX12_zero_21 : decode cX12_zero 21 = .ok (.iconst 0, 1) := by decide +kernel
theorem dX12_zero_22 : decode cX12_zero 22 = .ok (.bastore, 1) := by decide +kernel
theorem dX12_zero_23 : decode cX12_zero 23 = .ok (.iinc 4 1, 3) := by decide +kernel
theorem dX12_zero_26 : decode cX12_zero 26 = .ok (.goto (-23), 3) := by decide +kernel
theorem dX12_zero_29 : decode cX12_zero 29 = .ok (.return_, 1) := by decide +kernel
set_option maxRecDepth 100000 in
set_option maxHeartbeats 4000000 in
theorem c_X12_zero (l : Launch) (D : va_G) (t : Nat → ClassId) (h0 : Nat) (L : Nat → Nat) (σ : HS) (hO : OK ph τ0 σ) (hM : MdI h0 L σ) (n a b : Int32) (hz : 0 ≤ n.toInt ∧ n.toInt < 160 ∧ 0 ≤ a.toInt ∧ b.toInt ≤ 4096) (sz : Nat) : HMv ph τ0 l D t yX12_zero cX12_zero 5 ({ frames := 0, cells := 0, slots := 0, locals := 0 }) σ sz [.ref h0, .int n, .int a, .int b] 0 0 (fun σ' => MdI h0 L σ' ∧ Fr h0 L [] [9] σ σ' ∧ (True)) := by
  refine h_go hO (by decide) (Nat.le_of_ble_eq_true rfl) ?_
  intro p e s m below meth c ls A hF hr hlk hAe hH0 hA hl
  unfold hB
  rw [hAe]
  clear hAe
  have hF : FX p m c cX12_zero 5 s _ RX12 D t := hF
  have hx := hF.1.1
  have hb := hF.1.2.1
  have hH : MT D t A s.heap h0 L σ s.heap [] := ⟨hH0, hM⟩
  have hle : HLe σ σ := HLe.rf
  have hfr : Fr h0 L [] [9] σ σ := Fr.rf
  have k_0 : (0 : Int32).toInt = 0 := rfl
  have k_4096 : (4096 : Int32).toInt = 4096 := rfl
  have rg_1 := i_range n
  have rg_2 := i_range a
  have rg_3 := i_range b
  have hl : lv_has ls 5 [(0, .ref h0), (1, .int n), (2, .int a), (3, .int b)] := hl
  refine lv_iload_n hx hb dX12_zero_0 rfl (lv_at hl 2 rfl) ?_
  refine lv_istore (lv' := [(4, .int a), (0, .ref h0), (1, .int n), (2, .int a), (3, .int b)]) hx hb dX12_zero_1 hl (by decide) rfl (fun ls hl => ?_)
  have hl : lv_has ls 5 [(4, .int a), (3, .int b), (2, .int a), (1, .int n), (0, .ref h0)] := lv_sub hl [0, 4, 3, 2, 1] rfl
  refine m_loop (β := Int32) (L0 := fun x => [(4, .int x), (3, .int b), (2, .int a), (1, .int n), (0, .ref h0)]) (I := fun x σ2 => HLe σ σ2 ∧ Fr h0 L [] [9] σ σ2 ∧ (0 ≤ x.toInt)) (fun x σ2 => (4096 - x.toInt).toNat) (a) hl ⟨hle, hfr, by (try dsimp only); omega⟩ hH (fun x σL ls H locs hl hI hH ih => ?_)
  obtain ⟨x27, hx1⟩ : ∃ y, y = x := ⟨_, rfl⟩
  subst hx1
  obtain ⟨hle, hfr, hI⟩ := hI
  have hl : lv_has ls 5 [(4, .int x27), (3, .int b), (2, .int a), (1, .int n), (0, .ref h0)] := hl
  have hI : 0 ≤ x27.toInt := hI
  have rg_x27 := i_range x27
  refine lv_iload hx hb dX12_zero_3 (lv_at hl 0 rfl) ?_
  refine lv_iload_n hx hb dX12_zero_5 rfl (lv_at hl 1 rfl) ?_
  refine lv_icmp_ge (tgt := 29) hx hb dX12_zero_6 rfl (fun h28 => ?_) (fun h28 => ?_)
  · have ch28 := i_le h28
    exact h_retv hF hr hlk dX12_zero_29 hH.1 hle ⟨hH.2, hfr, trivial⟩
  · have ch28 := i_nle h28
    refine lv_aload_n hx hb dX12_zero_9 rfl (lv_at hl 4 rfl) ?_
    refine m_getA 9 hF hH fk_X12_41 dX12_zero_10 (by decide) rfl ?_
    refine lv_sipush (v := 4096) hx hb dX12_zero_13 (by decide) ?_
    refine lv_iload_n hx hb dX12_zero_16 rfl (lv_at hl 3 rfl) ?_
    refine lv_imul hx hb dX12_zero_17 ?_
    refine lv_topi (fun z29 ez29 => ?_)
    try have hz29 := i_mulk 4096 rfl ez29 (by omega) (by omega)
    refine lv_iload hx hb dX12_zero_18 (lv_at hl 0 rfl) ?_
    refine lv_iadd hx hb dX12_zero_20 ?_
    refine lv_topi (fun z30 ez30 => ?_)
    try have hz30 := i_add ez30 (by omega) (by omega)
    refine lv_iconst (v := 0) hx hb dX12_zero_21 (by decide) ?_
    have hMp := hH.2
    refine m_bast 9 655360 hF hH dX12_zero_22 (by decide) rfl rfl rfl rfl (by omega) (by omega) (fun σ31 H locs eσ31 hH => ?_)
    have hle := hle.tr (show HLe σL σ31 by rw [eσ31]; exact HLe.uI)
    have hfr := hfr.aI hMp (by decide) eσ31 (by decide)
    obtain ⟨z32, ez32⟩ : ∃ z : Int32, z = x27 + Int32.ofInt 1 := ⟨_, rfl⟩
    have hz32 := i_add ez32 (by rw [show (Int32.ofInt 1).toInt = 1 from rfl]; omega) (by rw [show (Int32.ofInt 1).toInt = 1 from rfl]; omega)
    rw [show (Int32.ofInt 1).toInt = 1 from rfl] at hz32
    refine lv_iinc (lv' := [(4, .int z32), (3, .int b), (2, .int a), (1, .int n), (0, .ref h0)]) (k := 0) (v := z32) hx hb dX12_zero_23 hl rfl ez32.symm (by decide) rfl (fun ls hl => ?_)
    refine lv_goto (tgt := 3) hx hb dX12_zero_26 rfl ?_
    have hl : lv_has ls 5 [(4, .int z32), (3, .int b), (2, .int a), (1, .int n), (0, .ref h0)] := lv_sub hl [0, 1, 2, 3, 4] rfl
    exact ih (z32) σ31 ls H locs (by (try dsimp only); omega) hl ⟨hle, hfr, by (try dsimp only); omega⟩ hH
theorem dX12_copyNode_0 : decode cX12_copyNode 0 = .ok (.aload_n 0, 1) := by decide +kernel
theorem dX12_copyNode_1 : decode cX12_copyNode 1 = .ok (.getfield 13, 3) := by decide +kernel
theorem dX12_copyNode_4 : decode cX12_copyNode 4 = .ok (.iload_n 2, 1) := by decide +kernel
theorem dX12_copyNode_5 : decode cX12_copyNode 5 = .ok (.aload_n 0, 1) := by decide +kernel
theorem dX12_copyNode_6 : decode cX12_copyNode 6 = .ok (.getfield 13, 3) := by decide +kernel
theorem dX12_copyNode_9 : decode cX12_copyNode 9 = .ok (.iload_n 1, 1) := by decide +kernel
theorem dX12_copyNode_10 : decode cX12_copyNode 10 = .ok (.baload, 1) := by decide +kernel
theorem dX12_copyNode_11 : decode cX12_copyNode 11 = .ok (.bastore, 1) := by decide +kernel
theorem dX12_copyNode_12 : decode cX12_copyNode 12 = .ok (.aload_n 0, 1) := by decide +kernel
theorem dX12_copyNode_13 : decode cX12_copyNode 13 = .ok (.getfield 17, 3) := by decide +kernel
theorem dX12_copyNode_16 : decode cX12_copyNode 16 = .ok (.iload_n 2, 1) := by decide +kernel
theorem dX12_copyNode_17 : decode cX12_copyNode 17 = .ok (.aload_n 0, 1) := by decide +kernel
theorem dX12_copyNode_18 : decode cX12_copyNode 18 = .ok (.getfield 17, 3) := by decide +kernel
theorem dX12_copyNode_21 : decode cX12_copyNode 21 = .ok (.iload_n 1, 1) := by decide +kernel
theorem dX12_copyNode_22 : decode cX12_copyNode 22 = .ok (.iaload, 1) := by decide +kernel
theorem dX12_copyNode_23 : decode cX12_copyNode 23 = .ok (.iastore, 1) := by decide +kernel
theorem dX12_copyNode_24 : decode cX12_copyNode 24 = .ok (.aload_n 0, 1) := by decide +kernel
theorem dX12_copyNode_25 : decode cX12_copyNode 25 = .ok (.getfield 21, 3) := by decide +kernel
theorem dX12_copyNode_28 : decode cX12_copyNode 28 = .ok (.iload_n 2, 1) := by decide +kernel
theorem dX12_copyNode_29 : decode cX12_copyNode 29 = .ok (.aload_n 0, 1) := by decide +kernel
theorem dX12_copyNode_30 : decode cX12_copyNode 30 = .ok (.getfield 21, 3) := by decide +kernel
theorem dX12_copyNode_33 : decode cX12_copyNode 33 = .ok (.iload_n 1, 1) := by decide +kernel
theorem dX12_copyNode_34 : decode cX12_copyNode 34 = .ok (.baload, 1) := by decide +kernel
theorem dX12_copyNode_35 : decode cX12_copyNode 35 = .ok (.bastore, 1) := by decide +kernel
theorem dX12_copyNode_36 : decode cX12_copyNode 36 = .ok (.aload_n 0, 1) := by decide +kernel
theorem dX12_copyNode_37 : decode cX12_copyNode 37 = .ok (.getfield 27, 3) := by decide +kernel
theorem dX12_copyNode_40 : decode cX12_copyNode 40 = .ok (.iload_n 2, 1) := by decide +kernel
theorem dX12_copyNode_41 : decode cX12_copyNode 41 = .ok (.aload_n 0, 1) := by decide +kernel
theorem dX12_copyNode_42 : decode cX12_copyNode 42 = .ok (.getfield 27, 3) := by decide +kernel
theorem dX12_copyNode_45 : decode cX12_copyNode 45 = .ok (.iload_n 1, 1) := by decide +kernel
theorem dX12_copyNode_46 : decode cX12_copyNode 46 = .ok (.iaload, 1) := by decide +kernel
theorem dX12_copyNode_47 : decode cX12_copyNode 47 = .ok (.iastore, 1) := by decide +kernel
theorem dX12_copyNode_48 : decode cX12_copyNode 48 = .ok (.aload_n 0, 1) := by decide +kernel
theorem dX12_copyNode_49 : decode cX12_copyNode 49 = .ok (.getfield 30, 3) := by decide +kernel
theorem dX12_copyNode_52 : decode cX12_copyNode 52 = .ok (.iload_n 2, 1) := by decide +kernel
theorem dX12_copyNode_53 : decode cX12_copyNode 53 = .ok (.aload_n 0, 1) := by decide +kernel
theorem dX12_copyNode_54 : decode cX12_copyNode 54 = .ok (.getfield 30, 3) := by decide +kernel
theorem dX12_copyNode_57 : decode cX12_copyNode 57 = .ok (.iload_n 1, 1) := by decide +kernel
theorem dX12_copyNode_58 : decode cX12_copyNode 58 = .ok (.iaload, 1) := by decide +kernel
theorem dX12_copyNode_59 : decode cX12_copyNode 59 = .ok (.iastore, 1) := by decide +kernel
theorem dX12_copyNode_60 : decode cX12_copyNode 60 = .ok (.aload_n 0, 1) := by decide +kernel
theorem dX12_copyNode_61 : decode cX12_copyNode 61 = .ok (.getfield 37, 3) := by decide +kernel
theorem dX12_copyNode_64 : decode cX12_copyNode 64 = .ok (.iload_n 2, 1) := by decide +kernel
theorem dX12_copyNode_65 : decode cX12_copyNode 65 = .ok (.aload_n 0, 1) := by decide +kernel
theorem dX12_copyNode_66 : decode cX12_copyNode 66 = .ok (.getfield 37, 3) := by decide +kernel
theorem dX12_copyNode_69 : decode cX12_copyNode 69 = .ok (.iload_n 1, 1) := by decide +kernel
theorem dX12_copyNode_70 : decode cX12_copyNode 70 = .ok (.iaload, 1) := by decide +kernel
theorem dX12_copyNode_71 : decode cX12_copyNode 71 = .ok (.iastore, 1) := by decide +kernel
theorem dX12_copyNode_72 : decode cX12_copyNode 72 = .ok (.iconst 0, 1) := by decide +kernel
theorem dX12_copyNode_73 : decode cX12_copyNode 73 = .ok (.istore_n 3, 1) := by decide +kernel
theorem dX12_copyNode_74 : decode cX12_copyNode 74 = .ok (.iload_n 3, 1) := by decide +kernel
theorem dX12_copyNode_75 : decode cX12_copyNode 75 = .ok (.bipush 12, 2) := by decide +kernel
theorem dX12_copyNode_77 : decode cX12_copyNode 77 = .ok (.if_icmp .ge 31, 3) := by decide +kernel
theorem dX12_copyNode_80 : decode cX12_copyNode 80 = .ok (.aload_n 0, 1) := by decide +kernel
theorem dX12_copyNode_81 : decode cX12_copyNode 81 = .ok (.getfield 24, 3) := by decide +kernel
theorem dX12_copyNode_84 : decode cX12_copyNode 84 = .ok (.bipush 12, 2) := by decide +kernel
theorem dX12_copyNode_86 : decode cX12_copyNode 86 = .ok (.iload_n 2, 1) := by decide +kernel
theorem dX12_copyNode_87 : decode cX12_copyNode 87 = .ok (.imul, 1) := by decide +kernel
theorem dX12_copyNode_88 : decode cX12_copyNode 88 = .ok (.iload_n 3, 1) := by decide +kernel
theorem dX12_copyNode_89 : decode cX12_copyNode 89 = .ok (.iadd, 1) := by decide +kernel
theorem dX12_copyNode_90 : decode cX12_copyNode 90 = .ok (.aload_n 0, 1) := by decide +kernel
theorem dX12_copyNode_91 : decode cX12_copyNode 91 = .ok (.getfield 24, 3) := by decide +kernel
theorem dX12_copyNode_94 : decode cX12_copyNode 94 = .ok (.bipush 12, 2) := by decide +kernel
theorem dX12_copyNode_96 : decode cX12_copyNode 96 = .ok (.iload_n 1, 1) := by decide +kernel
theorem dX12_copyNode_97 : decode cX12_copyNode 97 = .ok (.imul, 1) := by decide +kernel
theorem dX12_copyNode_98 : decode cX12_copyNode 98 = .ok (.iload_n 3, 1) := by decide +kernel
theorem dX12_copyNode_99 : decode cX12_copyNode 99 = .ok (.iadd, 1) := by decide +kernel
theorem dX12_copyNode_100 : decode cX12_copyNode 100 = .ok (.baload, 1) := by decide +kernel
theorem dX12_copyNode_101 : decode cX12_copyNode 101 = .ok (.bastore, 1) := by decide +kernel
theorem dX12_copyNode_102 : decode cX12_copyNode 102 = .ok (.iinc 3 1, 3) := by decide +kernel
theorem dX12_copyNode_105 : decode cX12_copyNode 105 = .ok (.goto (-31), 3) := by decide +kernel
theorem dX12_copyNode_108 : decode cX12_copyNode 108 = .ok (.iconst 0, 1) := by decide +kernel
theorem dX12_copyNode_109 : decode cX12_copyNode 109 = .ok (.istore_n 3, 1) := by decide +kernel
theorem dX12_copyNode_110 : decode cX12_copyNode 110 = .ok (.iload_n 3, 1) := by decide +kernel
theorem dX12_copyNode_111 : decode cX12_copyNode 111 = .ok (.iconst 4, 1) := by decide +kernel
theorem dX12_copyNode_112 : decode cX12_copyNode 112 = .ok (.if_icmp .ge 29, 3) := by decide +kernel
theorem dX12_copyNode_115 : decode cX12_copyNode 115 = .ok (.aload_n 0, 1) := by decide +kernel
theorem dX12_copyNode_116 : decode cX12_copyNode 116 = .ok (.getfield 33, 3) := by decide +kernel
theorem dX12_copyNode_119 : decode cX12_copyNode 119 = .ok (.iconst 4, 1) := by decide +kernel
theorem dX12_copyNode_120 : decode cX12_copyNode 120 = .ok (.iload_n 2, 1) := by decide +kernel
theorem dX12_copyNode_121 : decode cX12_copyNode 121 = .ok (.imul, 1) := by decide +kernel
theorem dX12_copyNode_122 : decode cX12_copyNode 122 = .ok (.iload_n 3, 1) := by decide +kernel
theorem dX12_copyNode_123 : decode cX12_copyNode 123 = .ok (.iadd, 1) := by decide +kernel
theorem dX12_copyNode_124 : decode cX12_copyNode 124 = .ok (.aload_n 0, 1) := by decide +kernel
theorem dX12_copyNode_125 : decode cX12_copyNode 125 = .ok (.getfield 33, 3) := by decide +kernel
theorem dX12_copyNode_128 : decode cX12_copyNode 128 = .ok (.iconst 4, 1) := by decide +kernel
theorem dX12_copyNode_129 : decode cX12_copyNode 129 = .ok (.iload_n 1, 1) := by decide +kernel
theorem dX12_copyNode_130 : decode cX12_copyNode 130 = .ok (.imul, 1) := by decide +kernel
theorem dX12_copyNode_131 : decode cX12_copyNode 131 = .ok (.iload_n 3, 1) := by decide +kernel
theorem dX12_copyNode_132 : decode cX12_copyNode 132 = .ok (.iadd, 1) := by decide +kernel
theorem dX12_copyNode_133 : decode cX12_copyNode 133 = .ok (.laload, 1) := by decide +kernel
theorem dX12_copyNode_134 : decode cX12_copyNode 134 = .ok (.lastore, 1) := by decide +kernel
theorem dX12_copyNode_135 : decode cX12_copyNode 135 = .ok (.iinc 3 1, 3) := by decide +kernel
theorem dX12_copyNode_138 : decode cX12_copyNode 138 = .ok (.goto (-28), 3) := by decide +kernel
theorem dX12_copyNode_141 : decode cX12_copyNode 141 = .ok (.iconst 0, 1) := by decide +kernel
theorem dX12_copyNode_142 : decode cX12_copyNode 142 = .ok (.istore_n 3, 1) := by decide +kernel
theorem dX12_copyNode_143 : decode cX12_copyNode 143 = .ok (.iload_n 3, 1) := by decide +kernel
theorem dX12_copyNode_144 : decode cX12_copyNode 144 = .ok (.sipush 4096, 3) := by decide +kernel
theorem dX12_copyNode_147 : decode cX12_copyNode 147 = .ok (.if_icmp .ge 33, 3) := by decide +kernel
theorem dX12_copyNode_150 : decode cX12_copyNode 150 = .ok (.aload_n 0, 1) := by decide +kernel
theorem dX12_copyNode_151 : decode cX12_copyNode 151 = .ok (.getfield 41, 3) := by decide +kernel
theorem dX12_copyNode_154 : decode cX12_copyNode 154 = .ok (.sipush 4096, 3) := by decide +kernel
theorem dX12_copyNode_157 : decode cX12_copyNode 157 = .ok (.iload_n 2, 1) := by decide +kernel
theorem dX12_copyNode_158 : decode cX12_copyNode 158 = .ok (.imul, 1) := by decide +kernel
theorem dX12_copyNode_159 : decode cX12_copyNode 159 = .ok (.iload_n 3, 1) := by decide +kernel
theorem dX12_copyNode_160 : decode cX12_copyNode 160 = .ok (.iadd, 1) := by decide +kernel
theorem dX12_copyNode_161 : decode cX12_copyNode 161 = .ok (.aload_n 0, 1) := by decide +kernel
theorem dX12_copyNode_162 : decode cX12_copyNode 162 = .ok (.getfield 41, 3) := by decide +kernel
theorem dX12_copyNode_165 : decode cX12_copyNode 165 = .ok (.sipush 4096, 3) := by decide +kernel
theorem dX12_copyNode_168 : decode cX12_copyNode 168 = .ok (.iload_n 1, 1) := by decide +kernel
theorem dX12_copyNode_169 : decode cX12_copyNode 169 = .ok (.imul, 1) := by decide +kernel
theorem dX12_copyNode_170 : decode cX12_copyNode 170 = .ok (.iload_n 3, 1) := by decide +kernel
theorem dX12_copyNode_171 : decode cX12_copyNode 171 = .ok (.iadd, 1) := by decide +kernel
theorem dX12_copyNode_172 : decode cX12_copyNode 172 = .ok (.baload, 1) := by decide +kernel
theorem dX12_copyNode_173 : decode cX12_copyNode 173 = .ok (.bastore, 1) := by decide +kernel
theorem dX12_copyNode_174 : decode cX12_copyNode 174 = .ok (.iinc 3 1, 3) := by decide +kernel
theorem dX12_copyNode_177 : decode cX12_copyNode 177 = .ok (.goto (-34), 3) := by decide +kernel
theorem dX12_copyNode_180 : decode cX12_copyNode 180 = .ok (.return_, 1) := by decide +kernel
set_option maxRecDepth 100000 in
set_option maxHeartbeats 4000000 in
theorem c_X12_copyNode (l : Launch) (D : va_G) (t : Nat → ClassId) (h0 : Nat) (L : Nat → Nat) (σ : HS) (hO : OK ph τ0 σ) (hM : MdI h0 L σ) (a b : Int32) (hz : 0 ≤ a.toInt ∧ a.toInt < 160 ∧ 0 ≤ b.toInt ∧ b.toInt < 160) (sz : Nat) : HMv ph τ0 l D t yX12_copyNode cX12_copyNode 4 ({ frames := 0, cells := 0, slots := 0, locals := 0 }) σ sz [.ref h0, .int a, .int b] 0 0 (fun σ' => MdI h0 L σ' ∧ Fr h0 L [] [1, 2, 3, 4, 5, 6, 7, 8, 9] σ σ' ∧ (True)) := by
  refine h_go hO (by decide) (Nat.le_of_ble_eq_true rfl) ?_
  intro p e s m below meth c ls A hF hr hlk hAe hH0 hA hl
  unfold hB
  rw [hAe]
  clear hAe
  have hF : FX p m c cX12_copyNode 4 s _ RX12 D t := hF
  have hx := hF.1.1
  have hb := hF.1.2.1
  have hH : MT D t A s.heap h0 L σ s.heap [] := ⟨hH0, hM⟩
  have hle : HLe σ σ := HLe.rf
  have hfr : Fr h0 L [] [1, 2, 3, 4, 5, 6, 7, 8, 9] σ σ := Fr.rf
  have k_0 : (0 : Int32).toInt = 0 := rfl
  have k_4 : (4 : Int32).toInt = 4 := rfl
  have k_12 : (12 : Int32).toInt = 12 := rfl
  have k_4096 : (4096 : Int32).toInt = 4096 := rfl
  have rg_1 := i_range a
  have rg_2 := i_range b
  have hl : lv_has ls 4 [(0, .ref h0), (1, .int a), (2, .int b)] := hl
  refine lv_aload_n hx hb dX12_copyNode_0 rfl (lv_at hl 0 rfl) ?_
  refine m_getA 1 hF hH fk_X12_13 dX12_copyNode_1 (by decide) rfl ?_
  refine lv_iload_n hx hb dX12_copyNode_4 rfl (lv_at hl 2 rfl) ?_
  refine lv_aload_n hx hb dX12_copyNode_5 rfl (lv_at hl 0 rfl) ?_
  refine m_getA 1 hF hH fk_X12_13 dX12_copyNode_6 (by decide) rfl ?_
  refine lv_iload_n hx hb dX12_copyNode_9 rfl (lv_at hl 1 rfl) ?_
  refine m_zald 1 160 hF hH dX12_copyNode_10 (by decide) rfl rfl 0 1 rfl rfl (by omega) (by omega) (fun z33 ez33 vz33 => ?_)
  have wz33 := i_eq ez33
  have hMp := hH.2
  refine m_zast 1 160 hF hH dX12_copyNode_11 (by decide) rfl rfl rfl rfl (by omega) (by omega) (fun σ34 H locs eσ34 hH => ?_)
  have hle := hle.tr (show HLe σ σ34 by rw [eσ34]; exact HLe.uI)
  have hfr := hfr.aI hMp (by decide) eσ34 (by decide)
  refine lv_aload_n hx hb dX12_copyNode_12 rfl (lv_at hl 0 rfl) ?_
  refine m_getA 2 hF hH fk_X12_17 dX12_copyNode_13 (by decide) rfl ?_
  refine lv_iload_n hx hb dX12_copyNode_16 rfl (lv_at hl 2 rfl) ?_
  refine lv_aload_n hx hb dX12_copyNode_17 rfl (lv_at hl 0 rfl) ?_
  refine m_getA 2 hF hH fk_X12_17 dX12_copyNode_18 (by decide) rfl ?_
  refine lv_iload_n hx hb dX12_copyNode_21 rfl (lv_at hl 1 rfl) ?_
  refine m_iald 2 160 hF hH dX12_copyNode_22 (by decide) rfl rfl (-1) 79 rfl rfl (by omega) (by omega) (fun z35 ez35 vz35 => ?_)
  have wz35 := i_eq ez35
  have hMp := hH.2
  refine m_iast 2 160 hF hH dX12_copyNode_23 (by decide) rfl rfl (-1) 79 rfl rfl (by omega) (by omega) (by omega) (fun σ36 H locs eσ36 hH => ?_)
  have hle := hle.tr (show HLe σ34 σ36 by rw [eσ36]; exact HLe.uI)
  have hfr := hfr.aI hMp (by decide) eσ36 (by decide)
  refine lv_aload_n hx hb dX12_copyNode_24 rfl (lv_at hl 0 rfl) ?_
  refine m_getA 3 hF hH fk_X12_21 dX12_copyNode_25 (by decide) rfl ?_
  refine lv_iload_n hx hb dX12_copyNode_28 rfl (lv_at hl 2 rfl) ?_
  refine lv_aload_n hx hb dX12_copyNode_29 rfl (lv_at hl 0 rfl) ?_
  refine m_getA 3 hF hH fk_X12_21 dX12_copyNode_30 (by decide) rfl ?_
  refine lv_iload_n hx hb dX12_copyNode_33 rfl (lv_at hl 1 rfl) ?_
  refine m_zald 3 160 hF hH dX12_copyNode_34 (by decide) rfl rfl 0 1 rfl rfl (by omega) (by omega) (fun z37 ez37 vz37 => ?_)
  have wz37 := i_eq ez37
  have hMp := hH.2
  refine m_zast 3 160 hF hH dX12_copyNode_35 (by decide) rfl rfl rfl rfl (by omega) (by omega) (fun σ38 H locs eσ38 hH => ?_)
  have hle := hle.tr (show HLe σ36 σ38 by rw [eσ38]; exact HLe.uI)
  have hfr := hfr.aI hMp (by decide) eσ38 (by decide)
  refine lv_aload_n hx hb dX12_copyNode_36 rfl (lv_at hl 0 rfl) ?_
  refine m_getA 5 hF hH fk_X12_27 dX12_copyNode_37 (by decide) rfl ?_
  refine lv_iload_n hx hb dX12_copyNode_40 rfl (lv_at hl 2 rfl) ?_
  refine lv_aload_n hx hb dX12_copyNode_41 rfl (lv_at hl 0 rfl) ?_
  refine m_getA 5 hF hH fk_X12_27 dX12_copyNode_42 (by decide) rfl ?_
  refine lv_iload_n hx hb dX12_copyNode_45 rfl (lv_at hl 1 rfl) ?_
  refine m_iald 5 160 hF hH dX12_copyNode_46 (by decide) rfl rfl 0 12 rfl rfl (by omega) (by omega) (fun z39 ez39 vz39 => ?_)
  have wz39 := i_eq ez39
  have hMp := hH.2
  refine m_iast 5 160 hF hH dX12_copyNode_47 (by decide) rfl rfl 0 12 rfl rfl (by omega) (by omega) (by omega) (fun σ40 H locs eσ40 hH => ?_)
  have hle := hle.tr (show HLe σ38 σ40 by rw [eσ40]; exact HLe.uI)
  have hfr := hfr.aI hMp (by decide) eσ40 (by decide)
  refine lv_aload_n hx hb dX12_copyNode_48 rfl (lv_at hl 0 rfl) ?_
  refine m_getA 6 hF hH fk_X12_30 dX12_copyNode_49 (by decide) rfl ?_
  refine lv_iload_n hx hb dX12_copyNode_52 rfl (lv_at hl 2 rfl) ?_
  refine lv_aload_n hx hb dX12_copyNode_53 rfl (lv_at hl 0 rfl) ?_
  refine m_getA 6 hF hH fk_X12_30 dX12_copyNode_54 (by decide) rfl ?_
  refine lv_iload_n hx hb dX12_copyNode_57 rfl (lv_at hl 1 rfl) ?_
  refine m_iald 6 160 hF hH dX12_copyNode_58 (by decide) rfl rfl (-2147483648) 2147483647 rfl rfl (by omega) (by omega) (fun z41 ez41 vz41 => ?_)
  have wz41 := i_eq ez41
  have hMp := hH.2
  refine m_iast 6 160 hF hH dX12_copyNode_59 (by decide) rfl rfl (-2147483648) 2147483647 rfl rfl (by omega) (by omega) (by omega) (fun σ42 H locs eσ42 hH => ?_)
  have hle := hle.tr (show HLe σ40 σ42 by rw [eσ42]; exact HLe.uI)
  have hfr := hfr.aI hMp (by decide) eσ42 (by decide)
  refine lv_aload_n hx hb dX12_copyNode_60 rfl (lv_at hl 0 rfl) ?_
  refine m_getA 8 hF hH fk_X12_37 dX12_copyNode_61 (by decide) rfl ?_
  refine lv_iload_n hx hb dX12_copyNode_64 rfl (lv_at hl 2 rfl) ?_
  refine lv_aload_n hx hb dX12_copyNode_65 rfl (lv_at hl 0 rfl) ?_
  refine m_getA 8 hF hH fk_X12_37 dX12_copyNode_66 (by decide) rfl ?_
  refine lv_iload_n hx hb dX12_copyNode_69 rfl (lv_at hl 1 rfl) ?_
  refine m_iald 8 160 hF hH dX12_copyNode_70 (by decide) rfl rfl 0 4096 rfl rfl (by omega) (by omega) (fun z43 ez43 vz43 => ?_)
  have wz43 := i_eq ez43
  have hMp := hH.2
  refine m_iast 8 160 hF hH dX12_copyNode_71 (by decide) rfl rfl 0 4096 rfl rfl (by omega) (by omega) (by omega) (fun σ44 H locs eσ44 hH => ?_)
  have hle := hle.tr (show HLe σ42 σ44 by rw [eσ44]; exact HLe.uI)
  have hfr := hfr.aI hMp (by decide) eσ44 (by decide)
  refine lv_iconst (v := 0) hx hb dX12_copyNode_72 (by decide) ?_
  refine lv_istore_n (lv' := [(3, .int 0), (0, .ref h0), (1, .int a), (2, .int b)]) hx hb dX12_copyNode_73 rfl hl (by decide) rfl (fun ls hl => ?_)
  have hl : lv_has ls 4 [(3, .int 0), (2, .int b), (1, .int a), (0, .ref h0)] := lv_sub hl [0, 3, 2, 1] rfl
  refine m_loop (β := Int32) (L0 := fun x => [(3, .int x), (2, .int b), (1, .int a), (0, .ref h0)]) (I := fun x σ2 => HLe σ σ2 ∧ Fr h0 L [] [1, 2, 3, 4, 5, 6, 7, 8, 9] σ σ2 ∧ (0 ≤ x.toInt ∧ x.toInt ≤ 12)) (fun x σ2 => (12 - x.toInt).toNat) (0) hl ⟨hle, hfr, by (try dsimp only); omega⟩ hH (fun x σL ls H locs hl hI hH ih => ?_)
  obtain ⟨x45, hx1⟩ : ∃ y, y = x := ⟨_, rfl⟩
  subst hx1
  obtain ⟨hle, hfr, hI⟩ := hI
  have hl : lv_has ls 4 [(3, .int x45), (2, .int b), (1, .int a), (0, .ref h0)] := hl
  have hI : 0 ≤ x45.toInt ∧ x45.toInt ≤ 12 := hI
  have rg_x45 := i_range x45
  refine lv_iload_n hx hb dX12_copyNode_74 rfl (lv_at hl 0 rfl) ?_
  refine lv_bipush (v := 12) hx hb dX12_copyNode_75 (by decide) ?_
  refine lv_icmp_ge (tgt := 108) hx hb dX12_copyNode_77 rfl (fun h46 => ?_) (fun h46 => ?_)
  · have ch46 := i_le h46
    refine lv_iconst (v := 0) hx hb dX12_copyNode_108 (by decide) ?_
    refine lv_istore_n (lv' := [(3, .int 0), (2, .int b), (1, .int a), (0, .ref h0)]) hx hb dX12_copyNode_109 rfl hl (by decide) rfl (fun ls hl => ?_)
    have hl : lv_has ls 4 [(3, .int 0), (2, .int b), (1, .int a), (0, .ref h0)] := lv_sub hl [0, 1, 2, 3] rfl
    refine m_loop (β := Int32) (L0 := fun x => [(3, .int x), (2, .int b), (1, .int a), (0, .ref h0)]) (I := fun x σ2 => HLe σ σ2 ∧ Fr h0 L [] [1, 2, 3, 4, 5, 6, 7, 8, 9] σ σ2 ∧ (0 ≤ x.toInt ∧ x.toInt ≤ 4)) (fun x σ2 => (4 - x.toInt).toNat) (0) hl ⟨hle, hfr, by (try dsimp only); omega⟩ hH (fun x σL54 ls H locs hl hI hH ih55 => ?_)
    obtain ⟨x56, hx1⟩ : ∃ y, y = x := ⟨_, rfl⟩
    subst hx1
    obtain ⟨hle, hfr, hI⟩ := hI
    have hl : lv_has ls 4 [(3, .int x56), (2, .int b), (1, .int a), (0, .ref h0)] := hl
    have hI : 0 ≤ x56.toInt ∧ x56.toInt ≤ 4 := hI
    have rg_x56 := i_range x56
    refine lv_iload_n hx hb dX12_copyNode_110 rfl (lv_at hl 0 rfl) ?_
    refine lv_iconst (v := 4) hx hb dX12_copyNode_111 (by decide) ?_
    refine lv_icmp_ge (tgt := 141) hx hb dX12_copyNode_112 rfl (fun h57 => ?_) (fun h57 => ?_)
    · have ch57 := i_le h57
      refine lv_iconst (v := 0) hx hb dX12_copyNode_141 (by decide) ?_
      refine lv_istore_n (lv' := [(3, .int 0), (2, .int b), (1, .int a), (0, .ref h0)]) hx hb dX12_copyNode_142 rfl hl (by decide) rfl (fun ls hl => ?_)
      have hl : lv_has ls 4 [(3, .int 0), (2, .int b), (1, .int a), (0, .ref h0)] := lv_sub hl [0, 1, 2, 3] rfl
      refine m_loop (β := Int32) (L0 := fun x => [(3, .int x), (2, .int b), (1, .int a), (0, .ref h0)]) (I := fun x σ2 => HLe σ σ2 ∧ Fr h0 L [] [1, 2, 3, 4, 5, 6, 7, 8, 9] σ σ2 ∧ (0 ≤ x.toInt ∧ x.toInt ≤ 4096)) (fun x σ2 => (4096 - x.toInt).toNat) (0) hl ⟨hle, hfr, by (try dsimp only); omega⟩ hH (fun x σL65 ls H locs hl hI hH ih66 => ?_)
      obtain ⟨x67, hx1⟩ : ∃ y, y = x := ⟨_, rfl⟩
      subst hx1
      obtain ⟨hle, hfr, hI⟩ := hI
      have hl : lv_has ls 4 [(3, .int x67), (2, .int b), (1, .int a), (0, .ref h0)] := hl
      have hI : 0 ≤ x67.toInt ∧ x67.toInt ≤ 4096 := hI
      have rg_x67 := i_range x67
      refine lv_iload_n hx hb dX12_copyNode_143 rfl (lv_at hl 0 rfl) ?_
      refine lv_sipush (v := 4096) hx hb dX12_copyNode_144 (by decide) ?_
      refine lv_icmp_ge (tgt := 180) hx hb dX12_copyNode_147 rfl (fun h68 => ?_) (fun h68 => ?_)
      · have ch68 := i_le h68
        exact h_retv hF hr hlk dX12_copyNode_180 hH.1 hle ⟨hH.2, hfr, trivial⟩
      · have ch68 := i_nle h68
        refine lv_aload_n hx hb dX12_copyNode_150 rfl (lv_at hl 3 rfl) ?_
        refine m_getA 9 hF hH fk_X12_41 dX12_copyNode_151 (by decide) rfl ?_
        refine lv_sipush (v := 4096) hx hb dX12_copyNode_154 (by decide) ?_
        refine lv_iload_n hx hb dX12_copyNode_157 rfl (lv_at hl 1 rfl) ?_
        refine lv_imul hx hb dX12_copyNode_158 ?_
        refine lv_topi (fun z69 ez69 => ?_)
        try have hz69 := i_mulk 4096 rfl ez69 (by omega) (by omega)
        refine lv_iload_n hx hb dX12_copyNode_159 rfl (lv_at hl 0 rfl) ?_
        refine lv_iadd hx hb dX12_copyNode_160 ?_
        refine lv_topi (fun z70 ez70 => ?_)
        try have hz70 := i_add ez70 (by omega) (by omega)
        refine lv_aload_n hx hb dX12_copyNode_161 rfl (lv_at hl 3 rfl) ?_
        refine m_getA 9 hF hH fk_X12_41 dX12_copyNode_162 (by decide) rfl ?_
        refine lv_sipush (v := 4096) hx hb dX12_copyNode_165 (by decide) ?_
        refine lv_iload_n hx hb dX12_copyNode_168 rfl (lv_at hl 2 rfl) ?_
        refine lv_imul hx hb dX12_copyNode_169 ?_
        refine lv_topi (fun z71 ez71 => ?_)
        try have hz71 := i_mulk 4096 rfl ez71 (by omega) (by omega)
        refine lv_iload_n hx hb dX12_copyNode_170 rfl (lv_at hl 0 rfl) ?_
        refine lv_iadd hx hb dX12_copyNode_171 ?_
        refine lv_topi (fun z72 ez72 => ?_)
        try have hz72 := i_add ez72 (by omega) (by omega)
        refine m_bald 9 655360 hF hH dX12_copyNode_172 (by decide) rfl rfl (-128) 127 rfl rfl (by omega) (by omega) (fun z73 ez73 vz73 => ?_)
        have wz73 := i_eq ez73
        have hMp := hH.2
        refine m_bast 9 655360 hF hH dX12_copyNode_173 (by decide) rfl rfl rfl rfl (by omega) (by omega) (fun σ74 H locs eσ74 hH => ?_)
        have hle := hle.tr (show HLe σL65 σ74 by rw [eσ74]; exact HLe.uI)
        have hfr := hfr.aI hMp (by decide) eσ74 (by decide)
        obtain ⟨z75, ez75⟩ : ∃ z : Int32, z = x67 + Int32.ofInt 1 := ⟨_, rfl⟩
        have hz75 := i_add ez75 (by rw [show (Int32.ofInt 1).toInt = 1 from rfl]; omega) (by rw [show (Int32.ofInt 1).toInt = 1 from rfl]; omega)
        rw [show (Int32.ofInt 1).toInt = 1 from rfl] at hz75
        refine lv_iinc (lv' := [(3, .int z75), (2, .int b), (1, .int a), (0, .ref h0)]) (k := 0) (v := z75) hx hb dX12_copyNode_174 hl rfl ez75.symm (by decide) rfl (fun ls hl => ?_)
        refine lv_goto (tgt := 143) hx hb dX12_copyNode_177 rfl ?_
        have hl : lv_has ls 4 [(3, .int z75), (2, .int b), (1, .int a), (0, .ref h0)] := lv_sub hl [0, 1, 2, 3] rfl
        exact ih66 (z75) σ74 ls H locs (by (try dsimp only); omega) hl ⟨hle, hfr, by (try dsimp only); omega⟩ hH
    · have ch57 := i_nle h57
      refine lv_aload_n hx hb dX12_copyNode_115 rfl (lv_at hl 3 rfl) ?_
      refine m_getA 7 hF hH fk_X12_33 dX12_copyNode_116 (by decide) rfl ?_
      refine lv_iconst (v := 4) hx hb dX12_copyNode_119 (by decide) ?_
      refine lv_iload_n hx hb dX12_copyNode_120 rfl (lv_at hl 1 rfl) ?_
      refine lv_imul hx hb dX12_copyNode_121 ?_
      refine lv_topi (fun z58 ez58 => ?_)
      try have hz58 := i_mulk 4 rfl ez58 (by omega) (by omega)
      refine lv_iload_n hx hb dX12_copyNode_122 rfl (lv_at hl 0 rfl) ?_
      refine lv_iadd hx hb dX12_copyNode_123 ?_
      refine lv_topi (fun z59 ez59 => ?_)
      try have hz59 := i_add ez59 (by omega) (by omega)
      refine lv_aload_n hx hb dX12_copyNode_124 rfl (lv_at hl 3 rfl) ?_
      refine m_getA 7 hF hH fk_X12_33 dX12_copyNode_125 (by decide) rfl ?_
      refine lv_iconst (v := 4) hx hb dX12_copyNode_128 (by decide) ?_
      refine lv_iload_n hx hb dX12_copyNode_129 rfl (lv_at hl 2 rfl) ?_
      refine lv_imul hx hb dX12_copyNode_130 ?_
      refine lv_topi (fun z60 ez60 => ?_)
      try have hz60 := i_mulk 4 rfl ez60 (by omega) (by omega)
      refine lv_iload_n hx hb dX12_copyNode_131 rfl (lv_at hl 0 rfl) ?_
      refine lv_iadd hx hb dX12_copyNode_132 ?_
      refine lv_topi (fun z61 ez61 => ?_)
      try have hz61 := i_add ez61 (by omega) (by omega)
      refine m_lald 7 640 hF hH dX12_copyNode_133 (by decide) rfl rfl (by omega) (by omega) (fun z62 ez62 => ?_)
      have hMp := hH.2
      refine m_last 7 640 hF hH dX12_copyNode_134 (by decide) rfl rfl (by omega) (by omega) (fun σ63 H locs eσ63 hH => ?_)
      have hle := hle.tr (show HLe σL54 σ63 by rw [eσ63]; exact HLe.uJ)
      have hfr := hfr.aJ hMp (by decide) eσ63 (by decide)
      obtain ⟨z64, ez64⟩ : ∃ z : Int32, z = x56 + Int32.ofInt 1 := ⟨_, rfl⟩
      have hz64 := i_add ez64 (by rw [show (Int32.ofInt 1).toInt = 1 from rfl]; omega) (by rw [show (Int32.ofInt 1).toInt = 1 from rfl]; omega)
      rw [show (Int32.ofInt 1).toInt = 1 from rfl] at hz64
      refine lv_iinc (lv' := [(3, .int z64), (2, .int b), (1, .int a), (0, .ref h0)]) (k := 0) (v := z64) hx hb dX12_copyNode_135 hl rfl ez64.symm (by decide) rfl (fun ls hl => ?_)
      refine lv_goto (tgt := 110) hx hb dX12_copyNode_138 rfl ?_
      have hl : lv_has ls 4 [(3, .int z64), (2, .int b), (1, .int a), (0, .ref h0)] := lv_sub hl [0, 1, 2, 3] rfl
      exact ih55 (z64) σ63 ls H locs (by (try dsimp only); omega) hl ⟨hle, hfr, by (try dsimp only); omega⟩ hH
  · have ch46 := i_nle h46
    refine lv_aload_n hx hb dX12_copyNode_80 rfl (lv_at hl 3 rfl) ?_
    refine m_getA 4 hF hH fk_X12_24 dX12_copyNode_81 (by decide) rfl ?_
    refine lv_bipush (v := 12) hx hb dX12_copyNode_84 (by decide) ?_
    refine lv_iload_n hx hb dX12_copyNode_86 rfl (lv_at hl 1 rfl) ?_
    refine lv_imul hx hb dX12_copyNode_87 ?_
    refine lv_topi (fun z47 ez47 => ?_)
    try have hz47 := i_mulk 12 rfl ez47 (by omega) (by omega)
    refine lv_iload_n hx hb dX12_copyNode_88 rfl (lv_at hl 0 rfl) ?_
    refine lv_iadd hx hb dX12_copyNode_89 ?_
    refine lv_topi (fun z48 ez48 => ?_)
    try have hz48 := i_add ez48 (by omega) (by omega)
    refine lv_aload_n hx hb dX12_copyNode_90 rfl (lv_at hl 3 rfl) ?_
    refine m_getA 4 hF hH fk_X12_24 dX12_copyNode_91 (by decide) rfl ?_
    refine lv_bipush (v := 12) hx hb dX12_copyNode_94 (by decide) ?_
    refine lv_iload_n hx hb dX12_copyNode_96 rfl (lv_at hl 2 rfl) ?_
    refine lv_imul hx hb dX12_copyNode_97 ?_
    refine lv_topi (fun z49 ez49 => ?_)
    try have hz49 := i_mulk 12 rfl ez49 (by omega) (by omega)
    refine lv_iload_n hx hb dX12_copyNode_98 rfl (lv_at hl 0 rfl) ?_
    refine lv_iadd hx hb dX12_copyNode_99 ?_
    refine lv_topi (fun z50 ez50 => ?_)
    try have hz50 := i_add ez50 (by omega) (by omega)
    refine m_bald 4 1920 hF hH dX12_copyNode_100 (by decide) rfl rfl (-128) 127 rfl rfl (by omega) (by omega) (fun z51 ez51 vz51 => ?_)
    have wz51 := i_eq ez51
    have hMp := hH.2
    refine m_bast 4 1920 hF hH dX12_copyNode_101 (by decide) rfl rfl rfl rfl (by omega) (by omega) (fun σ52 H locs eσ52 hH => ?_)
    have hle := hle.tr (show HLe σL σ52 by rw [eσ52]; exact HLe.uI)
    have hfr := hfr.aI hMp (by decide) eσ52 (by decide)
    obtain ⟨z53, ez53⟩ : ∃ z : Int32, z = x45 + Int32.ofInt 1 := ⟨_, rfl⟩
    have hz53 := i_add ez53 (by rw [show (Int32.ofInt 1).toInt = 1 from rfl]; omega) (by rw [show (Int32.ofInt 1).toInt = 1 from rfl]; omega)
    rw [show (Int32.ofInt 1).toInt = 1 from rfl] at hz53
    refine lv_iinc (lv' := [(3, .int z53), (2, .int b), (1, .int a), (0, .ref h0)]) (k := 0) (v := z53) hx hb dX12_copyNode_102 hl rfl ez53.symm (by decide) rfl (fun ls hl => ?_)
    refine lv_goto (tgt := 74) hx hb dX12_copyNode_105 rfl ?_
    have hl : lv_has ls 4 [(3, .int z53), (2, .int b), (1, .int a), (0, .ref h0)] := lv_sub hl [0, 1, 2, 3] rfl
    exact ih (z53) σ52 ls H locs (by (try dsimp only); omega) hl ⟨hle, hfr, by (try dsimp only); omega⟩ hH

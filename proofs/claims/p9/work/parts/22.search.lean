theorem dX12_count_0 : decode cX12_count 0 = .ok (.iconst 0, 1) := by decide +kernel
theorem dX12_count_1 : decode cX12_count 1 = .ok (.istore_n 2, 1) := by decide +kernel
theorem dX12_count_2 : decode cX12_count 2 = .ok (.iconst 0, 1) := by decide +kernel
theorem dX12_count_3 : decode cX12_count 3 = .ok (.istore_n 3, 1) := by decide +kernel
theorem dX12_count_4 : decode cX12_count 4 = .ok (.iload_n 3, 1) := by decide +kernel
theorem dX12_count_5 : decode cX12_count 5 = .ok (.aload_n 1, 1) := by decide +kernel
theorem dX12_count_6 : decode cX12_count 6 = .ok (.arraylength, 1) := by decide +kernel
theorem dX12_count_7 : decode cX12_count 7 = .ok (.if_icmp .ge 25, 3) := by decide +kernel
theorem dX12_count_10 : decode cX12_count 10 = .ok (.iload_n 2, 1) := by decide +kernel
theorem dX12_count_11 : decode cX12_count 11 = .ok (.aload_n 1, 1) := by decide +kernel
theorem dX12_count_12 : decode cX12_count 12 = .ok (.iload_n 3, 1) := by decide +kernel
theorem dX12_count_13 : decode cX12_count 13 = .ok (.laload, 1) := by decide +kernel
theorem dX12_count_14 : decode cX12_count 14 = .ok (.lconst 0, 1) := by decide +kernel
theorem dX12_count_15 : decode cX12_count 15 = .ok (.lcmp, 1) := by decide +kernel
theorem dX12_count_16 : decode cX12_count 16 = .ok (.ifCond .le 7, 3) := by decide +kernel
theorem dX12_count_19 : decode cX12_count 19 = .ok (.iconst 1, 1) := by decide +kernel
theorem dX12_count_20 : decode cX12_count 20 = .ok (.goto 4, 3) := by decide +kernel
theorem dX12_count_23 : decode cX12_count 23 = .ok (.iconst 0, 1) := by decide +kernel
theorem dX12_count_24 : decode cX12_count 24 = .ok (.iadd, 1) := by decide +kernel
theorem dX12_count_25 : decode cX12_count 25 = .ok (.istore_n 2, 1) := by decide +kernel
theorem dX12_count_26 : decode cX12_count 26 = .ok (.iinc 3 1, 3) := by decide +kernel
theorem dX12_count_29 : decode cX12_count 29 = .ok (.goto (-25), 3) := by decide +kernel
theorem dX12_count_32 : decode cX12_count 32 = .ok (.iload_n 2, 1) := by decide +kernel
theorem dX12_count_33 : decode cX12_count 33 = .ok (.ireturn, 1) := by decide +kernel
set_option maxRecDepth 100000 in
set_option maxHeartbeats 4000000 in
theorem c_X12_count (l : Launch) (D : va_G) (t : Nat → ClassId) (h0 : Nat) (L : Nat → Nat) (σ : HS) (hO : OK ph τ0 σ) (hM : MdI h0 L σ) (j N : Nat) (hj : j < 80) (hp : ph (30 + j) = 22) (hN : lnL.getD j 0 = N) (hN2 : N < 2 ^ 31) (sz : Nat) : HMi ph τ0 l D t yX12_count cX12_count 4 (some .int) ({ frames := 0, cells := 0, slots := 0, locals := 0 }) σ sz [.ref h0, .ref (L j)] 0 0 (fun r σ' => MdI h0 L σ' ∧ σ' = σ ∧ (0 ≤ r.toInt ∧ r.toInt ≤ N)) := by
  refine h_go hO (by decide) (Nat.le_of_ble_eq_true rfl) ?_
  intro p e s m below meth c ls A hF hr hlk hAe hH0 hA hl
  unfold hB
  rw [hAe]
  clear hAe
  have hF : FX p m c cX12_count 4 s _ RX12 D t := hF
  have hx := hF.1.1
  have hb := hF.1.2.1
  have hH : MT D t A s.heap h0 L σ s.heap [] := ⟨hH0, hM⟩
  have hle : HLe σ σ := HLe.rf
  have k_0 : (0 : Int32).toInt = 0 := rfl
  have k_1 : (1 : Int32).toInt = 1 := rfl
  have hl : lv_has ls 4 [(0, .ref h0), (1, .ref (L j))] := hl
  refine lv_iconst (v := 0) hx hb dX12_count_0 (by decide) ?_
  refine lv_istore_n (lv' := [(2, .int 0), (0, .ref h0), (1, .ref (L j))]) hx hb dX12_count_1 rfl hl (by decide) rfl (fun ls hl => ?_)
  refine lv_iconst (v := 0) hx hb dX12_count_2 (by decide) ?_
  refine lv_istore_n (lv' := [(3, .int 0), (2, .int 0), (0, .ref h0), (1, .ref (L j))]) hx hb dX12_count_3 rfl hl (by decide) rfl (fun ls hl => ?_)
  have hl : lv_has ls 4 [(3, .int 0), (2, .int 0), (1, .ref (L j)), (0, .ref h0)] := lv_sub hl [0, 1, 3, 2] rfl
  refine m_loop (β := Int32 × Int32) (L0 := fun x => [(3, .int x.1), (2, .int x.2), (1, .ref (L j)), (0, .ref h0)]) (I := fun x σ2 => σ = σ2 ∧ (0 ≤ x.1.toInt ∧ x.1.toInt ≤ N ∧ 0 ≤ x.2.toInt ∧ x.2.toInt ≤ x.1.toInt)) (fun x σ2 => (N - x.1.toInt).toNat) (0, 0) hl ⟨rfl, by (try dsimp only); omega⟩ hH (fun x σL ls H locs hl hI hH ih => ?_)
  obtain ⟨x126, x127⟩ := x
  obtain ⟨hsL, hI⟩ := hI
  subst hsL
  have hl : lv_has ls 4 [(3, .int x126), (2, .int x127), (1, .ref (L j)), (0, .ref h0)] := hl
  have hI : 0 ≤ x126.toInt ∧ x126.toInt ≤ N ∧ 0 ≤ x127.toInt ∧ x127.toInt ≤ x126.toInt := hI
  have rg_x126 := i_range x126
  have rg_x127 := i_range x127
  refine lv_iload_n hx hb dX12_count_4 rfl (lv_at hl 0 rfl) ?_
  refine lv_aload_n hx hb dX12_count_5 rfl (lv_at hl 2 rfl) ?_
  refine m_alen j N hF hH dX12_count_6 hj hp hN hN2 (fun z128 hz128 => ?_)
  refine lv_icmp_ge (tgt := 32) hx hb dX12_count_7 rfl (fun h129 => ?_) (fun h129 => ?_)
  · have ch129 := i_le h129
    refine lv_iload_n hx hb dX12_count_32 rfl (lv_at hl 1 rfl) ?_
    exact h_reti hF hr hlk rfl dX12_count_33 hH.1 hle ⟨hH.2, rfl, by (try dsimp only); omega⟩
  · have ch129 := i_nle h129
    refine lv_iload_n hx hb dX12_count_10 rfl (lv_at hl 1 rfl) ?_
    refine lv_aload_n hx hb dX12_count_11 rfl (lv_at hl 2 rfl) ?_
    refine lv_iload_n hx hb dX12_count_12 rfl (lv_at hl 0 rfl) ?_
    refine m_lald j N hF hH dX12_count_13 hj hp hN (by omega) (by omega) (fun z130 ez130 => ?_)
    refine lv_lconst (v := 0) hx hb dX12_count_14 (by decide) ?_
    refine W.lcmp hx hb dX12_count_15 ?_
    refine lv_topi (fun z131 ez131 => ?_)
    refine lv_if_le (tgt := 23) hx hb dX12_count_16 rfl (fun h132 => ?_) (fun h132 => ?_)
    · have ch132 := i_le h132
      refine lv_iconst (v := 0) hx hb dX12_count_23 (by decide) ?_
      refine lv_iadd hx hb dX12_count_24 ?_
      refine lv_topi (fun z133 ez133 => ?_)
      try have hz133 := i_add ez133 (by omega) (by omega)
      refine lv_istore_n (lv' := [(2, .int z133), (3, .int x126), (1, .ref (L j)), (0, .ref h0)]) hx hb dX12_count_25 rfl hl (by decide) rfl (fun ls hl => ?_)
      obtain ⟨z134, ez134⟩ : ∃ z : Int32, z = x126 + Int32.ofInt 1 := ⟨_, rfl⟩
      have hz134 := i_add ez134 (by rw [show (Int32.ofInt 1).toInt = 1 from rfl]; omega) (by rw [show (Int32.ofInt 1).toInt = 1 from rfl]; omega)
      rw [show (Int32.ofInt 1).toInt = 1 from rfl] at hz134
      refine lv_iinc (lv' := [(3, .int z134), (2, .int z133), (1, .ref (L j)), (0, .ref h0)]) (k := 1) (v := z134) hx hb dX12_count_26 hl rfl ez134.symm (by decide) rfl (fun ls hl => ?_)
      refine lv_goto (tgt := 4) hx hb dX12_count_29 rfl ?_
      have hl : lv_has ls 4 [(3, .int z134), (2, .int z133), (1, .ref (L j)), (0, .ref h0)] := lv_sub hl [0, 1, 2, 3] rfl
      exact ih (z134, z133) σ ls H locs (by (try dsimp only); omega) hl ⟨rfl, by (try dsimp only); omega⟩ hH
    · have ch132 := i_nle h132
      refine lv_iconst (v := 1) hx hb dX12_count_19 (by decide) ?_
      refine lv_goto (tgt := 24) hx hb dX12_count_20 rfl ?_
      refine lv_iadd hx hb dX12_count_24 ?_
      refine lv_topi (fun z135 ez135 => ?_)
      try have hz135 := i_add ez135 (by omega) (by omega)
      refine lv_istore_n (lv' := [(2, .int z135), (3, .int x126), (1, .ref (L j)), (0, .ref h0)]) hx hb dX12_count_25 rfl hl (by decide) rfl (fun ls hl => ?_)
      obtain ⟨z136, ez136⟩ : ∃ z : Int32, z = x126 + Int32.ofInt 1 := ⟨_, rfl⟩
      have hz136 := i_add ez136 (by rw [show (Int32.ofInt 1).toInt = 1 from rfl]; omega) (by rw [show (Int32.ofInt 1).toInt = 1 from rfl]; omega)
      rw [show (Int32.ofInt 1).toInt = 1 from rfl] at hz136
      refine lv_iinc (lv' := [(3, .int z136), (2, .int z135), (1, .ref (L j)), (0, .ref h0)]) (k := 1) (v := z136) hx hb dX12_count_26 hl rfl ez136.symm (by decide) rfl (fun ls hl => ?_)
      refine lv_goto (tgt := 4) hx hb dX12_count_29 rfl ?_
      have hl : lv_has ls 4 [(3, .int z136), (2, .int z135), (1, .ref (L j)), (0, .ref h0)] := lv_sub hl [0, 1, 2, 3] rfl
      exact ih (z136, z135) σ ls H locs (by (try dsimp only); omega) hl ⟨rfl, by (try dsimp only); omega⟩ hH
theorem dX12_vacant_0 : decode cX12_vacant 0 = .ok (.iconst 0, 1) := by decide +kernel
theorem dX12_vacant_1 : decode cX12_vacant 1 = .ok (.istore_n 2, 1) := by decide +kernel
theorem dX12_vacant_2 : decode cX12_vacant 2 = .ok (.iload_n 2, 1) := by decide +kernel
theorem dX12_vacant_3 : decode cX12_vacant 3 = .ok (.aload_n 1, 1) := by decide +kernel
theorem dX12_vacant_4 : decode cX12_vacant 4 = .ok (.arraylength, 1) := by decide +kernel
theorem dX12_vacant_5 : decode cX12_vacant 5 = .ok (.if_icmp .ge 17, 3) := by decide +kernel
theorem dX12_vacant_8 : decode cX12_vacant 8 = .ok (.aload_n 1, 1) := by decide +kernel
theorem dX12_vacant_9 : decode cX12_vacant 9 = .ok (.iload_n 2, 1) := by decide +kernel
theorem dX12_vacant_10 : decode cX12_vacant 10 = .ok (.laload, 1) := by decide +kernel
theorem dX12_vacant_11 : decode cX12_vacant 11 = .ok (.lconst 0, 1) := by decide +kernel
theorem dX12_vacant_12 : decode cX12_vacant 12 = .ok (.lcmp, 1) := by decide +kernel
theorem dX12_vacant_13 : decode cX12_vacant 13 = .ok (.ifCond .le 9, 3) := by decide +kernel
theorem dX12_vacant_16 : decode cX12_vacant 16 = .ok (.iinc 2 1, 3) := by decide +kernel
theorem dX12_vacant_19 : decode cX12_vacant 19 = .ok (.goto (-17), 3) := by decide +kernel
theorem dX12_vacant_22 : decode cX12_vacant 22 = .ok (.iload_n 2, 1) := by decide +kernel
theorem dX12_vacant_23 : decode cX12_vacant 23 = .ok (.ireturn, 1) := by decide +kernel
set_option maxRecDepth 100000 in
set_option maxHeartbeats 4000000 in
theorem c_X12_vacant (l : Launch) (D : va_G) (t : Nat → ClassId) (h0 : Nat) (L : Nat → Nat) (σ : HS) (hO : OK ph τ0 σ) (hM : MdI h0 L σ) (j N : Nat) (hj : j < 80) (hp : ph (30 + j) = 22) (hN : lnL.getD j 0 = N) (hN2 : N < 2 ^ 31) (sz : Nat) : HMi ph τ0 l D t yX12_vacant cX12_vacant 3 (some .int) ({ frames := 0, cells := 0, slots := 0, locals := 0 }) σ sz [.ref h0, .ref (L j)] 0 0 (fun r σ' => MdI h0 L σ' ∧ σ' = σ ∧ (0 ≤ r.toInt ∧ r.toInt ≤ N)) := by
  refine h_go hO (by decide) (Nat.le_of_ble_eq_true rfl) ?_
  intro p e s m below meth c ls A hF hr hlk hAe hH0 hA hl
  unfold hB
  rw [hAe]
  clear hAe
  have hF : FX p m c cX12_vacant 3 s _ RX12 D t := hF
  have hx := hF.1.1
  have hb := hF.1.2.1
  have hH : MT D t A s.heap h0 L σ s.heap [] := ⟨hH0, hM⟩
  have hle : HLe σ σ := HLe.rf
  have k_0 : (0 : Int32).toInt = 0 := rfl
  have hl : lv_has ls 3 [(0, .ref h0), (1, .ref (L j))] := hl
  refine lv_iconst (v := 0) hx hb dX12_vacant_0 (by decide) ?_
  refine lv_istore_n (lv' := [(2, .int 0), (0, .ref h0), (1, .ref (L j))]) hx hb dX12_vacant_1 rfl hl (by decide) rfl (fun ls hl => ?_)
  have hl : lv_has ls 3 [(2, .int 0), (1, .ref (L j)), (0, .ref h0)] := lv_sub hl [0, 2, 1] rfl
  refine m_loop (β := Int32) (L0 := fun x => [(2, .int x), (1, .ref (L j)), (0, .ref h0)]) (I := fun x σ2 => σ = σ2 ∧ (0 ≤ x.toInt ∧ x.toInt ≤ N)) (fun x σ2 => (N - x.toInt).toNat) (0) hl ⟨rfl, by (try dsimp only); omega⟩ hH (fun x σL ls H locs hl hI hH ih => ?_)
  obtain ⟨x137, hx1⟩ : ∃ y, y = x := ⟨_, rfl⟩
  subst hx1
  obtain ⟨hsL, hI⟩ := hI
  subst hsL
  have hl : lv_has ls 3 [(2, .int x137), (1, .ref (L j)), (0, .ref h0)] := hl
  have hI : 0 ≤ x137.toInt ∧ x137.toInt ≤ N := hI
  have rg_x137 := i_range x137
  refine lv_iload_n hx hb dX12_vacant_2 rfl (lv_at hl 0 rfl) ?_
  refine lv_aload_n hx hb dX12_vacant_3 rfl (lv_at hl 1 rfl) ?_
  refine m_alen j N hF hH dX12_vacant_4 hj hp hN hN2 (fun z138 hz138 => ?_)
  refine lv_icmp_ge (tgt := 22) hx hb dX12_vacant_5 rfl (fun h139 => ?_) (fun h139 => ?_)
  · have ch139 := i_le h139
    refine lv_iload_n hx hb dX12_vacant_22 rfl (lv_at hl 0 rfl) ?_
    exact h_reti hF hr hlk rfl dX12_vacant_23 hH.1 hle ⟨hH.2, rfl, by (try dsimp only); omega⟩
  · have ch139 := i_nle h139
    refine lv_aload_n hx hb dX12_vacant_8 rfl (lv_at hl 1 rfl) ?_
    refine lv_iload_n hx hb dX12_vacant_9 rfl (lv_at hl 0 rfl) ?_
    refine m_lald j N hF hH dX12_vacant_10 hj hp hN (by omega) (by omega) (fun z140 ez140 => ?_)
    refine lv_lconst (v := 0) hx hb dX12_vacant_11 (by decide) ?_
    refine W.lcmp hx hb dX12_vacant_12 ?_
    refine lv_topi (fun z141 ez141 => ?_)
    refine lv_if_le (tgt := 22) hx hb dX12_vacant_13 rfl (fun h142 => ?_) (fun h142 => ?_)
    · have ch142 := i_le h142
      refine lv_iload_n hx hb dX12_vacant_22 rfl (lv_at hl 0 rfl) ?_
      exact h_reti hF hr hlk rfl dX12_vacant_23 hH.1 hle ⟨hH.2, rfl, by (try dsimp only); omega⟩
    · have ch142 := i_nle h142
      obtain ⟨z143, ez143⟩ : ∃ z : Int32, z = x137 + Int32.ofInt 1 := ⟨_, rfl⟩
      have hz143 := i_add ez143 (by rw [show (Int32.ofInt 1).toInt = 1 from rfl]; omega) (by rw [show (Int32.ofInt 1).toInt = 1 from rfl]; omega)
      rw [show (Int32.ofInt 1).toInt = 1 from rfl] at hz143
      refine lv_iinc (lv' := [(2, .int z143), (1, .ref (L j)), (0, .ref h0)]) (k := 0) (v := z143) hx hb dX12_vacant_16 hl rfl ez143.symm (by decide) rfl (fun ls hl => ?_)
      refine lv_goto (tgt := 2) hx hb dX12_vacant_19 rfl ?_
      have hl : lv_has ls 3 [(2, .int z143), (1, .ref (L j)), (0, .ref h0)] := lv_sub hl [0, 1, 2] rfl
      exact ih (z143) σ ls H locs (by (try dsimp only); omega) hl ⟨rfl, by (try dsimp only); omega⟩ hH
theorem dX12_openBy_0 : decode cX12_openBy 0 = .ok (.iconst 0, 1) := by decide +kernel
theorem dX12_openBy_1 : decode cX12_openBy 1 = .ok (.istore_n 3, 1) := by decide +kernel
theorem dX12_openBy_2 : decode cX12_openBy 2 = .ok (.iload_n 3, 1) := by decide +kernel
theorem dX12_openBy_3 : decode cX12_openBy 3 = .ok (.bipush 40, 2) := by decide +kernel
theorem dX12_openBy_5 : decode cX12_openBy 5 = .ok (.if_icmp .ge 28, 3) := by decide +kernel
theorem dX12_openBy_8 : decode cX12_openBy 8 = .ok (.lload_n 1, 1) := by decide +kernel
theorem dX12_openBy_9 : decode cX12_openBy 9 = .ok (.lconst 0, 1) := by decide +kernel
theorem dX12_openBy_10 : decode cX12_openBy 10 = .ok (.lcmp, 1) := by decide +kernel
theorem dX12_openBy_11 : decode cX12_openBy 11 = .ok (.ifCond .eq 16, 3) := by decide +kernel
theorem dX12_openBy_14 : decode cX12_openBy 14 = .ok (.aload_n 0, 1) := by decide +kernel
theorem dX12_openBy_15 : decode cX12_openBy 15 = .ok (.getfield 139, 3) := by decide +kernel
theorem dX12_openBy_18 : decode cX12_openBy 18 = .ok (.iload_n 3, 1) := by decide +kernel
theorem dX12_openBy_19 : decode cX12_openBy 19 = .ok (.laload, 1) := by decide +kernel
theorem dX12_openBy_20 : decode cX12_openBy 20 = .ok (.lload_n 1, 1) := by decide +kernel
theorem dX12_openBy_21 : decode cX12_openBy 21 = .ok (.lcmp, 1) := by decide +kernel
theorem dX12_openBy_22 : decode cX12_openBy 22 = .ok (.ifCond .ne 5, 3) := by decide +kernel
theorem dX12_openBy_25 : decode cX12_openBy 25 = .ok (.iload_n 3, 1) := by decide +kernel
theorem dX12_openBy_26 : decode cX12_openBy 26 = .ok (.ireturn, 1) := by decide +kernel
theorem dX12_openBy_27 : decode cX12_openBy 27 = .ok (.iinc 3 1, 3) := by decide +kernel
theorem dX12_openBy_30 : decode cX12_openBy 30 = .ok (.goto (-28), 3) := by decide +kernel
theorem dX12_openBy_33 : decode cX12_openBy 33 = .ok (.iconst (-1), 1) := by decide +kernel
theorem dX12_openBy_34 : decode cX12_openBy 34 = .ok (.ireturn, 1) := by decide +kernel
set_option maxRecDepth 100000 in
set_option maxHeartbeats 4000000 in
theorem c_X12_openBy (l : Launch) (D : va_G) (t : Nat → ClassId) (h0 : Nat) (L : Nat → Nat) (σ : HS) (hO : OK ph τ0 σ) (hM : MdI h0 L σ) (v : Int64) (sz : Nat) : HMi ph τ0 l D t yX12_openBy cX12_openBy 4 (some .int) ({ frames := 0, cells := 0, slots := 0, locals := 0 }) σ sz [.ref h0, .long v] 0 0 (fun r σ' => MdI h0 L σ' ∧ σ' = σ ∧ (-1 ≤ r.toInt ∧ r.toInt ≤ 39)) := by
  refine h_go hO (by decide) (Nat.le_of_ble_eq_true rfl) ?_
  intro p e s m below meth c ls A hF hr hlk hAe hH0 hA hl
  unfold hB
  rw [hAe]
  clear hAe
  have hF : FX p m c cX12_openBy 4 s _ RX12 D t := hF
  have hx := hF.1.1
  have hb := hF.1.2.1
  have hH : MT D t A s.heap h0 L σ s.heap [] := ⟨hH0, hM⟩
  have hle : HLe σ σ := HLe.rf
  have k_m1 : ((-1) : Int32).toInt = (-1) := rfl
  have k_0 : (0 : Int32).toInt = 0 := rfl
  have k_40 : (40 : Int32).toInt = 40 := rfl
  have hl : lv_has ls 4 [(0, .ref h0), (1, .long v)] := hl
  refine lv_iconst (v := 0) hx hb dX12_openBy_0 (by decide) ?_
  refine lv_istore_n (lv' := [(3, .int 0), (0, .ref h0), (1, .long v)]) hx hb dX12_openBy_1 rfl hl (by decide) rfl (fun ls hl => ?_)
  have hl : lv_has ls 4 [(3, .int 0), (1, .long v), (0, .ref h0)] := lv_sub hl [0, 2, 1] rfl
  refine m_loop (β := Int32) (L0 := fun x => [(3, .int x), (1, .long v), (0, .ref h0)]) (I := fun x σ2 => σ = σ2 ∧ (0 ≤ x.toInt ∧ x.toInt ≤ 40)) (fun x σ2 => (40 - x.toInt).toNat) (0) hl ⟨rfl, by (try dsimp only); omega⟩ hH (fun x σL ls H locs hl hI hH ih => ?_)
  obtain ⟨x144, hx1⟩ : ∃ y, y = x := ⟨_, rfl⟩
  subst hx1
  obtain ⟨hsL, hI⟩ := hI
  subst hsL
  have hl : lv_has ls 4 [(3, .int x144), (1, .long v), (0, .ref h0)] := hl
  have hI : 0 ≤ x144.toInt ∧ x144.toInt ≤ 40 := hI
  have rg_x144 := i_range x144
  refine lv_iload_n hx hb dX12_openBy_2 rfl (lv_at hl 0 rfl) ?_
  refine lv_bipush (v := 40) hx hb dX12_openBy_3 (by decide) ?_
  refine lv_icmp_ge (tgt := 33) hx hb dX12_openBy_5 rfl (fun h145 => ?_) (fun h145 => ?_)
  · have ch145 := i_le h145
    refine lv_iconst (v := (-1)) hx hb dX12_openBy_33 (by decide) ?_
    exact h_reti hF hr hlk rfl dX12_openBy_34 hH.1 hle ⟨hH.2, rfl, by (try dsimp only); omega⟩
  · have ch145 := i_nle h145
    refine lv_lload_n hx hb dX12_openBy_8 rfl (lv_at hl 1 rfl) ?_
    refine lv_lconst (v := 0) hx hb dX12_openBy_9 (by decide) ?_
    refine W.lcmp hx hb dX12_openBy_10 ?_
    refine lv_topi (fun z146 ez146 => ?_)
    refine lv_if_eq (tgt := 27) hx hb dX12_openBy_11 rfl (fun h147 => ?_) (fun h147 => ?_)
    · have ch147 := i_eq h147
      obtain ⟨z148, ez148⟩ : ∃ z : Int32, z = x144 + Int32.ofInt 1 := ⟨_, rfl⟩
      have hz148 := i_add ez148 (by rw [show (Int32.ofInt 1).toInt = 1 from rfl]; omega) (by rw [show (Int32.ofInt 1).toInt = 1 from rfl]; omega)
      rw [show (Int32.ofInt 1).toInt = 1 from rfl] at hz148
      refine lv_iinc (lv' := [(3, .int z148), (1, .long v), (0, .ref h0)]) (k := 0) (v := z148) hx hb dX12_openBy_27 hl rfl ez148.symm (by decide) rfl (fun ls hl => ?_)
      refine lv_goto (tgt := 2) hx hb dX12_openBy_30 rfl ?_
      have hl : lv_has ls 4 [(3, .int z148), (1, .long v), (0, .ref h0)] := lv_sub hl [0, 1, 2] rfl
      exact ih (z148) σ ls H locs (by (try dsimp only); omega) hl ⟨rfl, by (try dsimp only); omega⟩ hH
    · have ch147 := i_ne h147
      refine lv_aload_n hx hb dX12_openBy_14 rfl (lv_at hl 2 rfl) ?_
      refine m_getA 41 hF hH fk_X12_139 dX12_openBy_15 (by decide) rfl ?_
      refine lv_iload_n hx hb dX12_openBy_18 rfl (lv_at hl 0 rfl) ?_
      refine m_lald 41 40 hF hH dX12_openBy_19 (by decide) rfl rfl (by omega) (by omega) (fun z149 ez149 => ?_)
      refine lv_lload_n hx hb dX12_openBy_20 rfl (lv_at hl 1 rfl) ?_
      refine W.lcmp hx hb dX12_openBy_21 ?_
      refine lv_topi (fun z150 ez150 => ?_)
      refine lv_if_ne (tgt := 27) hx hb dX12_openBy_22 rfl (fun h151 => ?_) (fun h151 => ?_)
      · have ch151 := i_ne h151
        obtain ⟨z152, ez152⟩ : ∃ z : Int32, z = x144 + Int32.ofInt 1 := ⟨_, rfl⟩
        have hz152 := i_add ez152 (by rw [show (Int32.ofInt 1).toInt = 1 from rfl]; omega) (by rw [show (Int32.ofInt 1).toInt = 1 from rfl]; omega)
        rw [show (Int32.ofInt 1).toInt = 1 from rfl] at hz152
        refine lv_iinc (lv' := [(3, .int z152), (1, .long v), (0, .ref h0)]) (k := 0) (v := z152) hx hb dX12_openBy_27 hl rfl ez152.symm (by decide) rfl (fun ls hl => ?_)
        refine lv_goto (tgt := 2) hx hb dX12_openBy_30 rfl ?_
        have hl : lv_has ls 4 [(3, .int z152), (1, .long v), (0, .ref h0)] := lv_sub hl [0, 1, 2] rfl
        exact ih (z152) σ ls H locs (by (try dsimp only); omega) hl ⟨rfl, by (try dsimp only); omega⟩ hH
      · have ch151 := i_eq h151
        refine lv_iload_n hx hb dX12_openBy_25 rfl (lv_at hl 0 rfl) ?_
        exact h_reti hF hr hlk rfl dX12_openBy_26 hH.1 hle ⟨hH.2, rfl, by (try dsimp only); omega⟩
theorem dX12_findSession_0 : decode cX12_findSession 0 = .ok (.iconst 0, 1) := by decide +kernel
theorem dX12_findSession_1 : decode cX12_findSession 1 = .ok (.istore_n 3, 1) := by decide +kernel
theorem dX12_findSession_2 : decode cX12_findSession 2 = .ok (.iload_n 3, 1) := by decide +kernel
theorem dX12_findSession_3 : decode cX12_findSession 3 = .ok (.bipush 8, 2) := by decide +kernel
theorem dX12_findSession_5 : decode cX12_findSession 5 = .ok (.if_icmp .ge 41, 3) := by decide +kernel
theorem dX12_findSession_8 : decode cX12_findSession 8 = .ok (.lload_n 1, 1) := by decide +kernel
theorem dX12_findSession_9 : decode cX12_findSession 9 = .ok (.lconst 0, 1) := by decide +kernel
theorem dX12_findSession_10 : decode cX12_findSession 10 = .ok (.lcmp, 1) := by decide +kernel
theorem dX12_findSession_11 : decode cX12_findSession 11 = .ok (.ifCond .eq 29, 3) := by decide +kernel
theorem dX12_findSession_14 : decode cX12_findSession 14 = .ok (.aload_n 0, 1) := by decide +kernel
theorem dX12_findSession_15 : decode cX12_findSession 15 = .ok (.getfield 118, 3) := by decide +kernel
theorem dX12_findSession_18 : decode cX12_findSession 18 = .ok (.iload_n 3, 1) := by decide +kernel
theorem dX12_findSession_19 : decode cX12_findSession 19 = .ok (.laload, 1) := by decide +kernel
theorem dX12_findSession_20 : decode cX12_findSession 20 = .ok (.lload_n 1, 1) := by decide +kernel
theorem dX12_findSession_21 : decode cX12_findSession 21 = .ok (.lcmp, 1) := by decide +kernel
theorem dX12_findSession_22 : decode cX12_findSession 22 = .ok (.ifCond .ne 18, 3) := by decide +kernel
theorem dX12_findSession_25 : decode cX12_findSession 25 = .ok (.aload_n 0, 1) := by decide +kernel
theorem dX12_findSession_26 : decode cX12_findSession 26 = .ok (.getfield 121, 3) := by decide +kernel
theorem dX12_findSession_29 : decode cX12_findSession 29 = .ok (.iload_n 3, 1) := by decide +kernel
theorem dX12_findSession_30 : decode cX12_findSession 30 = .ok (.iaload, 1) := by decide +kernel
theorem dX12_findSession_31 : decode cX12_findSession 31 = .ok (.aload_n 0, 1) := by decide +kernel
theorem dX12_findSession_32 : decode cX12_findSession 32 = .ok (.getfield 382, 3) := by decide +kernel
theorem dX12_findSession_35 : decode cX12_findSession 35 = .ok (.if_icmp .ne 5, 3) := by decide +kernel
theorem dX12_findSession_38 : decode cX12_findSession 38 = .ok (.iload_n 3, 1) := by decide +kernel
theorem dX12_findSession_39 : decode cX12_findSession 39 = .ok (.ireturn, 1) := by decide +kernel
theorem dX12_findSession_40 : decode cX12_findSession 40 = .ok (.iinc 3 1, 3) := by decide +kernel
theorem dX12_findSession_43 : decode cX12_findSession 43 = .ok (.goto (-41), 3) := by decide +kernel
theorem dX12_findSession_46 : decode cX12_findSession 46 = .ok (.iconst (-1), 1) := by decide +kernel
theorem dX12_findSession_47 : decode cX12_findSession 47 = .ok (.ireturn, 1) := by decide +kernel
set_option maxRecDepth 100000 in
set_option maxHeartbeats 4000000 in
theorem c_X12_findSession (l : Launch) (D : va_G) (t : Nat → ClassId) (h0 : Nat) (L : Nat → Nat) (σ : HS) (hO : OK ph τ0 σ) (hM : MdI h0 L σ) (v : Int64) (sz : Nat) : HMi ph τ0 l D t yX12_findSession cX12_findSession 4 (some .int) ({ frames := 0, cells := 0, slots := 0, locals := 0 }) σ sz [.ref h0, .long v] 0 0 (fun r σ' => MdI h0 L σ' ∧ σ' = σ ∧ (-1 ≤ r.toInt ∧ r.toInt ≤ 7)) := by
  refine h_go hO (by decide) (Nat.le_of_ble_eq_true rfl) ?_
  intro p e s m below meth c ls A hF hr hlk hAe hH0 hA hl
  unfold hB
  rw [hAe]
  clear hAe
  have hF : FX p m c cX12_findSession 4 s _ RX12 D t := hF
  have hx := hF.1.1
  have hb := hF.1.2.1
  have hH : MT D t A s.heap h0 L σ s.heap [] := ⟨hH0, hM⟩
  have hle : HLe σ σ := HLe.rf
  have k_m1 : ((-1) : Int32).toInt = (-1) := rfl
  have k_0 : (0 : Int32).toInt = 0 := rfl
  have k_8 : (8 : Int32).toInt = 8 := rfl
  have hl : lv_has ls 4 [(0, .ref h0), (1, .long v)] := hl
  refine lv_iconst (v := 0) hx hb dX12_findSession_0 (by decide) ?_
  refine lv_istore_n (lv' := [(3, .int 0), (0, .ref h0), (1, .long v)]) hx hb dX12_findSession_1 rfl hl (by decide) rfl (fun ls hl => ?_)
  have hl : lv_has ls 4 [(3, .int 0), (1, .long v), (0, .ref h0)] := lv_sub hl [0, 2, 1] rfl
  refine m_loop (β := Int32) (L0 := fun x => [(3, .int x), (1, .long v), (0, .ref h0)]) (I := fun x σ2 => σ = σ2 ∧ (0 ≤ x.toInt ∧ x.toInt ≤ 8)) (fun x σ2 => (8 - x.toInt).toNat) (0) hl ⟨rfl, by (try dsimp only); omega⟩ hH (fun x σL ls H locs hl hI hH ih => ?_)
  obtain ⟨x153, hx1⟩ : ∃ y, y = x := ⟨_, rfl⟩
  subst hx1
  obtain ⟨hsL, hI⟩ := hI
  subst hsL
  have hl : lv_has ls 4 [(3, .int x153), (1, .long v), (0, .ref h0)] := hl
  have hI : 0 ≤ x153.toInt ∧ x153.toInt ≤ 8 := hI
  have rg_x153 := i_range x153
  refine lv_iload_n hx hb dX12_findSession_2 rfl (lv_at hl 0 rfl) ?_
  refine lv_bipush (v := 8) hx hb dX12_findSession_3 (by decide) ?_
  refine lv_icmp_ge (tgt := 46) hx hb dX12_findSession_5 rfl (fun h154 => ?_) (fun h154 => ?_)
  · have ch154 := i_le h154
    refine lv_iconst (v := (-1)) hx hb dX12_findSession_46 (by decide) ?_
    exact h_reti hF hr hlk rfl dX12_findSession_47 hH.1 hle ⟨hH.2, rfl, by (try dsimp only); omega⟩
  · have ch154 := i_nle h154
    refine lv_lload_n hx hb dX12_findSession_8 rfl (lv_at hl 1 rfl) ?_
    refine lv_lconst (v := 0) hx hb dX12_findSession_9 (by decide) ?_
    refine W.lcmp hx hb dX12_findSession_10 ?_
    refine lv_topi (fun z155 ez155 => ?_)
    refine lv_if_eq (tgt := 40) hx hb dX12_findSession_11 rfl (fun h156 => ?_) (fun h156 => ?_)
    · have ch156 := i_eq h156
      obtain ⟨z157, ez157⟩ : ∃ z : Int32, z = x153 + Int32.ofInt 1 := ⟨_, rfl⟩
      have hz157 := i_add ez157 (by rw [show (Int32.ofInt 1).toInt = 1 from rfl]; omega) (by rw [show (Int32.ofInt 1).toInt = 1 from rfl]; omega)
      rw [show (Int32.ofInt 1).toInt = 1 from rfl] at hz157
      refine lv_iinc (lv' := [(3, .int z157), (1, .long v), (0, .ref h0)]) (k := 0) (v := z157) hx hb dX12_findSession_40 hl rfl ez157.symm (by decide) rfl (fun ls hl => ?_)
      refine lv_goto (tgt := 2) hx hb dX12_findSession_43 rfl ?_
      have hl : lv_has ls 4 [(3, .int z157), (1, .long v), (0, .ref h0)] := lv_sub hl [0, 1, 2] rfl
      exact ih (z157) σ ls H locs (by (try dsimp only); omega) hl ⟨rfl, by (try dsimp only); omega⟩ hH
    · have ch156 := i_ne h156
      refine lv_aload_n hx hb dX12_findSession_14 rfl (lv_at hl 2 rfl) ?_
      refine m_getA 34 hF hH fk_X12_118 dX12_findSession_15 (by decide) rfl ?_
      refine lv_iload_n hx hb dX12_findSession_18 rfl (lv_at hl 0 rfl) ?_
      refine m_lald 34 8 hF hH dX12_findSession_19 (by decide) rfl rfl (by omega) (by omega) (fun z158 ez158 => ?_)
      refine lv_lload_n hx hb dX12_findSession_20 rfl (lv_at hl 1 rfl) ?_
      refine W.lcmp hx hb dX12_findSession_21 ?_
      refine lv_topi (fun z159 ez159 => ?_)
      refine lv_if_ne (tgt := 40) hx hb dX12_findSession_22 rfl (fun h160 => ?_) (fun h160 => ?_)
      · have ch160 := i_ne h160
        obtain ⟨z161, ez161⟩ : ∃ z : Int32, z = x153 + Int32.ofInt 1 := ⟨_, rfl⟩
        have hz161 := i_add ez161 (by rw [show (Int32.ofInt 1).toInt = 1 from rfl]; omega) (by rw [show (Int32.ofInt 1).toInt = 1 from rfl]; omega)
        rw [show (Int32.ofInt 1).toInt = 1 from rfl] at hz161
        refine lv_iinc (lv' := [(3, .int z161), (1, .long v), (0, .ref h0)]) (k := 0) (v := z161) hx hb dX12_findSession_40 hl rfl ez161.symm (by decide) rfl (fun ls hl => ?_)
        refine lv_goto (tgt := 2) hx hb dX12_findSession_43 rfl ?_
        have hl : lv_has ls 4 [(3, .int z161), (1, .long v), (0, .ref h0)] := lv_sub hl [0, 1, 2] rfl
        exact ih (z161) σ ls H locs (by (try dsimp only); omega) hl ⟨rfl, by (try dsimp only); omega⟩ hH
      · have ch160 := i_eq h160
        refine lv_aload_n hx hb dX12_findSession_25 rfl (lv_at hl 2 rfl) ?_
        refine m_getA 35 hF hH fk_X12_121 dX12_findSession_26 (by decide) rfl ?_
        refine lv_iload_n hx hb dX12_findSession_29 rfl (lv_at hl 0 rfl) ?_
        refine m_iald 35 8 hF hH dX12_findSession_30 (by decide) rfl rfl 0 5 rfl rfl (by omega) (by omega) (fun z162 ez162 vz162 => ?_)
        have wz162 := i_eq ez162
        refine lv_aload_n hx hb dX12_findSession_31 rfl (lv_at hl 2 rfl) ?_
        refine m_getI hF hH fk_X12_382 dX12_findSession_32 0 5 rfl rfl (fun z163 ez163 vz163 => ?_)
        have wz163 := i_eq ez163
        refine lv_icmp_ne (tgt := 40) hx hb dX12_findSession_35 rfl (fun h164 => ?_) (fun h164 => ?_)
        · have ch164 := i_ne h164
          obtain ⟨z165, ez165⟩ : ∃ z : Int32, z = x153 + Int32.ofInt 1 := ⟨_, rfl⟩
          have hz165 := i_add ez165 (by rw [show (Int32.ofInt 1).toInt = 1 from rfl]; omega) (by rw [show (Int32.ofInt 1).toInt = 1 from rfl]; omega)
          rw [show (Int32.ofInt 1).toInt = 1 from rfl] at hz165
          refine lv_iinc (lv' := [(3, .int z165), (1, .long v), (0, .ref h0)]) (k := 0) (v := z165) hx hb dX12_findSession_40 hl rfl ez165.symm (by decide) rfl (fun ls hl => ?_)
          refine lv_goto (tgt := 2) hx hb dX12_findSession_43 rfl ?_
          have hl : lv_has ls 4 [(3, .int z165), (1, .long v), (0, .ref h0)] := lv_sub hl [0, 1, 2] rfl
          exact ih (z165) σ ls H locs (by (try dsimp only); omega) hl ⟨rfl, by (try dsimp only); omega⟩ hH
        · have ch164 := i_eq h164
          refine lv_iload_n hx hb dX12_findSession_38 rfl (lv_at hl 0 rfl) ?_
          exact h_reti hF hr hlk rfl dX12_findSession_39 hH.1 hle ⟨hH.2, rfl, by (try dsimp only); omega⟩
theorem dX12_findTree_0 : decode cX12_findTree 0 = .ok (.iconst 0, 1) := by decide +kernel
theorem dX12_findTree_1 : decode cX12_findTree 1 = .ok (.istore_n 3, 1) := by decide +kernel
theorem dX12_findTree_2 : decode cX12_findTree 2 = .ok (.iload_n 3, 1) := by decide +kernel
theorem dX12_findTree_3 : decode cX12_findTree 3 = .ok (.bipush 16, 2) := by decide +kernel
theorem dX12_findTree_5 : decode cX12_findTree 5 = .ok (.if_icmp .ge 41, 3) := by decide +kernel
theorem dX12_findTree_8 : decode cX12_findTree 8 = .ok (.lload_n 1, 1) := by decide +kernel
theorem dX12_findTree_9 : decode cX12_findTree 9 = .ok (.lconst 0, 1) := by decide +kernel
theorem dX12_findTree_10 : decode cX12_findTree 10 = .ok (.lcmp, 1) := by decide +kernel
theorem dX12_findTree_11 : decode cX12_findTree 11 = .ok (.ifCond .eq 29, 3) := by decide +kernel
theorem dX12_findTree_14 : decode cX12_findTree 14 = .ok (.aload_n 0, 1) := by decide +kernel
theorem dX12_findTree_15 : decode cX12_findTree 15 = .ok (.getfield 130, 3) := by decide +kernel
theorem dX12_findTree_18 : decode cX12_findTree 18 = .ok (.iload_n 3, 1) := by decide +kernel
theorem dX12_findTree_19 : decode cX12_findTree 19 = .ok (.laload, 1) := by decide +kernel
theorem dX12_findTree_20 : decode cX12_findTree 20 = .ok (.lload_n 1, 1) := by decide +kernel
theorem dX12_findTree_21 : decode cX12_findTree 21 = .ok (.lcmp, 1) := by decide +kernel
theorem dX12_findTree_22 : decode cX12_findTree 22 = .ok (.ifCond .ne 18, 3) := by decide +kernel
theorem dX12_findTree_25 : decode cX12_findTree 25 = .ok (.aload_n 0, 1) := by decide +kernel
theorem dX12_findTree_26 : decode cX12_findTree 26 = .ok (.getfield 133, 3) := by decide +kernel
theorem dX12_findTree_29 : decode cX12_findTree 29 = .ok (.iload_n 3, 1) := by decide +kernel
theorem dX12_findTree_30 : decode cX12_findTree 30 = .ok (.iaload, 1) := by decide +kernel
theorem dX12_findTree_31 : decode cX12_findTree 31 = .ok (.aload_n 0, 1) := by decide +kernel
theorem dX12_findTree_32 : decode cX12_findTree 32 = .ok (.getfield 492, 3) := by decide +kernel
theorem dX12_findTree_35 : decode cX12_findTree 35 = .ok (.if_icmp .ne 5, 3) := by decide +kernel
theorem dX12_findTree_38 : decode cX12_findTree 38 = .ok (.iload_n 3, 1) := by decide +kernel
theorem dX12_findTree_39 : decode cX12_findTree 39 = .ok (.ireturn, 1) := by decide +kernel
theorem dX12_findTree_40 : decode cX12_findTree 40 = .ok (.iinc 3 1, 3) := by decide +kernel
theorem dX12_findTree_43 : decode cX12_findTree 43 = .ok (.goto (-41), 3) := by decide +kernel
theorem dX12_findTree_46 : decode cX12_findTree 46 = .ok (.iconst (-1), 1) := by decide +kernel
theorem dX12_findTree_47 : decode cX12_findTree 47 = .ok (.ireturn, 1) := by decide +kernel
set_option maxRecDepth 100000 in
set_option maxHeartbeats 4000000 in
theorem c_X12_findTree (l : Launch) (D : va_G) (t : Nat → ClassId) (h0 : Nat) (L : Nat → Nat) (σ : HS) (hO : OK ph τ0 σ) (hM : MdI h0 L σ) (v : Int64) (sz : Nat) : HMi ph τ0 l D t yX12_findTree cX12_findTree 4 (some .int) ({ frames := 0, cells := 0, slots := 0, locals := 0 }) σ sz [.ref h0, .long v] 0 0 (fun r σ' => MdI h0 L σ' ∧ σ' = σ ∧ (-1 ≤ r.toInt ∧ r.toInt ≤ 15)) := by
  refine h_go hO (by decide) (Nat.le_of_ble_eq_true rfl) ?_
  intro p e s m below meth c ls A hF hr hlk hAe hH0 hA hl
  unfold hB
  rw [hAe]
  clear hAe
  have hF : FX p m c cX12_findTree 4 s _ RX12 D t := hF
  have hx := hF.1.1
  have hb := hF.1.2.1
  have hH : MT D t A s.heap h0 L σ s.heap [] := ⟨hH0, hM⟩
  have hle : HLe σ σ := HLe.rf
  have k_m1 : ((-1) : Int32).toInt = (-1) := rfl
  have k_0 : (0 : Int32).toInt = 0 := rfl
  have k_16 : (16 : Int32).toInt = 16 := rfl
  have hl : lv_has ls 4 [(0, .ref h0), (1, .long v)] := hl
  refine lv_iconst (v := 0) hx hb dX12_findTree_0 (by decide) ?_
  refine lv_istore_n (lv' := [(3, .int 0), (0, .ref h0), (1, .long v)]) hx hb dX12_findTree_1 rfl hl (by decide) rfl (fun ls hl => ?_)
  have hl : lv_has ls 4 [(3, .int 0), (1, .long v), (0, .ref h0)] := lv_sub hl [0, 2, 1] rfl
  refine m_loop (β := Int32) (L0 := fun x => [(3, .int x), (1, .long v), (0, .ref h0)]) (I := fun x σ2 => σ = σ2 ∧ (0 ≤ x.toInt ∧ x.toInt ≤ 16)) (fun x σ2 => (16 - x.toInt).toNat) (0) hl ⟨rfl, by (try dsimp only); omega⟩ hH (fun x σL ls H locs hl hI hH ih => ?_)
  obtain ⟨x166, hx1⟩ : ∃ y, y = x := ⟨_, rfl⟩
  subst hx1
  obtain ⟨hsL, hI⟩ := hI
  subst hsL
  have hl : lv_has ls 4 [(3, .int x166), (1, .long v), (0, .ref h0)] := hl
  have hI : 0 ≤ x166.toInt ∧ x166.toInt ≤ 16 := hI
  have rg_x166 := i_range x166
  refine lv_iload_n hx hb dX12_findTree_2 rfl (lv_at hl 0 rfl) ?_
  refine lv_bipush (v := 16) hx hb dX12_findTree_3 (by decide) ?_
  refine lv_icmp_ge (tgt := 46) hx hb dX12_findTree_5 rfl (fun h167 => ?_) (fun h167 => ?_)
  · have ch167 := i_le h167
    refine lv_iconst (v := (-1)) hx hb dX12_findTree_46 (by decide) ?_
    exact h_reti hF hr hlk rfl dX12_findTree_47 hH.1 hle ⟨hH.2, rfl, by (try dsimp only); omega⟩
  · have ch167 := i_nle h167
    refine lv_lload_n hx hb dX12_findTree_8 rfl (lv_at hl 1 rfl) ?_
    refine lv_lconst (v := 0) hx hb dX12_findTree_9 (by decide) ?_
    refine W.lcmp hx hb dX12_findTree_10 ?_
    refine lv_topi (fun z168 ez168 => ?_)
    refine lv_if_eq (tgt := 40) hx hb dX12_findTree_11 rfl (fun h169 => ?_) (fun h169 => ?_)
    · have ch169 := i_eq h169
      obtain ⟨z170, ez170⟩ : ∃ z : Int32, z = x166 + Int32.ofInt 1 := ⟨_, rfl⟩
      have hz170 := i_add ez170 (by rw [show (Int32.ofInt 1).toInt = 1 from rfl]; omega) (by rw [show (Int32.ofInt 1).toInt = 1 from rfl]; omega)
      rw [show (Int32.ofInt 1).toInt = 1 from rfl] at hz170
      refine lv_iinc (lv' := [(3, .int z170), (1, .long v), (0, .ref h0)]) (k := 0) (v := z170) hx hb dX12_findTree_40 hl rfl ez170.symm (by decide) rfl (fun ls hl => ?_)
      refine lv_goto (tgt := 2) hx hb dX12_findTree_43 rfl ?_
      have hl : lv_has ls 4 [(3, .int z170), (1, .long v), (0, .ref h0)] := lv_sub hl [0, 1, 2] rfl
      exact ih (z170) σ ls H locs (by (try dsimp only); omega) hl ⟨rfl, by (try dsimp only); omega⟩ hH
    · have ch169 := i_ne h169
      refine lv_aload_n hx hb dX12_findTree_14 rfl (lv_at hl 2 rfl) ?_
      refine m_getA 38 hF hH fk_X12_130 dX12_findTree_15 (by decide) rfl ?_
      refine lv_iload_n hx hb dX12_findTree_18 rfl (lv_at hl 0 rfl) ?_
      refine m_lald 38 16 hF hH dX12_findTree_19 (by decide) rfl rfl (by omega) (by omega) (fun z171 ez171 => ?_)
      refine lv_lload_n hx hb dX12_findTree_20 rfl (lv_at hl 1 rfl) ?_
      refine W.lcmp hx hb dX12_findTree_21 ?_
      refine lv_topi (fun z172 ez172 => ?_)
      refine lv_if_ne (tgt := 40) hx hb dX12_findTree_22 rfl (fun h173 => ?_) (fun h173 => ?_)
      · have ch173 := i_ne h173
        obtain ⟨z174, ez174⟩ : ∃ z : Int32, z = x166 + Int32.ofInt 1 := ⟨_, rfl⟩
        have hz174 := i_add ez174 (by rw [show (Int32.ofInt 1).toInt = 1 from rfl]; omega) (by rw [show (Int32.ofInt 1).toInt = 1 from rfl]; omega)
        rw [show (Int32.ofInt 1).toInt = 1 from rfl] at hz174
        refine lv_iinc (lv' := [(3, .int z174), (1, .long v), (0, .ref h0)]) (k := 0) (v := z174) hx hb dX12_findTree_40 hl rfl ez174.symm (by decide) rfl (fun ls hl => ?_)
        refine lv_goto (tgt := 2) hx hb dX12_findTree_43 rfl ?_
        have hl : lv_has ls 4 [(3, .int z174), (1, .long v), (0, .ref h0)] := lv_sub hl [0, 1, 2] rfl
        exact ih (z174) σ ls H locs (by (try dsimp only); omega) hl ⟨rfl, by (try dsimp only); omega⟩ hH
      · have ch173 := i_eq h173
        refine lv_aload_n hx hb dX12_findTree_25 rfl (lv_at hl 2 rfl) ?_
        refine m_getA 39 hF hH fk_X12_133 dX12_findTree_26 (by decide) rfl ?_
        refine lv_iload_n hx hb dX12_findTree_29 rfl (lv_at hl 0 rfl) ?_
        refine m_iald 39 16 hF hH dX12_findTree_30 (by decide) rfl rfl 0 7 rfl rfl (by omega) (by omega) (fun z175 ez175 vz175 => ?_)
        have wz175 := i_eq ez175
        refine lv_aload_n hx hb dX12_findTree_31 rfl (lv_at hl 2 rfl) ?_
        refine m_getI hF hH fk_X12_492 dX12_findTree_32 (-1) 7 rfl rfl (fun z176 ez176 vz176 => ?_)
        have wz176 := i_eq ez176
        refine lv_icmp_ne (tgt := 40) hx hb dX12_findTree_35 rfl (fun h177 => ?_) (fun h177 => ?_)
        · have ch177 := i_ne h177
          obtain ⟨z178, ez178⟩ : ∃ z : Int32, z = x166 + Int32.ofInt 1 := ⟨_, rfl⟩
          have hz178 := i_add ez178 (by rw [show (Int32.ofInt 1).toInt = 1 from rfl]; omega) (by rw [show (Int32.ofInt 1).toInt = 1 from rfl]; omega)
          rw [show (Int32.ofInt 1).toInt = 1 from rfl] at hz178
          refine lv_iinc (lv' := [(3, .int z178), (1, .long v), (0, .ref h0)]) (k := 0) (v := z178) hx hb dX12_findTree_40 hl rfl ez178.symm (by decide) rfl (fun ls hl => ?_)
          refine lv_goto (tgt := 2) hx hb dX12_findTree_43 rfl ?_
          have hl : lv_has ls 4 [(3, .int z178), (1, .long v), (0, .ref h0)] := lv_sub hl [0, 1, 2] rfl
          exact ih (z178) σ ls H locs (by (try dsimp only); omega) hl ⟨rfl, by (try dsimp only); omega⟩ hH
        · have ch177 := i_eq h177
          refine lv_iload_n hx hb dX12_findTree_38 rfl (lv_at hl 0 rfl) ?_
          exact h_reti hF hr hlk rfl dX12_findTree_39 hH.1 hle ⟨hH.2, rfl, by (try dsimp only); omega⟩
theorem dX12_eldestSession_0 : decode cX12_eldestSession 0 = .ok (.iconst (-1), 1) := by decide +kernel
theorem dX12_eldestSession_1 : decode cX12_eldestSession 1 = .ok (.istore_n 2, 1) := by decide +kernel
theorem dX12_eldestSession_2 : decode cX12_eldestSession 2 = .ok (.iconst 0, 1) := by decide +kernel
theorem dX12_eldestSession_3 : decode cX12_eldestSession 3 = .ok (.istore_n 3, 1) := by decide +kernel
theorem dX12_eldestSession_4 : decode cX12_eldestSession 4 = .ok (.iload_n 3, 1) := by decide +kernel
theorem dX12_eldestSession_5 : decode cX12_eldestSession 5 = .ok (.bipush 8, 2) := by decide +kernel
theorem dX12_eldestSession_7 : decode cX12_eldestSession 7 = .ok (.if_icmp .ge 68, 3) := by decide +kernel
theorem dX12_eldestSession_10 : decode cX12_eldestSession 10 = .ok (.aload_n 0, 1) := by decide +kernel
theorem dX12_eldestSession_11 : decode cX12_eldestSession 11 = .ok (.getfield 118, 3) := by decide +kernel
theorem dX12_eldestSession_14 : decode cX12_eldestSession 14 = .ok (.iload_n 3, 1) := by decide +kernel
theorem dX12_eldestSession_15 : decode cX12_eldestSession 15 = .ok (.laload, 1) := by decide +kernel
theorem dX12_eldestSession_16 : decode cX12_eldestSession 16 = .ok (.lconst 0, 1) := by decide +kernel
theorem dX12_eldestSession_17 : decode cX12_eldestSession 17 = .ok (.lcmp, 1) := by decide +kernel
theorem dX12_eldestSession_18 : decode cX12_eldestSession 18 = .ok (.ifCond .le 17, 3) := by decide +kernel
theorem dX12_eldestSession_21 : decode cX12_eldestSession 21 = .ok (.aload_n 0, 1) := by decide +kernel
theorem dX12_eldestSession_22 : decode cX12_eldestSession 22 = .ok (.getfield 121, 3) := by decide +kernel
theorem dX12_eldestSession_25 : decode cX12_eldestSession 25 = .ok (.iload_n 3, 1) := by decide +kernel
theorem dX12_eldestSession_26 : decode cX12_eldestSession 26 = .ok (.iaload, 1) := by decide +kernel
theorem dX12_eldestSession_27 : decode cX12_eldestSession 27 = .ok (.iload_n 1, 1) := by decide +kernel
theorem dX12_eldestSession_28 : decode cX12_eldestSession 28 = .ok (.if_icmp .ne 7, 3) := by decide +kernel
theorem dX12_eldestSession_31 : decode cX12_eldestSession 31 = .ok (.iconst 1, 1) := by decide +kernel
theorem dX12_eldestSession_32 : decode cX12_eldestSession 32 = .ok (.goto 4, 3) := by decide +kernel
theorem dX12_eldestSession_35 : decode cX12_eldestSession 35 = .ok (.iconst 0, 1) := by decide +kernel
theorem dX12_eldestSession_36 : decode cX12_eldestSession 36 = .ok (.istore 4, 2) := by decide +kernel
theorem dX12_eldestSession_38 : decode cX12_eldestSession 38 = .ok (.iload 4, 2) := by decide +kernel
theorem dX12_eldestSession_40 : decode cX12_eldestSession 40 = .ok (.ifCond .eq 27, 3) := by decide +kernel
theorem dX12_eldestSession_43 : decode cX12_eldestSession 43 = .ok (.iload_n 2, 1) := by decide +kernel
theorem dX12_eldestSession_44 : decode cX12_eldestSession 44 = .ok (.ifCond .lt 19, 3) := by decide +kernel
theorem dX12_eldestSession_47 : decode cX12_eldestSession 47 = .ok (.aload_n 0, 1) := by decide +kernel
theorem dX12_eldestSession_48 : decode cX12_eldestSession 48 = .ok (.getfield 118, 3) := by decide +kernel
theorem dX12_eldestSession_51 : decode cX12_eldestSession 51 = .ok (.iload_n 3, 1) := by decide +kernel
theorem dX12_eldestSession_52 : decode cX12_eldestSession 52 = .ok (.laload, 1) := by decide +kernel
theorem dX12_eldestSession_53 : decode cX12_eldestSession 53 = .ok (.aload_n 0, 1) := by decide +kernel
theorem dX12_eldestSession_54 : decode cX12_eldestSession 54 = .ok (.getfield 118, 3) := by decide +kernel
theorem dX12_eldestSession_57 : decode cX12_eldestSession 57 = .ok (.iload_n 2, 1) := by decide +kernel
theorem dX12_eldestSession_58 : decode cX12_eldestSession 58 = .ok (.laload, 1) := by decide +kernel
theorem dX12_eldestSession_59 : decode cX12_eldestSession 59 = .ok (.lcmp, 1) := by decide +kernel
theorem dX12_eldestSession_60 : decode cX12_eldestSession 60 = .ok (.ifCond .ge 7, 3) := by decide +kernel
theorem dX12_eldestSession_63 : decode cX12_eldestSession 63 = .ok (.iload_n 3, 1) := by decide +kernel
theorem dX12_eldestSession_64 : decode cX12_eldestSession 64 = .ok (.goto 4, 3) := by decide +kernel
theorem dX12_eldestSession_67 : decode cX12_eldestSession 67 = .ok (.iload_n 2, 1) := by decide +kernel
theorem dX12_eldestSession_68 : decode cX12_eldestSession 68 = .ok (.istore_n 2, 1) := by decide +kernel
theorem dX12_eldestSession_69 : decode cX12_eldestSession 69 = .ok (.iinc 3 1, 3) := by decide +kernel
theorem dX12_eldestSession_72 : decode cX12_eldestSession 72 = .ok (.goto (-68), 3) := by decide +kernel
theorem dX12_eldestSession_75 : decode cX12_eldestSession 75 = .ok (.iload_n 2, 1) := by decide +kernel
theorem dX12_eldestSession_76 : decode cX12_eldestSession 76 = .ok (.ireturn, 1) := by decide +kernel
set_option maxRecDepth 100000 in
set_option maxHeartbeats 4000000 in
theorem c_X12_eldestSession (l : Launch) (D : va_G) (t : Nat → ClassId) (h0 : Nat) (L : Nat → Nat) (σ : HS) (hO : OK ph τ0 σ) (hM : MdI h0 L σ) (k : Int32) (sz : Nat) : HMi ph τ0 l D t yX12_eldestSession cX12_eldestSession 5 (some .int) ({ frames := 0, cells := 0, slots := 0, locals := 0 }) σ sz [.ref h0, .int k] 0 0 (fun r σ' => MdI h0 L σ' ∧ σ' = σ ∧ (-1 ≤ r.toInt ∧ r.toInt ≤ 7)) := by
  refine h_go hO (by decide) (Nat.le_of_ble_eq_true rfl) ?_
  intro p e s m below meth c ls A hF hr hlk hAe hH0 hA hl
  unfold hB
  rw [hAe]
  clear hAe
  have hF : FX p m c cX12_eldestSession 5 s _ RX12 D t := hF
  have hx := hF.1.1
  have hb := hF.1.2.1
  have hH : MT D t A s.heap h0 L σ s.heap [] := ⟨hH0, hM⟩
  have hle : HLe σ σ := HLe.rf
  have k_m1 : ((-1) : Int32).toInt = (-1) := rfl
  have k_0 : (0 : Int32).toInt = 0 := rfl
  have k_1 : (1 : Int32).toInt = 1 := rfl
  have k_8 : (8 : Int32).toInt = 8 := rfl
  have rg_1 := i_range k
  have hl : lv_has ls 5 [(0, .ref h0), (1, .int k)] := hl
  refine lv_iconst (v := (-1)) hx hb dX12_eldestSession_0 (by decide) ?_
  refine lv_istore_n (lv' := [(2, .int (-1)), (0, .ref h0), (1, .int k)]) hx hb dX12_eldestSession_1 rfl hl (by decide) rfl (fun ls hl => ?_)
  refine lv_iconst (v := 0) hx hb dX12_eldestSession_2 (by decide) ?_
  refine lv_istore_n (lv' := [(3, .int 0), (2, .int (-1)), (0, .ref h0), (1, .int k)]) hx hb dX12_eldestSession_3 rfl hl (by decide) rfl (fun ls hl => ?_)
  have hl : lv_has ls 5 [(3, .int 0), (2, .int (-1)), (1, .int k), (0, .ref h0)] := lv_sub hl [0, 1, 3, 2] rfl
  refine m_loop (β := Int32 × Int32) (L0 := fun x => [(3, .int x.1), (2, .int x.2), (1, .int k), (0, .ref h0)]) (I := fun x σ2 => σ = σ2 ∧ (0 ≤ x.1.toInt ∧ x.1.toInt ≤ 8 ∧ -1 ≤ x.2.toInt ∧ x.2.toInt ≤ 7)) (fun x σ2 => (8 - x.1.toInt).toNat) (0, (-1)) hl ⟨rfl, by (try dsimp only); omega⟩ hH (fun x σL ls H locs hl hI hH ih => ?_)
  obtain ⟨x179, x180⟩ := x
  obtain ⟨hsL, hI⟩ := hI
  subst hsL
  have hl : lv_has ls 5 [(3, .int x179), (2, .int x180), (1, .int k), (0, .ref h0)] := hl
  have hI : 0 ≤ x179.toInt ∧ x179.toInt ≤ 8 ∧ -1 ≤ x180.toInt ∧ x180.toInt ≤ 7 := hI
  have rg_x179 := i_range x179
  have rg_x180 := i_range x180
  refine lv_iload_n hx hb dX12_eldestSession_4 rfl (lv_at hl 0 rfl) ?_
  refine lv_bipush (v := 8) hx hb dX12_eldestSession_5 (by decide) ?_
  refine lv_icmp_ge (tgt := 75) hx hb dX12_eldestSession_7 rfl (fun h181 => ?_) (fun h181 => ?_)
  · have ch181 := i_le h181
    refine lv_iload_n hx hb dX12_eldestSession_75 rfl (lv_at hl 1 rfl) ?_
    exact h_reti hF hr hlk rfl dX12_eldestSession_76 hH.1 hle ⟨hH.2, rfl, by (try dsimp only); omega⟩
  · have ch181 := i_nle h181
    refine lv_aload_n hx hb dX12_eldestSession_10 rfl (lv_at hl 3 rfl) ?_
    refine m_getA 34 hF hH fk_X12_118 dX12_eldestSession_11 (by decide) rfl ?_
    refine lv_iload_n hx hb dX12_eldestSession_14 rfl (lv_at hl 0 rfl) ?_
    refine m_lald 34 8 hF hH dX12_eldestSession_15 (by decide) rfl rfl (by omega) (by omega) (fun z182 ez182 => ?_)
    refine lv_lconst (v := 0) hx hb dX12_eldestSession_16 (by decide) ?_
    refine W.lcmp hx hb dX12_eldestSession_17 ?_
    refine lv_topi (fun z183 ez183 => ?_)
    refine lv_if_le (tgt := 35) hx hb dX12_eldestSession_18 rfl (fun h184 => ?_) (fun h184 => ?_)
    · have ch184 := i_le h184
      refine lv_iconst (v := 0) hx hb dX12_eldestSession_35 (by decide) ?_
      refine lv_istore (lv' := [(4, .int 0), (3, .int x179), (2, .int x180), (1, .int k), (0, .ref h0)]) hx hb dX12_eldestSession_36 hl (by decide) rfl (fun ls hl => ?_)
      refine lv_iload hx hb dX12_eldestSession_38 (lv_at hl 0 rfl) ?_
      refine lv_if_eq (tgt := 67) hx hb dX12_eldestSession_40 rfl (fun h185 => ?_) (fun h185 => ?_)
      · have ch185 := i_eq h185
        refine lv_iload_n hx hb dX12_eldestSession_67 rfl (lv_at hl 2 rfl) ?_
        refine lv_istore_n (lv' := [(2, .int x180), (4, .int 0), (3, .int x179), (1, .int k), (0, .ref h0)]) hx hb dX12_eldestSession_68 rfl hl (by decide) rfl (fun ls hl => ?_)
        obtain ⟨z186, ez186⟩ : ∃ z : Int32, z = x179 + Int32.ofInt 1 := ⟨_, rfl⟩
        have hz186 := i_add ez186 (by rw [show (Int32.ofInt 1).toInt = 1 from rfl]; omega) (by rw [show (Int32.ofInt 1).toInt = 1 from rfl]; omega)
        rw [show (Int32.ofInt 1).toInt = 1 from rfl] at hz186
        refine lv_iinc (lv' := [(3, .int z186), (2, .int x180), (4, .int 0), (1, .int k), (0, .ref h0)]) (k := 2) (v := z186) hx hb dX12_eldestSession_69 hl rfl ez186.symm (by decide) rfl (fun ls hl => ?_)
        refine lv_goto (tgt := 4) hx hb dX12_eldestSession_72 rfl ?_
        have hl : lv_has ls 5 [(3, .int z186), (2, .int x180), (1, .int k), (0, .ref h0)] := lv_sub hl [0, 1, 3, 4] rfl
        exact ih (z186, x180) σ ls H locs (by (try dsimp only); omega) hl ⟨rfl, by (try dsimp only); omega⟩ hH
      · have ch185 := i_ne h185
        refine lv_iload_n hx hb dX12_eldestSession_43 rfl (lv_at hl 2 rfl) ?_
        refine lv_if_lt (tgt := 63) hx hb dX12_eldestSession_44 rfl (fun h187 => ?_) (fun h187 => ?_)
        · have ch187 := i_lt h187
          refine lv_iload_n hx hb dX12_eldestSession_63 rfl (lv_at hl 1 rfl) ?_
          refine lv_goto (tgt := 68) hx hb dX12_eldestSession_64 rfl ?_
          refine lv_istore_n (lv' := [(2, .int x179), (4, .int 0), (3, .int x179), (1, .int k), (0, .ref h0)]) hx hb dX12_eldestSession_68 rfl hl (by decide) rfl (fun ls hl => ?_)
          obtain ⟨z188, ez188⟩ : ∃ z : Int32, z = x179 + Int32.ofInt 1 := ⟨_, rfl⟩
          have hz188 := i_add ez188 (by rw [show (Int32.ofInt 1).toInt = 1 from rfl]; omega) (by rw [show (Int32.ofInt 1).toInt = 1 from rfl]; omega)
          rw [show (Int32.ofInt 1).toInt = 1 from rfl] at hz188
          refine lv_iinc (lv' := [(3, .int z188), (2, .int x179), (4, .int 0), (1, .int k), (0, .ref h0)]) (k := 2) (v := z188) hx hb dX12_eldestSession_69 hl rfl ez188.symm (by decide) rfl (fun ls hl => ?_)
          refine lv_goto (tgt := 4) hx hb dX12_eldestSession_72 rfl ?_
          have hl : lv_has ls 5 [(3, .int z188), (2, .int x179), (1, .int k), (0, .ref h0)] := lv_sub hl [0, 1, 3, 4] rfl
          exact ih (z188, x179) σ ls H locs (by (try dsimp only); omega) hl ⟨rfl, by (try dsimp only); omega⟩ hH
        · have ch187 := i_nlt h187
          refine lv_aload_n hx hb dX12_eldestSession_47 rfl (lv_at hl 4 rfl) ?_
          refine m_getA 34 hF hH fk_X12_118 dX12_eldestSession_48 (by decide) rfl ?_
          refine lv_iload_n hx hb dX12_eldestSession_51 rfl (lv_at hl 1 rfl) ?_
          refine m_lald 34 8 hF hH dX12_eldestSession_52 (by decide) rfl rfl (by omega) (by omega) (fun z189 ez189 => ?_)
          refine lv_aload_n hx hb dX12_eldestSession_53 rfl (lv_at hl 4 rfl) ?_
          refine m_getA 34 hF hH fk_X12_118 dX12_eldestSession_54 (by decide) rfl ?_
          refine lv_iload_n hx hb dX12_eldestSession_57 rfl (lv_at hl 2 rfl) ?_
          refine m_lald 34 8 hF hH dX12_eldestSession_58 (by decide) rfl rfl (by omega) (by omega) (fun z190 ez190 => ?_)
          refine W.lcmp hx hb dX12_eldestSession_59 ?_
          refine lv_topi (fun z191 ez191 => ?_)
          refine lv_if_ge (tgt := 67) hx hb dX12_eldestSession_60 rfl (fun h192 => ?_) (fun h192 => ?_)
          · have ch192 := i_le h192
            refine lv_iload_n hx hb dX12_eldestSession_67 rfl (lv_at hl 2 rfl) ?_
            refine lv_istore_n (lv' := [(2, .int x180), (4, .int 0), (3, .int x179), (1, .int k), (0, .ref h0)]) hx hb dX12_eldestSession_68 rfl hl (by decide) rfl (fun ls hl => ?_)
            obtain ⟨z193, ez193⟩ : ∃ z : Int32, z = x179 + Int32.ofInt 1 := ⟨_, rfl⟩
            have hz193 := i_add ez193 (by rw [show (Int32.ofInt 1).toInt = 1 from rfl]; omega) (by rw [show (Int32.ofInt 1).toInt = 1 from rfl]; omega)
            rw [show (Int32.ofInt 1).toInt = 1 from rfl] at hz193
            refine lv_iinc (lv' := [(3, .int z193), (2, .int x180), (4, .int 0), (1, .int k), (0, .ref h0)]) (k := 2) (v := z193) hx hb dX12_eldestSession_69 hl rfl ez193.symm (by decide) rfl (fun ls hl => ?_)
            refine lv_goto (tgt := 4) hx hb dX12_eldestSession_72 rfl ?_
            have hl : lv_has ls 5 [(3, .int z193), (2, .int x180), (1, .int k), (0, .ref h0)] := lv_sub hl [0, 1, 3, 4] rfl
            exact ih (z193, x180) σ ls H locs (by (try dsimp only); omega) hl ⟨rfl, by (try dsimp only); omega⟩ hH
          · have ch192 := i_nle h192
            refine lv_iload_n hx hb dX12_eldestSession_63 rfl (lv_at hl 1 rfl) ?_
            refine lv_goto (tgt := 68) hx hb dX12_eldestSession_64 rfl ?_
            refine lv_istore_n (lv' := [(2, .int x179), (4, .int 0), (3, .int x179), (1, .int k), (0, .ref h0)]) hx hb dX12_eldestSession_68 rfl hl (by decide) rfl (fun ls hl => ?_)
            obtain ⟨z194, ez194⟩ : ∃ z : Int32, z = x179 + Int32.ofInt 1 := ⟨_, rfl⟩
            have hz194 := i_add ez194 (by rw [show (Int32.ofInt 1).toInt = 1 from rfl]; omega) (by rw [show (Int32.ofInt 1).toInt = 1 from rfl]; omega)
            rw [show (Int32.ofInt 1).toInt = 1 from rfl] at hz194
            refine lv_iinc (lv' := [(3, .int z194), (2, .int x179), (4, .int 0), (1, .int k), (0, .ref h0)]) (k := 2) (v := z194) hx hb dX12_eldestSession_69 hl rfl ez194.symm (by decide) rfl (fun ls hl => ?_)
            refine lv_goto (tgt := 4) hx hb dX12_eldestSession_72 rfl ?_
            have hl : lv_has ls 5 [(3, .int z194), (2, .int x179), (1, .int k), (0, .ref h0)] := lv_sub hl [0, 1, 3, 4] rfl
            exact ih (z194, x179) σ ls H locs (by (try dsimp only); omega) hl ⟨rfl, by (try dsimp only); omega⟩ hH
    · have ch184 := i_nle h184
      refine lv_aload_n hx hb dX12_eldestSession_21 rfl (lv_at hl 3 rfl) ?_
      refine m_getA 35 hF hH fk_X12_121 dX12_eldestSession_22 (by decide) rfl ?_
      refine lv_iload_n hx hb dX12_eldestSession_25 rfl (lv_at hl 0 rfl) ?_
      refine m_iald 35 8 hF hH dX12_eldestSession_26 (by decide) rfl rfl 0 5 rfl rfl (by omega) (by omega) (fun z195 ez195 vz195 => ?_)
      have wz195 := i_eq ez195
      refine lv_iload_n hx hb dX12_eldestSession_27 rfl (lv_at hl 2 rfl) ?_
      refine lv_icmp_ne (tgt := 35) hx hb dX12_eldestSession_28 rfl (fun h196 => ?_) (fun h196 => ?_)
      · have ch196 := i_ne h196
        refine lv_iconst (v := 0) hx hb dX12_eldestSession_35 (by decide) ?_
        refine lv_istore (lv' := [(4, .int 0), (3, .int x179), (2, .int x180), (1, .int k), (0, .ref h0)]) hx hb dX12_eldestSession_36 hl (by decide) rfl (fun ls hl => ?_)
        refine lv_iload hx hb dX12_eldestSession_38 (lv_at hl 0 rfl) ?_
        refine lv_if_eq (tgt := 67) hx hb dX12_eldestSession_40 rfl (fun h197 => ?_) (fun h197 => ?_)
        · have ch197 := i_eq h197
          refine lv_iload_n hx hb dX12_eldestSession_67 rfl (lv_at hl 2 rfl) ?_
          refine lv_istore_n (lv' := [(2, .int x180), (4, .int 0), (3, .int x179), (1, .int k), (0, .ref h0)]) hx hb dX12_eldestSession_68 rfl hl (by decide) rfl (fun ls hl => ?_)
          obtain ⟨z198, ez198⟩ : ∃ z : Int32, z = x179 + Int32.ofInt 1 := ⟨_, rfl⟩
          have hz198 := i_add ez198 (by rw [show (Int32.ofInt 1).toInt = 1 from rfl]; omega) (by rw [show (Int32.ofInt 1).toInt = 1 from rfl]; omega)
          rw [show (Int32.ofInt 1).toInt = 1 from rfl] at hz198
          refine lv_iinc (lv' := [(3, .int z198), (2, .int x180), (4, .int 0), (1, .int k), (0, .ref h0)]) (k := 2) (v := z198) hx hb dX12_eldestSession_69 hl rfl ez198.symm (by decide) rfl (fun ls hl => ?_)
          refine lv_goto (tgt := 4) hx hb dX12_eldestSession_72 rfl ?_
          have hl : lv_has ls 5 [(3, .int z198), (2, .int x180), (1, .int k), (0, .ref h0)] := lv_sub hl [0, 1, 3, 4] rfl
          exact ih (z198, x180) σ ls H locs (by (try dsimp only); omega) hl ⟨rfl, by (try dsimp only); omega⟩ hH
        · have ch197 := i_ne h197
          refine lv_iload_n hx hb dX12_eldestSession_43 rfl (lv_at hl 2 rfl) ?_
          refine lv_if_lt (tgt := 63) hx hb dX12_eldestSession_44 rfl (fun h199 => ?_) (fun h199 => ?_)
          · have ch199 := i_lt h199
            refine lv_iload_n hx hb dX12_eldestSession_63 rfl (lv_at hl 1 rfl) ?_
            refine lv_goto (tgt := 68) hx hb dX12_eldestSession_64 rfl ?_
            refine lv_istore_n (lv' := [(2, .int x179), (4, .int 0), (3, .int x179), (1, .int k), (0, .ref h0)]) hx hb dX12_eldestSession_68 rfl hl (by decide) rfl (fun ls hl => ?_)
            obtain ⟨z200, ez200⟩ : ∃ z : Int32, z = x179 + Int32.ofInt 1 := ⟨_, rfl⟩
            have hz200 := i_add ez200 (by rw [show (Int32.ofInt 1).toInt = 1 from rfl]; omega) (by rw [show (Int32.ofInt 1).toInt = 1 from rfl]; omega)
            rw [show (Int32.ofInt 1).toInt = 1 from rfl] at hz200
            refine lv_iinc (lv' := [(3, .int z200), (2, .int x179), (4, .int 0), (1, .int k), (0, .ref h0)]) (k := 2) (v := z200) hx hb dX12_eldestSession_69 hl rfl ez200.symm (by decide) rfl (fun ls hl => ?_)
            refine lv_goto (tgt := 4) hx hb dX12_eldestSession_72 rfl ?_
            have hl : lv_has ls 5 [(3, .int z200), (2, .int x179), (1, .int k), (0, .ref h0)] := lv_sub hl [0, 1, 3, 4] rfl
            exact ih (z200, x179) σ ls H locs (by (try dsimp only); omega) hl ⟨rfl, by (try dsimp only); omega⟩ hH
          · have ch199 := i_nlt h199
            refine lv_aload_n hx hb dX12_eldestSession_47 rfl (lv_at hl 4 rfl) ?_
            refine m_getA 34 hF hH fk_X12_118 dX12_eldestSession_48 (by decide) rfl ?_
            refine lv_iload_n hx hb dX12_eldestSession_51 rfl (lv_at hl 1 rfl) ?_
            refine m_lald 34 8 hF hH dX12_eldestSession_52 (by decide) rfl rfl (by omega) (by omega) (fun z201 ez201 => ?_)
            refine lv_aload_n hx hb dX12_eldestSession_53 rfl (lv_at hl 4 rfl) ?_
            refine m_getA 34 hF hH fk_X12_118 dX12_eldestSession_54 (by decide) rfl ?_
            refine lv_iload_n hx hb dX12_eldestSession_57 rfl (lv_at hl 2 rfl) ?_
            refine m_lald 34 8 hF hH dX12_eldestSession_58 (by decide) rfl rfl (by omega) (by omega) (fun z202 ez202 => ?_)
            refine W.lcmp hx hb dX12_eldestSession_59 ?_
            refine lv_topi (fun z203 ez203 => ?_)
            refine lv_if_ge (tgt := 67) hx hb dX12_eldestSession_60 rfl (fun h204 => ?_) (fun h204 => ?_)
            · have ch204 := i_le h204
              refine lv_iload_n hx hb dX12_eldestSession_67 rfl (lv_at hl 2 rfl) ?_
              refine lv_istore_n (lv' := [(2, .int x180), (4, .int 0), (3, .int x179), (1, .int k), (0, .ref h0)]) hx hb dX12_eldestSession_68 rfl hl (by decide) rfl (fun ls hl => ?_)
              obtain ⟨z205, ez205⟩ : ∃ z : Int32, z = x179 + Int32.ofInt 1 := ⟨_, rfl⟩
              have hz205 := i_add ez205 (by rw [show (Int32.ofInt 1).toInt = 1 from rfl]; omega) (by rw [show (Int32.ofInt 1).toInt = 1 from rfl]; omega)
              rw [show (Int32.ofInt 1).toInt = 1 from rfl] at hz205
              refine lv_iinc (lv' := [(3, .int z205), (2, .int x180), (4, .int 0), (1, .int k), (0, .ref h0)]) (k := 2) (v := z205) hx hb dX12_eldestSession_69 hl rfl ez205.symm (by decide) rfl (fun ls hl => ?_)
              refine lv_goto (tgt := 4) hx hb dX12_eldestSession_72 rfl ?_
              have hl : lv_has ls 5 [(3, .int z205), (2, .int x180), (1, .int k), (0, .ref h0)] := lv_sub hl [0, 1, 3, 4] rfl
              exact ih (z205, x180) σ ls H locs (by (try dsimp only); omega) hl ⟨rfl, by (try dsimp only); omega⟩ hH
            · have ch204 := i_nle h204
              refine lv_iload_n hx hb dX12_eldestSession_63 rfl (lv_at hl 1 rfl) ?_
              refine lv_goto (tgt := 68) hx hb dX12_eldestSession_64 rfl ?_
              refine lv_istore_n (lv' := [(2, .int x179), (4, .int 0), (3, .int x179), (1, .int k), (0, .ref h0)]) hx hb dX12_eldestSession_68 rfl hl (by decide) rfl (fun ls hl => ?_)
              obtain ⟨z206, ez206⟩ : ∃ z : Int32, z = x179 + Int32.ofInt 1 := ⟨_, rfl⟩
              have hz206 := i_add ez206 (by rw [show (Int32.ofInt 1).toInt = 1 from rfl]; omega) (by rw [show (Int32.ofInt 1).toInt = 1 from rfl]; omega)
              rw [show (Int32.ofInt 1).toInt = 1 from rfl] at hz206
              refine lv_iinc (lv' := [(3, .int z206), (2, .int x179), (4, .int 0), (1, .int k), (0, .ref h0)]) (k := 2) (v := z206) hx hb dX12_eldestSession_69 hl rfl ez206.symm (by decide) rfl (fun ls hl => ?_)
              refine lv_goto (tgt := 4) hx hb dX12_eldestSession_72 rfl ?_
              have hl : lv_has ls 5 [(3, .int z206), (2, .int x179), (1, .int k), (0, .ref h0)] := lv_sub hl [0, 1, 3, 4] rfl
              exact ih (z206, x179) σ ls H locs (by (try dsimp only); omega) hl ⟨rfl, by (try dsimp only); omega⟩ hH
      · have ch196 := i_eq h196
        refine lv_iconst (v := 1) hx hb dX12_eldestSession_31 (by decide) ?_
        refine lv_goto (tgt := 36) hx hb dX12_eldestSession_32 rfl ?_
        refine lv_istore (lv' := [(4, .int 1), (3, .int x179), (2, .int x180), (1, .int k), (0, .ref h0)]) hx hb dX12_eldestSession_36 hl (by decide) rfl (fun ls hl => ?_)
        refine lv_iload hx hb dX12_eldestSession_38 (lv_at hl 0 rfl) ?_
        refine lv_if_eq (tgt := 67) hx hb dX12_eldestSession_40 rfl (fun h207 => ?_) (fun h207 => ?_)
        · have ch207 := i_eq h207
          refine lv_iload_n hx hb dX12_eldestSession_67 rfl (lv_at hl 2 rfl) ?_
          refine lv_istore_n (lv' := [(2, .int x180), (4, .int 1), (3, .int x179), (1, .int k), (0, .ref h0)]) hx hb dX12_eldestSession_68 rfl hl (by decide) rfl (fun ls hl => ?_)
          obtain ⟨z208, ez208⟩ : ∃ z : Int32, z = x179 + Int32.ofInt 1 := ⟨_, rfl⟩
          have hz208 := i_add ez208 (by rw [show (Int32.ofInt 1).toInt = 1 from rfl]; omega) (by rw [show (Int32.ofInt 1).toInt = 1 from rfl]; omega)
          rw [show (Int32.ofInt 1).toInt = 1 from rfl] at hz208
          refine lv_iinc (lv' := [(3, .int z208), (2, .int x180), (4, .int 1), (1, .int k), (0, .ref h0)]) (k := 2) (v := z208) hx hb dX12_eldestSession_69 hl rfl ez208.symm (by decide) rfl (fun ls hl => ?_)
          refine lv_goto (tgt := 4) hx hb dX12_eldestSession_72 rfl ?_
          have hl : lv_has ls 5 [(3, .int z208), (2, .int x180), (1, .int k), (0, .ref h0)] := lv_sub hl [0, 1, 3, 4] rfl
          exact ih (z208, x180) σ ls H locs (by (try dsimp only); omega) hl ⟨rfl, by (try dsimp only); omega⟩ hH
        · have ch207 := i_ne h207
          refine lv_iload_n hx hb dX12_eldestSession_43 rfl (lv_at hl 2 rfl) ?_
          refine lv_if_lt (tgt := 63) hx hb dX12_eldestSession_44 rfl (fun h209 => ?_) (fun h209 => ?_)
          · have ch209 := i_lt h209
            refine lv_iload_n hx hb dX12_eldestSession_63 rfl (lv_at hl 1 rfl) ?_
            refine lv_goto (tgt := 68) hx hb dX12_eldestSession_64 rfl ?_
            refine lv_istore_n (lv' := [(2, .int x179), (4, .int 1), (3, .int x179), (1, .int k), (0, .ref h0)]) hx hb dX12_eldestSession_68 rfl hl (by decide) rfl (fun ls hl => ?_)
            obtain ⟨z210, ez210⟩ : ∃ z : Int32, z = x179 + Int32.ofInt 1 := ⟨_, rfl⟩
            have hz210 := i_add ez210 (by rw [show (Int32.ofInt 1).toInt = 1 from rfl]; omega) (by rw [show (Int32.ofInt 1).toInt = 1 from rfl]; omega)
            rw [show (Int32.ofInt 1).toInt = 1 from rfl] at hz210
            refine lv_iinc (lv' := [(3, .int z210), (2, .int x179), (4, .int 1), (1, .int k), (0, .ref h0)]) (k := 2) (v := z210) hx hb dX12_eldestSession_69 hl rfl ez210.symm (by decide) rfl (fun ls hl => ?_)
            refine lv_goto (tgt := 4) hx hb dX12_eldestSession_72 rfl ?_
            have hl : lv_has ls 5 [(3, .int z210), (2, .int x179), (1, .int k), (0, .ref h0)] := lv_sub hl [0, 1, 3, 4] rfl
            exact ih (z210, x179) σ ls H locs (by (try dsimp only); omega) hl ⟨rfl, by (try dsimp only); omega⟩ hH
          · have ch209 := i_nlt h209
            refine lv_aload_n hx hb dX12_eldestSession_47 rfl (lv_at hl 4 rfl) ?_
            refine m_getA 34 hF hH fk_X12_118 dX12_eldestSession_48 (by decide) rfl ?_
            refine lv_iload_n hx hb dX12_eldestSession_51 rfl (lv_at hl 1 rfl) ?_
            refine m_lald 34 8 hF hH dX12_eldestSession_52 (by decide) rfl rfl (by omega) (by omega) (fun z211 ez211 => ?_)
            refine lv_aload_n hx hb dX12_eldestSession_53 rfl (lv_at hl 4 rfl) ?_
            refine m_getA 34 hF hH fk_X12_118 dX12_eldestSession_54 (by decide) rfl ?_
            refine lv_iload_n hx hb dX12_eldestSession_57 rfl (lv_at hl 2 rfl) ?_
            refine m_lald 34 8 hF hH dX12_eldestSession_58 (by decide) rfl rfl (by omega) (by omega) (fun z212 ez212 => ?_)
            refine W.lcmp hx hb dX12_eldestSession_59 ?_
            refine lv_topi (fun z213 ez213 => ?_)
            refine lv_if_ge (tgt := 67) hx hb dX12_eldestSession_60 rfl (fun h214 => ?_) (fun h214 => ?_)
            · have ch214 := i_le h214
              refine lv_iload_n hx hb dX12_eldestSession_67 rfl (lv_at hl 2 rfl) ?_
              refine lv_istore_n (lv' := [(2, .int x180), (4, .int 1), (3, .int x179), (1, .int k), (0, .ref h0)]) hx hb dX12_eldestSession_68 rfl hl (by decide) rfl (fun ls hl => ?_)
              obtain ⟨z215, ez215⟩ : ∃ z : Int32, z = x179 + Int32.ofInt 1 := ⟨_, rfl⟩
              have hz215 := i_add ez215 (by rw [show (Int32.ofInt 1).toInt = 1 from rfl]; omega) (by rw [show (Int32.ofInt 1).toInt = 1 from rfl]; omega)
              rw [show (Int32.ofInt 1).toInt = 1 from rfl] at hz215
              refine lv_iinc (lv' := [(3, .int z215), (2, .int x180), (4, .int 1), (1, .int k), (0, .ref h0)]) (k := 2) (v := z215) hx hb dX12_eldestSession_69 hl rfl ez215.symm (by decide) rfl (fun ls hl => ?_)
              refine lv_goto (tgt := 4) hx hb dX12_eldestSession_72 rfl ?_
              have hl : lv_has ls 5 [(3, .int z215), (2, .int x180), (1, .int k), (0, .ref h0)] := lv_sub hl [0, 1, 3, 4] rfl
              exact ih (z215, x180) σ ls H locs (by (try dsimp only); omega) hl ⟨rfl, by (try dsimp only); omega⟩ hH
            · have ch214 := i_nle h214
              refine lv_iload_n hx hb dX12_eldestSession_63 rfl (lv_at hl 1 rfl) ?_
              refine lv_goto (tgt := 68) hx hb dX12_eldestSession_64 rfl ?_
              refine lv_istore_n (lv' := [(2, .int x179), (4, .int 1), (3, .int x179), (1, .int k), (0, .ref h0)]) hx hb dX12_eldestSession_68 rfl hl (by decide) rfl (fun ls hl => ?_)
              obtain ⟨z216, ez216⟩ : ∃ z : Int32, z = x179 + Int32.ofInt 1 := ⟨_, rfl⟩
              have hz216 := i_add ez216 (by rw [show (Int32.ofInt 1).toInt = 1 from rfl]; omega) (by rw [show (Int32.ofInt 1).toInt = 1 from rfl]; omega)
              rw [show (Int32.ofInt 1).toInt = 1 from rfl] at hz216
              refine lv_iinc (lv' := [(3, .int z216), (2, .int x179), (4, .int 1), (1, .int k), (0, .ref h0)]) (k := 2) (v := z216) hx hb dX12_eldestSession_69 hl rfl ez216.symm (by decide) rfl (fun ls hl => ?_)
              refine lv_goto (tgt := 4) hx hb dX12_eldestSession_72 rfl ?_
              have hl : lv_has ls 5 [(3, .int z216), (2, .int x179), (1, .int k), (0, .ref h0)] := lv_sub hl [0, 1, 3, 4] rfl
              exact ih (z216, x179) σ ls H locs (by (try dsimp only); omega) hl ⟨rfl, by (try dsimp only); omega⟩ hH
theorem dX12_eldestTree_0 : decode cX12_eldestTree 0 = .ok (.iconst (-1), 1) := by decide +kernel
theorem dX12_eldestTree_1 : decode cX12_eldestTree 1 = .ok (.istore_n 2, 1) := by decide +kernel
theorem dX12_eldestTree_2 : decode cX12_eldestTree 2 = .ok (.iconst 0, 1) := by decide +kernel
theorem dX12_eldestTree_3 : decode cX12_eldestTree 3 = .ok (.istore_n 3, 1) := by decide +kernel
theorem dX12_eldestTree_4 : decode cX12_eldestTree 4 = .ok (.iload_n 3, 1) := by decide +kernel
theorem dX12_eldestTree_5 : decode cX12_eldestTree 5 = .ok (.bipush 16, 2) := by decide +kernel
theorem dX12_eldestTree_7 : decode cX12_eldestTree 7 = .ok (.if_icmp .ge 68, 3) := by decide +kernel
theorem dX12_eldestTree_10 : decode cX12_eldestTree 10 = .ok (.aload_n 0, 1) := by decide +kernel
theorem dX12_eldestTree_11 : decode cX12_eldestTree 11 = .ok (.getfield 130, 3) := by decide +kernel
theorem dX12_eldestTree_14 : decode cX12_eldestTree 14 = .ok (.iload_n 3, 1) := by decide +kernel
theorem dX12_eldestTree_15 : decode cX12_eldestTree 15 = .ok (.laload, 1) := by decide +kernel
theorem dX12_eldestTree_16 : decode cX12_eldestTree 16 = .ok (.lconst 0, 1) := by decide +kernel
theorem dX12_eldestTree_17 : decode cX12_eldestTree 17 = .ok (.lcmp, 1) := by decide +kernel
theorem dX12_eldestTree_18 : decode cX12_eldestTree 18 = .ok (.ifCond .le 17, 3) := by decide +kernel
theorem dX12_eldestTree_21 : decode cX12_eldestTree 21 = .ok (.aload_n 0, 1) := by decide +kernel
theorem dX12_eldestTree_22 : decode cX12_eldestTree 22 = .ok (.getfield 133, 3) := by decide +kernel
theorem dX12_eldestTree_25 : decode cX12_eldestTree 25 = .ok (.iload_n 3, 1) := by decide +kernel
theorem dX12_eldestTree_26 : decode cX12_eldestTree 26 = .ok (.iaload, 1) := by decide +kernel
theorem dX12_eldestTree_27 : decode cX12_eldestTree 27 = .ok (.iload_n 1, 1) := by decide +kernel
theorem dX12_eldestTree_28 : decode cX12_eldestTree 28 = .ok (.if_icmp .ne 7, 3) := by decide +kernel
theorem dX12_eldestTree_31 : decode cX12_eldestTree 31 = .ok (.iconst 1, 1) := by decide +kernel
theorem dX12_eldestTree_32 : decode cX12_eldestTree 32 = .ok (.goto 4, 3) := by decide +kernel
theorem dX12_eldestTree_35 : decode cX12_eldestTree 35 = .ok (.iconst 0, 1) := by decide +kernel
theorem dX12_eldestTree_36 : decode cX12_eldestTree 36 = .ok (.istore 4, 2) := by decide +kernel
theorem dX12_eldestTree_38 : decode cX12_eldestTree 38 = .ok (.iload 4, 2) := by decide +kernel
theorem dX12_eldestTree_40 : decode cX12_eldestTree 40 = .ok (.ifCond .eq 27, 3) := by decide +kernel
theorem dX12_eldestTree_43 : decode cX12_eldestTree 43 = .ok (.iload_n 2, 1) := by decide +kernel
theorem dX12_eldestTree_44 : decode cX12_eldestTree 44 = .ok (.ifCond .lt 19, 3) := by decide +kernel
theorem dX12_eldestTree_47 : decode cX12_eldestTree 47 = .ok (.aload_n 0, 1) := by decide +kernel
theorem dX12_eldestTree_48 : decode cX12_eldestTree 48 = .ok (.getfield 130, 3) := by decide +kernel
theorem dX12_eldestTree_51 : decode cX12_eldestTree 51 = .ok (.iload_n 3, 1) := by decide +kernel
theorem dX12_eldestTree_52 : decode cX12_eldestTree 52 = .ok (.laload, 1) := by decide +kernel
theorem dX12_eldestTree_53 : decode cX12_eldestTree 53 = .ok (.aload_n 0, 1) := by decide +kernel
theorem dX12_eldestTree_54 : decode cX12_eldestTree 54 = .ok (.getfield 130, 3) := by decide +kernel
theorem dX12_eldestTree_57 : decode cX12_eldestTree 57 = .ok (.iload_n 2, 1) := by decide +kernel
theorem dX12_eldestTree_58 : decode cX12_eldestTree 58 = .ok (.laload, 1) := by decide +kernel
theorem dX12_eldestTree_59 : decode cX12_eldestTree 59 = .ok (.lcmp, 1) := by decide +kernel
theorem dX12_eldestTree_60 : decode cX12_eldestTree 60 = .ok (.ifCond .ge 7, 3) := by decide +kernel
theorem dX12_eldestTree_63 : decode cX12_eldestTree 63 = .ok (.iload_n 3, 1) := by decide +kernel
theorem dX12_eldestTree_64 : decode cX12_eldestTree 64 = .ok (.goto 4, 3) := by decide +kernel
theorem dX12_eldestTree_67 : decode cX12_eldestTree 67 = .ok (.iload_n 2, 1) := by decide +kernel
theorem dX12_eldestTree_68 : decode cX12_eldestTree 68 = .ok (.istore_n 2, 1) := by decide +kernel
theorem dX12_eldestTree_69 : decode cX12_eldestTree 69 = .ok (.iinc 3 1, 3) := by decide +kernel
theorem dX12_eldestTree_72 : decode cX12_eldestTree 72 = .ok (.goto (-68), 3) := by decide +kernel
theorem dX12_eldestTree_75 : decode cX12_eldestTree 75 = .ok (.iload_n 2, 1) := by decide +kernel
theorem dX12_eldestTree_76 : decode cX12_eldestTree 76 = .ok (.ireturn, 1) := by decide +kernel
set_option maxRecDepth 100000 in
set_option maxHeartbeats 4000000 in
theorem c_X12_eldestTree (l : Launch) (D : va_G) (t : Nat → ClassId) (h0 : Nat) (L : Nat → Nat) (σ : HS) (hO : OK ph τ0 σ) (hM : MdI h0 L σ) (k : Int32) (sz : Nat) : HMi ph τ0 l D t yX12_eldestTree cX12_eldestTree 5 (some .int) ({ frames := 0, cells := 0, slots := 0, locals := 0 }) σ sz [.ref h0, .int k] 0 0 (fun r σ' => MdI h0 L σ' ∧ σ' = σ ∧ (-1 ≤ r.toInt ∧ r.toInt ≤ 15)) := by
  refine h_go hO (by decide) (Nat.le_of_ble_eq_true rfl) ?_
  intro p e s m below meth c ls A hF hr hlk hAe hH0 hA hl
  unfold hB
  rw [hAe]
  clear hAe
  have hF : FX p m c cX12_eldestTree 5 s _ RX12 D t := hF
  have hx := hF.1.1
  have hb := hF.1.2.1
  have hH : MT D t A s.heap h0 L σ s.heap [] := ⟨hH0, hM⟩
  have hle : HLe σ σ := HLe.rf
  have k_m1 : ((-1) : Int32).toInt = (-1) := rfl
  have k_0 : (0 : Int32).toInt = 0 := rfl
  have k_1 : (1 : Int32).toInt = 1 := rfl
  have k_16 : (16 : Int32).toInt = 16 := rfl
  have rg_1 := i_range k
  have hl : lv_has ls 5 [(0, .ref h0), (1, .int k)] := hl
  refine lv_iconst (v := (-1)) hx hb dX12_eldestTree_0 (by decide) ?_
  refine lv_istore_n (lv' := [(2, .int (-1)), (0, .ref h0), (1, .int k)]) hx hb dX12_eldestTree_1 rfl hl (by decide) rfl (fun ls hl => ?_)
  refine lv_iconst (v := 0) hx hb dX12_eldestTree_2 (by decide) ?_
  refine lv_istore_n (lv' := [(3, .int 0), (2, .int (-1)), (0, .ref h0), (1, .int k)]) hx hb dX12_eldestTree_3 rfl hl (by decide) rfl (fun ls hl => ?_)
  have hl : lv_has ls 5 [(3, .int 0), (2, .int (-1)), (1, .int k), (0, .ref h0)] := lv_sub hl [0, 1, 3, 2] rfl
  refine m_loop (β := Int32 × Int32) (L0 := fun x => [(3, .int x.1), (2, .int x.2), (1, .int k), (0, .ref h0)]) (I := fun x σ2 => σ = σ2 ∧ (0 ≤ x.1.toInt ∧ x.1.toInt ≤ 16 ∧ -1 ≤ x.2.toInt ∧ x.2.toInt ≤ 15)) (fun x σ2 => (16 - x.1.toInt).toNat) (0, (-1)) hl ⟨rfl, by (try dsimp only); omega⟩ hH (fun x σL ls H locs hl hI hH ih => ?_)
  obtain ⟨x217, x218⟩ := x
  obtain ⟨hsL, hI⟩ := hI
  subst hsL
  have hl : lv_has ls 5 [(3, .int x217), (2, .int x218), (1, .int k), (0, .ref h0)] := hl
  have hI : 0 ≤ x217.toInt ∧ x217.toInt ≤ 16 ∧ -1 ≤ x218.toInt ∧ x218.toInt ≤ 15 := hI
  have rg_x217 := i_range x217
  have rg_x218 := i_range x218
  refine lv_iload_n hx hb dX12_eldestTree_4 rfl (lv_at hl 0 rfl) ?_
  refine lv_bipush (v := 16) hx hb dX12_eldestTree_5 (by decide) ?_
  refine lv_icmp_ge (tgt := 75) hx hb dX12_eldestTree_7 rfl (fun h219 => ?_) (fun h219 => ?_)
  · have ch219 := i_le h219
    refine lv_iload_n hx hb dX12_eldestTree_75 rfl (lv_at hl 1 rfl) ?_
    exact h_reti hF hr hlk rfl dX12_eldestTree_76 hH.1 hle ⟨hH.2, rfl, by (try dsimp only); omega⟩
  · have ch219 := i_nle h219
    refine lv_aload_n hx hb dX12_eldestTree_10 rfl (lv_at hl 3 rfl) ?_
    refine m_getA 38 hF hH fk_X12_130 dX12_eldestTree_11 (by decide) rfl ?_
    refine lv_iload_n hx hb dX12_eldestTree_14 rfl (lv_at hl 0 rfl) ?_
    refine m_lald 38 16 hF hH dX12_eldestTree_15 (by decide) rfl rfl (by omega) (by omega) (fun z220 ez220 => ?_)
    refine lv_lconst (v := 0) hx hb dX12_eldestTree_16 (by decide) ?_
    refine W.lcmp hx hb dX12_eldestTree_17 ?_
    refine lv_topi (fun z221 ez221 => ?_)
    refine lv_if_le (tgt := 35) hx hb dX12_eldestTree_18 rfl (fun h222 => ?_) (fun h222 => ?_)
    · have ch222 := i_le h222
      refine lv_iconst (v := 0) hx hb dX12_eldestTree_35 (by decide) ?_
      refine lv_istore (lv' := [(4, .int 0), (3, .int x217), (2, .int x218), (1, .int k), (0, .ref h0)]) hx hb dX12_eldestTree_36 hl (by decide) rfl (fun ls hl => ?_)
      refine lv_iload hx hb dX12_eldestTree_38 (lv_at hl 0 rfl) ?_
      refine lv_if_eq (tgt := 67) hx hb dX12_eldestTree_40 rfl (fun h223 => ?_) (fun h223 => ?_)
      · have ch223 := i_eq h223
        refine lv_iload_n hx hb dX12_eldestTree_67 rfl (lv_at hl 2 rfl) ?_
        refine lv_istore_n (lv' := [(2, .int x218), (4, .int 0), (3, .int x217), (1, .int k), (0, .ref h0)]) hx hb dX12_eldestTree_68 rfl hl (by decide) rfl (fun ls hl => ?_)
        obtain ⟨z224, ez224⟩ : ∃ z : Int32, z = x217 + Int32.ofInt 1 := ⟨_, rfl⟩
        have hz224 := i_add ez224 (by rw [show (Int32.ofInt 1).toInt = 1 from rfl]; omega) (by rw [show (Int32.ofInt 1).toInt = 1 from rfl]; omega)
        rw [show (Int32.ofInt 1).toInt = 1 from rfl] at hz224
        refine lv_iinc (lv' := [(3, .int z224), (2, .int x218), (4, .int 0), (1, .int k), (0, .ref h0)]) (k := 2) (v := z224) hx hb dX12_eldestTree_69 hl rfl ez224.symm (by decide) rfl (fun ls hl => ?_)
        refine lv_goto (tgt := 4) hx hb dX12_eldestTree_72 rfl ?_
        have hl : lv_has ls 5 [(3, .int z224), (2, .int x218), (1, .int k), (0, .ref h0)] := lv_sub hl [0, 1, 3, 4] rfl
        exact ih (z224, x218) σ ls H locs (by (try dsimp only); omega) hl ⟨rfl, by (try dsimp only); omega⟩ hH
      · have ch223 := i_ne h223
        refine lv_iload_n hx hb dX12_eldestTree_43 rfl (lv_at hl 2 rfl) ?_
        refine lv_if_lt (tgt := 63) hx hb dX12_eldestTree_44 rfl (fun h225 => ?_) (fun h225 => ?_)
        · have ch225 := i_lt h225
          refine lv_iload_n hx hb dX12_eldestTree_63 rfl (lv_at hl 1 rfl) ?_
          refine lv_goto (tgt := 68) hx hb dX12_eldestTree_64 rfl ?_
          refine lv_istore_n (lv' := [(2, .int x217), (4, .int 0), (3, .int x217), (1, .int k), (0, .ref h0)]) hx hb dX12_eldestTree_68 rfl hl (by decide) rfl (fun ls hl => ?_)
          obtain ⟨z226, ez226⟩ : ∃ z : Int32, z = x217 + Int32.ofInt 1 := ⟨_, rfl⟩
          have hz226 := i_add ez226 (by rw [show (Int32.ofInt 1).toInt = 1 from rfl]; omega) (by rw [show (Int32.ofInt 1).toInt = 1 from rfl]; omega)
          rw [show (Int32.ofInt 1).toInt = 1 from rfl] at hz226
          refine lv_iinc (lv' := [(3, .int z226), (2, .int x217), (4, .int 0), (1, .int k), (0, .ref h0)]) (k := 2) (v := z226) hx hb dX12_eldestTree_69 hl rfl ez226.symm (by decide) rfl (fun ls hl => ?_)
          refine lv_goto (tgt := 4) hx hb dX12_eldestTree_72 rfl ?_
          have hl : lv_has ls 5 [(3, .int z226), (2, .int x217), (1, .int k), (0, .ref h0)] := lv_sub hl [0, 1, 3, 4] rfl
          exact ih (z226, x217) σ ls H locs (by (try dsimp only); omega) hl ⟨rfl, by (try dsimp only); omega⟩ hH
        · have ch225 := i_nlt h225
          refine lv_aload_n hx hb dX12_eldestTree_47 rfl (lv_at hl 4 rfl) ?_
          refine m_getA 38 hF hH fk_X12_130 dX12_eldestTree_48 (by decide) rfl ?_
          refine lv_iload_n hx hb dX12_eldestTree_51 rfl (lv_at hl 1 rfl) ?_
          refine m_lald 38 16 hF hH dX12_eldestTree_52 (by decide) rfl rfl (by omega) (by omega) (fun z227 ez227 => ?_)
          refine lv_aload_n hx hb dX12_eldestTree_53 rfl (lv_at hl 4 rfl) ?_
          refine m_getA 38 hF hH fk_X12_130 dX12_eldestTree_54 (by decide) rfl ?_
          refine lv_iload_n hx hb dX12_eldestTree_57 rfl (lv_at hl 2 rfl) ?_
          refine m_lald 38 16 hF hH dX12_eldestTree_58 (by decide) rfl rfl (by omega) (by omega) (fun z228 ez228 => ?_)
          refine W.lcmp hx hb dX12_eldestTree_59 ?_
          refine lv_topi (fun z229 ez229 => ?_)
          refine lv_if_ge (tgt := 67) hx hb dX12_eldestTree_60 rfl (fun h230 => ?_) (fun h230 => ?_)
          · have ch230 := i_le h230
            refine lv_iload_n hx hb dX12_eldestTree_67 rfl (lv_at hl 2 rfl) ?_
            refine lv_istore_n (lv' := [(2, .int x218), (4, .int 0), (3, .int x217), (1, .int k), (0, .ref h0)]) hx hb dX12_eldestTree_68 rfl hl (by decide) rfl (fun ls hl => ?_)
            obtain ⟨z231, ez231⟩ : ∃ z : Int32, z = x217 + Int32.ofInt 1 := ⟨_, rfl⟩
            have hz231 := i_add ez231 (by rw [show (Int32.ofInt 1).toInt = 1 from rfl]; omega) (by rw [show (Int32.ofInt 1).toInt = 1 from rfl]; omega)
            rw [show (Int32.ofInt 1).toInt = 1 from rfl] at hz231
            refine lv_iinc (lv' := [(3, .int z231), (2, .int x218), (4, .int 0), (1, .int k), (0, .ref h0)]) (k := 2) (v := z231) hx hb dX12_eldestTree_69 hl rfl ez231.symm (by decide) rfl (fun ls hl => ?_)
            refine lv_goto (tgt := 4) hx hb dX12_eldestTree_72 rfl ?_
            have hl : lv_has ls 5 [(3, .int z231), (2, .int x218), (1, .int k), (0, .ref h0)] := lv_sub hl [0, 1, 3, 4] rfl
            exact ih (z231, x218) σ ls H locs (by (try dsimp only); omega) hl ⟨rfl, by (try dsimp only); omega⟩ hH
          · have ch230 := i_nle h230
            refine lv_iload_n hx hb dX12_eldestTree_63 rfl (lv_at hl 1 rfl) ?_
            refine lv_goto (tgt := 68) hx hb dX12_eldestTree_64 rfl ?_
            refine lv_istore_n (lv' := [(2, .int x217), (4, .int 0), (3, .int x217), (1, .int k), (0, .ref h0)]) hx hb dX12_eldestTree_68 rfl hl (by decide) rfl (fun ls hl => ?_)
            obtain ⟨z232, ez232⟩ : ∃ z : Int32, z = x217 + Int32.ofInt 1 := ⟨_, rfl⟩
            have hz232 := i_add ez232 (by rw [show (Int32.ofInt 1).toInt = 1 from rfl]; omega) (by rw [show (Int32.ofInt 1).toInt = 1 from rfl]; omega)
            rw [show (Int32.ofInt 1).toInt = 1 from rfl] at hz232
            refine lv_iinc (lv' := [(3, .int z232), (2, .int x217), (4, .int 0), (1, .int k), (0, .ref h0)]) (k := 2) (v := z232) hx hb dX12_eldestTree_69 hl rfl ez232.symm (by decide) rfl (fun ls hl => ?_)
            refine lv_goto (tgt := 4) hx hb dX12_eldestTree_72 rfl ?_
            have hl : lv_has ls 5 [(3, .int z232), (2, .int x217), (1, .int k), (0, .ref h0)] := lv_sub hl [0, 1, 3, 4] rfl
            exact ih (z232, x217) σ ls H locs (by (try dsimp only); omega) hl ⟨rfl, by (try dsimp only); omega⟩ hH
    · have ch222 := i_nle h222
      refine lv_aload_n hx hb dX12_eldestTree_21 rfl (lv_at hl 3 rfl) ?_
      refine m_getA 39 hF hH fk_X12_133 dX12_eldestTree_22 (by decide) rfl ?_
      refine lv_iload_n hx hb dX12_eldestTree_25 rfl (lv_at hl 0 rfl) ?_
      refine m_iald 39 16 hF hH dX12_eldestTree_26 (by decide) rfl rfl 0 7 rfl rfl (by omega) (by omega) (fun z233 ez233 vz233 => ?_)
      have wz233 := i_eq ez233
      refine lv_iload_n hx hb dX12_eldestTree_27 rfl (lv_at hl 2 rfl) ?_
      refine lv_icmp_ne (tgt := 35) hx hb dX12_eldestTree_28 rfl (fun h234 => ?_) (fun h234 => ?_)
      · have ch234 := i_ne h234
        refine lv_iconst (v := 0) hx hb dX12_eldestTree_35 (by decide) ?_
        refine lv_istore (lv' := [(4, .int 0), (3, .int x217), (2, .int x218), (1, .int k), (0, .ref h0)]) hx hb dX12_eldestTree_36 hl (by decide) rfl (fun ls hl => ?_)
        refine lv_iload hx hb dX12_eldestTree_38 (lv_at hl 0 rfl) ?_
        refine lv_if_eq (tgt := 67) hx hb dX12_eldestTree_40 rfl (fun h235 => ?_) (fun h235 => ?_)
        · have ch235 := i_eq h235
          refine lv_iload_n hx hb dX12_eldestTree_67 rfl (lv_at hl 2 rfl) ?_
          refine lv_istore_n (lv' := [(2, .int x218), (4, .int 0), (3, .int x217), (1, .int k), (0, .ref h0)]) hx hb dX12_eldestTree_68 rfl hl (by decide) rfl (fun ls hl => ?_)
          obtain ⟨z236, ez236⟩ : ∃ z : Int32, z = x217 + Int32.ofInt 1 := ⟨_, rfl⟩
          have hz236 := i_add ez236 (by rw [show (Int32.ofInt 1).toInt = 1 from rfl]; omega) (by rw [show (Int32.ofInt 1).toInt = 1 from rfl]; omega)
          rw [show (Int32.ofInt 1).toInt = 1 from rfl] at hz236
          refine lv_iinc (lv' := [(3, .int z236), (2, .int x218), (4, .int 0), (1, .int k), (0, .ref h0)]) (k := 2) (v := z236) hx hb dX12_eldestTree_69 hl rfl ez236.symm (by decide) rfl (fun ls hl => ?_)
          refine lv_goto (tgt := 4) hx hb dX12_eldestTree_72 rfl ?_
          have hl : lv_has ls 5 [(3, .int z236), (2, .int x218), (1, .int k), (0, .ref h0)] := lv_sub hl [0, 1, 3, 4] rfl
          exact ih (z236, x218) σ ls H locs (by (try dsimp only); omega) hl ⟨rfl, by (try dsimp only); omega⟩ hH
        · have ch235 := i_ne h235
          refine lv_iload_n hx hb dX12_eldestTree_43 rfl (lv_at hl 2 rfl) ?_
          refine lv_if_lt (tgt := 63) hx hb dX12_eldestTree_44 rfl (fun h237 => ?_) (fun h237 => ?_)
          · have ch237 := i_lt h237
            refine lv_iload_n hx hb dX12_eldestTree_63 rfl (lv_at hl 1 rfl) ?_
            refine lv_goto (tgt := 68) hx hb dX12_eldestTree_64 rfl ?_
            refine lv_istore_n (lv' := [(2, .int x217), (4, .int 0), (3, .int x217), (1, .int k), (0, .ref h0)]) hx hb dX12_eldestTree_68 rfl hl (by decide) rfl (fun ls hl => ?_)
            obtain ⟨z238, ez238⟩ : ∃ z : Int32, z = x217 + Int32.ofInt 1 := ⟨_, rfl⟩
            have hz238 := i_add ez238 (by rw [show (Int32.ofInt 1).toInt = 1 from rfl]; omega) (by rw [show (Int32.ofInt 1).toInt = 1 from rfl]; omega)
            rw [show (Int32.ofInt 1).toInt = 1 from rfl] at hz238
            refine lv_iinc (lv' := [(3, .int z238), (2, .int x217), (4, .int 0), (1, .int k), (0, .ref h0)]) (k := 2) (v := z238) hx hb dX12_eldestTree_69 hl rfl ez238.symm (by decide) rfl (fun ls hl => ?_)
            refine lv_goto (tgt := 4) hx hb dX12_eldestTree_72 rfl ?_
            have hl : lv_has ls 5 [(3, .int z238), (2, .int x217), (1, .int k), (0, .ref h0)] := lv_sub hl [0, 1, 3, 4] rfl
            exact ih (z238, x217) σ ls H locs (by (try dsimp only); omega) hl ⟨rfl, by (try dsimp only); omega⟩ hH
          · have ch237 := i_nlt h237
            refine lv_aload_n hx hb dX12_eldestTree_47 rfl (lv_at hl 4 rfl) ?_
            refine m_getA 38 hF hH fk_X12_130 dX12_eldestTree_48 (by decide) rfl ?_
            refine lv_iload_n hx hb dX12_eldestTree_51 rfl (lv_at hl 1 rfl) ?_
            refine m_lald 38 16 hF hH dX12_eldestTree_52 (by decide) rfl rfl (by omega) (by omega) (fun z239 ez239 => ?_)
            refine lv_aload_n hx hb dX12_eldestTree_53 rfl (lv_at hl 4 rfl) ?_
            refine m_getA 38 hF hH fk_X12_130 dX12_eldestTree_54 (by decide) rfl ?_
            refine lv_iload_n hx hb dX12_eldestTree_57 rfl (lv_at hl 2 rfl) ?_
            refine m_lald 38 16 hF hH dX12_eldestTree_58 (by decide) rfl rfl (by omega) (by omega) (fun z240 ez240 => ?_)
            refine W.lcmp hx hb dX12_eldestTree_59 ?_
            refine lv_topi (fun z241 ez241 => ?_)
            refine lv_if_ge (tgt := 67) hx hb dX12_eldestTree_60 rfl (fun h242 => ?_) (fun h242 => ?_)
            · have ch242 := i_le h242
              refine lv_iload_n hx hb dX12_eldestTree_67 rfl (lv_at hl 2 rfl) ?_
              refine lv_istore_n (lv' := [(2, .int x218), (4, .int 0), (3, .int x217), (1, .int k), (0, .ref h0)]) hx hb dX12_eldestTree_68 rfl hl (by decide) rfl (fun ls hl => ?_)
              obtain ⟨z243, ez243⟩ : ∃ z : Int32, z = x217 + Int32.ofInt 1 := ⟨_, rfl⟩
              have hz243 := i_add ez243 (by rw [show (Int32.ofInt 1).toInt = 1 from rfl]; omega) (by rw [show (Int32.ofInt 1).toInt = 1 from rfl]; omega)
              rw [show (Int32.ofInt 1).toInt = 1 from rfl] at hz243
              refine lv_iinc (lv' := [(3, .int z243), (2, .int x218), (4, .int 0), (1, .int k), (0, .ref h0)]) (k := 2) (v := z243) hx hb dX12_eldestTree_69 hl rfl ez243.symm (by decide) rfl (fun ls hl => ?_)
              refine lv_goto (tgt := 4) hx hb dX12_eldestTree_72 rfl ?_
              have hl : lv_has ls 5 [(3, .int z243), (2, .int x218), (1, .int k), (0, .ref h0)] := lv_sub hl [0, 1, 3, 4] rfl
              exact ih (z243, x218) σ ls H locs (by (try dsimp only); omega) hl ⟨rfl, by (try dsimp only); omega⟩ hH
            · have ch242 := i_nle h242
              refine lv_iload_n hx hb dX12_eldestTree_63 rfl (lv_at hl 1 rfl) ?_
              refine lv_goto (tgt := 68) hx hb dX12_eldestTree_64 rfl ?_
              refine lv_istore_n (lv' := [(2, .int x217), (4, .int 0), (3, .int x217), (1, .int k), (0, .ref h0)]) hx hb dX12_eldestTree_68 rfl hl (by decide) rfl (fun ls hl => ?_)
              obtain ⟨z244, ez244⟩ : ∃ z : Int32, z = x217 + Int32.ofInt 1 := ⟨_, rfl⟩
              have hz244 := i_add ez244 (by rw [show (Int32.ofInt 1).toInt = 1 from rfl]; omega) (by rw [show (Int32.ofInt 1).toInt = 1 from rfl]; omega)
              rw [show (Int32.ofInt 1).toInt = 1 from rfl] at hz244
              refine lv_iinc (lv' := [(3, .int z244), (2, .int x217), (4, .int 0), (1, .int k), (0, .ref h0)]) (k := 2) (v := z244) hx hb dX12_eldestTree_69 hl rfl ez244.symm (by decide) rfl (fun ls hl => ?_)
              refine lv_goto (tgt := 4) hx hb dX12_eldestTree_72 rfl ?_
              have hl : lv_has ls 5 [(3, .int z244), (2, .int x217), (1, .int k), (0, .ref h0)] := lv_sub hl [0, 1, 3, 4] rfl
              exact ih (z244, x217) σ ls H locs (by (try dsimp only); omega) hl ⟨rfl, by (try dsimp only); omega⟩ hH
      · have ch234 := i_eq h234
        refine lv_iconst (v := 1) hx hb dX12_eldestTree_31 (by decide) ?_
        refine lv_goto (tgt := 36) hx hb dX12_eldestTree_32 rfl ?_
        refine lv_istore (lv' := [(4, .int 1), (3, .int x217), (2, .int x218), (1, .int k), (0, .ref h0)]) hx hb dX12_eldestTree_36 hl (by decide) rfl (fun ls hl => ?_)
        refine lv_iload hx hb dX12_eldestTree_38 (lv_at hl 0 rfl) ?_
        refine lv_if_eq (tgt := 67) hx hb dX12_eldestTree_40 rfl (fun h245 => ?_) (fun h245 => ?_)
        · have ch245 := i_eq h245
          refine lv_iload_n hx hb dX12_eldestTree_67 rfl (lv_at hl 2 rfl) ?_
          refine lv_istore_n (lv' := [(2, .int x218), (4, .int 1), (3, .int x217), (1, .int k), (0, .ref h0)]) hx hb dX12_eldestTree_68 rfl hl (by decide) rfl (fun ls hl => ?_)
          obtain ⟨z246, ez246⟩ : ∃ z : Int32, z = x217 + Int32.ofInt 1 := ⟨_, rfl⟩
          have hz246 := i_add ez246 (by rw [show (Int32.ofInt 1).toInt = 1 from rfl]; omega) (by rw [show (Int32.ofInt 1).toInt = 1 from rfl]; omega)
          rw [show (Int32.ofInt 1).toInt = 1 from rfl] at hz246
          refine lv_iinc (lv' := [(3, .int z246), (2, .int x218), (4, .int 1), (1, .int k), (0, .ref h0)]) (k := 2) (v := z246) hx hb dX12_eldestTree_69 hl rfl ez246.symm (by decide) rfl (fun ls hl => ?_)
          refine lv_goto (tgt := 4) hx hb dX12_eldestTree_72 rfl ?_
          have hl : lv_has ls 5 [(3, .int z246), (2, .int x218), (1, .int k), (0, .ref h0)] := lv_sub hl [0, 1, 3, 4] rfl
          exact ih (z246, x218) σ ls H locs (by (try dsimp only); omega) hl ⟨rfl, by (try dsimp only); omega⟩ hH
        · have ch245 := i_ne h245
          refine lv_iload_n hx hb dX12_eldestTree_43 rfl (lv_at hl 2 rfl) ?_
          refine lv_if_lt (tgt := 63) hx hb dX12_eldestTree_44 rfl (fun h247 => ?_) (fun h247 => ?_)
          · have ch247 := i_lt h247
            refine lv_iload_n hx hb dX12_eldestTree_63 rfl (lv_at hl 1 rfl) ?_
            refine lv_goto (tgt := 68) hx hb dX12_eldestTree_64 rfl ?_
            refine lv_istore_n (lv' := [(2, .int x217), (4, .int 1), (3, .int x217), (1, .int k), (0, .ref h0)]) hx hb dX12_eldestTree_68 rfl hl (by decide) rfl (fun ls hl => ?_)
            obtain ⟨z248, ez248⟩ : ∃ z : Int32, z = x217 + Int32.ofInt 1 := ⟨_, rfl⟩
            have hz248 := i_add ez248 (by rw [show (Int32.ofInt 1).toInt = 1 from rfl]; omega) (by rw [show (Int32.ofInt 1).toInt = 1 from rfl]; omega)
            rw [show (Int32.ofInt 1).toInt = 1 from rfl] at hz248
            refine lv_iinc (lv' := [(3, .int z248), (2, .int x217), (4, .int 1), (1, .int k), (0, .ref h0)]) (k := 2) (v := z248) hx hb dX12_eldestTree_69 hl rfl ez248.symm (by decide) rfl (fun ls hl => ?_)
            refine lv_goto (tgt := 4) hx hb dX12_eldestTree_72 rfl ?_
            have hl : lv_has ls 5 [(3, .int z248), (2, .int x217), (1, .int k), (0, .ref h0)] := lv_sub hl [0, 1, 3, 4] rfl
            exact ih (z248, x217) σ ls H locs (by (try dsimp only); omega) hl ⟨rfl, by (try dsimp only); omega⟩ hH
          · have ch247 := i_nlt h247
            refine lv_aload_n hx hb dX12_eldestTree_47 rfl (lv_at hl 4 rfl) ?_
            refine m_getA 38 hF hH fk_X12_130 dX12_eldestTree_48 (by decide) rfl ?_
            refine lv_iload_n hx hb dX12_eldestTree_51 rfl (lv_at hl 1 rfl) ?_
            refine m_lald 38 16 hF hH dX12_eldestTree_52 (by decide) rfl rfl (by omega) (by omega) (fun z249 ez249 => ?_)
            refine lv_aload_n hx hb dX12_eldestTree_53 rfl (lv_at hl 4 rfl) ?_
            refine m_getA 38 hF hH fk_X12_130 dX12_eldestTree_54 (by decide) rfl ?_
            refine lv_iload_n hx hb dX12_eldestTree_57 rfl (lv_at hl 2 rfl) ?_
            refine m_lald 38 16 hF hH dX12_eldestTree_58 (by decide) rfl rfl (by omega) (by omega) (fun z250 ez250 => ?_)
            refine W.lcmp hx hb dX12_eldestTree_59 ?_
            refine lv_topi (fun z251 ez251 => ?_)
            refine lv_if_ge (tgt := 67) hx hb dX12_eldestTree_60 rfl (fun h252 => ?_) (fun h252 => ?_)
            · have ch252 := i_le h252
              refine lv_iload_n hx hb dX12_eldestTree_67 rfl (lv_at hl 2 rfl) ?_
              refine lv_istore_n (lv' := [(2, .int x218), (4, .int 1), (3, .int x217), (1, .int k), (0, .ref h0)]) hx hb dX12_eldestTree_68 rfl hl (by decide) rfl (fun ls hl => ?_)
              obtain ⟨z253, ez253⟩ : ∃ z : Int32, z = x217 + Int32.ofInt 1 := ⟨_, rfl⟩
              have hz253 := i_add ez253 (by rw [show (Int32.ofInt 1).toInt = 1 from rfl]; omega) (by rw [show (Int32.ofInt 1).toInt = 1 from rfl]; omega)
              rw [show (Int32.ofInt 1).toInt = 1 from rfl] at hz253
              refine lv_iinc (lv' := [(3, .int z253), (2, .int x218), (4, .int 1), (1, .int k), (0, .ref h0)]) (k := 2) (v := z253) hx hb dX12_eldestTree_69 hl rfl ez253.symm (by decide) rfl (fun ls hl => ?_)
              refine lv_goto (tgt := 4) hx hb dX12_eldestTree_72 rfl ?_
              have hl : lv_has ls 5 [(3, .int z253), (2, .int x218), (1, .int k), (0, .ref h0)] := lv_sub hl [0, 1, 3, 4] rfl
              exact ih (z253, x218) σ ls H locs (by (try dsimp only); omega) hl ⟨rfl, by (try dsimp only); omega⟩ hH
            · have ch252 := i_nle h252
              refine lv_iload_n hx hb dX12_eldestTree_63 rfl (lv_at hl 1 rfl) ?_
              refine lv_goto (tgt := 68) hx hb dX12_eldestTree_64 rfl ?_
              refine lv_istore_n (lv' := [(2, .int x217), (4, .int 1), (3, .int x217), (1, .int k), (0, .ref h0)]) hx hb dX12_eldestTree_68 rfl hl (by decide) rfl (fun ls hl => ?_)
              obtain ⟨z254, ez254⟩ : ∃ z : Int32, z = x217 + Int32.ofInt 1 := ⟨_, rfl⟩
              have hz254 := i_add ez254 (by rw [show (Int32.ofInt 1).toInt = 1 from rfl]; omega) (by rw [show (Int32.ofInt 1).toInt = 1 from rfl]; omega)
              rw [show (Int32.ofInt 1).toInt = 1 from rfl] at hz254
              refine lv_iinc (lv' := [(3, .int z254), (2, .int x217), (4, .int 1), (1, .int k), (0, .ref h0)]) (k := 2) (v := z254) hx hb dX12_eldestTree_69 hl rfl ez254.symm (by decide) rfl (fun ls hl => ?_)
              refine lv_goto (tgt := 4) hx hb dX12_eldestTree_72 rfl ?_
              have hl : lv_has ls 5 [(3, .int z254), (2, .int x217), (1, .int k), (0, .ref h0)] := lv_sub hl [0, 1, 3, 4] rfl
              exact ih (z254, x217) σ ls H locs (by (try dsimp only); omega) hl ⟨rfl, by (try dsimp only); omega⟩ hH
theorem dX12_eldestOpen_0 : decode cX12_eldestOpen 0 = .ok (.iconst (-1), 1) := by decide +kernel
theorem dX12_eldestOpen_1 : decode cX12_eldestOpen 1 = .ok (.istore_n 2, 1) := by decide +kernel
theorem dX12_eldestOpen_2 : decode cX12_eldestOpen 2 = .ok (.iconst 0, 1) := by decide +kernel
theorem dX12_eldestOpen_3 : decode cX12_eldestOpen 3 = .ok (.istore_n 3, 1) := by decide +kernel
theorem dX12_eldestOpen_4 : decode cX12_eldestOpen 4 = .ok (.iload_n 3, 1) := by decide +kernel
theorem dX12_eldestOpen_5 : decode cX12_eldestOpen 5 = .ok (.bipush 40, 2) := by decide +kernel
theorem dX12_eldestOpen_7 : decode cX12_eldestOpen 7 = .ok (.if_icmp .ge 68, 3) := by decide +kernel
theorem dX12_eldestOpen_10 : decode cX12_eldestOpen 10 = .ok (.aload_n 0, 1) := by decide +kernel
theorem dX12_eldestOpen_11 : decode cX12_eldestOpen 11 = .ok (.getfield 139, 3) := by decide +kernel
theorem dX12_eldestOpen_14 : decode cX12_eldestOpen 14 = .ok (.iload_n 3, 1) := by decide +kernel
theorem dX12_eldestOpen_15 : decode cX12_eldestOpen 15 = .ok (.laload, 1) := by decide +kernel
theorem dX12_eldestOpen_16 : decode cX12_eldestOpen 16 = .ok (.lconst 0, 1) := by decide +kernel
theorem dX12_eldestOpen_17 : decode cX12_eldestOpen 17 = .ok (.lcmp, 1) := by decide +kernel
theorem dX12_eldestOpen_18 : decode cX12_eldestOpen 18 = .ok (.ifCond .le 17, 3) := by decide +kernel
theorem dX12_eldestOpen_21 : decode cX12_eldestOpen 21 = .ok (.aload_n 0, 1) := by decide +kernel
theorem dX12_eldestOpen_22 : decode cX12_eldestOpen 22 = .ok (.getfield 142, 3) := by decide +kernel
theorem dX12_eldestOpen_25 : decode cX12_eldestOpen 25 = .ok (.iload_n 3, 1) := by decide +kernel
theorem dX12_eldestOpen_26 : decode cX12_eldestOpen 26 = .ok (.iaload, 1) := by decide +kernel
theorem dX12_eldestOpen_27 : decode cX12_eldestOpen 27 = .ok (.iload_n 1, 1) := by decide +kernel
theorem dX12_eldestOpen_28 : decode cX12_eldestOpen 28 = .ok (.if_icmp .ne 7, 3) := by decide +kernel
theorem dX12_eldestOpen_31 : decode cX12_eldestOpen 31 = .ok (.iconst 1, 1) := by decide +kernel
theorem dX12_eldestOpen_32 : decode cX12_eldestOpen 32 = .ok (.goto 4, 3) := by decide +kernel
theorem dX12_eldestOpen_35 : decode cX12_eldestOpen 35 = .ok (.iconst 0, 1) := by decide +kernel
theorem dX12_eldestOpen_36 : decode cX12_eldestOpen 36 = .ok (.istore 4, 2) := by decide +kernel
theorem dX12_eldestOpen_38 : decode cX12_eldestOpen 38 = .ok (.iload 4, 2) := by decide +kernel
theorem dX12_eldestOpen_40 : decode cX12_eldestOpen 40 = .ok (.ifCond .eq 27, 3) := by decide +kernel
theorem dX12_eldestOpen_43 : decode cX12_eldestOpen 43 = .ok (.iload_n 2, 1) := by decide +kernel
theorem dX12_eldestOpen_44 : decode cX12_eldestOpen 44 = .ok (.ifCond .lt 19, 3) := by decide +kernel
theorem dX12_eldestOpen_47 : decode cX12_eldestOpen 47 = .ok (.aload_n 0, 1) := by decide +kernel
theorem dX12_eldestOpen_48 : decode cX12_eldestOpen 48 = .ok (.getfield 139, 3) := by decide +kernel
theorem dX12_eldestOpen_51 : decode cX12_eldestOpen 51 = .ok (.iload_n 3, 1) := by decide +kernel
theorem dX12_eldestOpen_52 : decode cX12_eldestOpen 52 = .ok (.laload, 1) := by decide +kernel
theorem dX12_eldestOpen_53 : decode cX12_eldestOpen 53 = .ok (.aload_n 0, 1) := by decide +kernel
theorem dX12_eldestOpen_54 : decode cX12_eldestOpen 54 = .ok (.getfield 139, 3) := by decide +kernel
theorem dX12_eldestOpen_57 : decode cX12_eldestOpen 57 = .ok (.iload_n 2, 1) := by decide +kernel
theorem dX12_eldestOpen_58 : decode cX12_eldestOpen 58 = .ok (.laload, 1) := by decide +kernel
theorem dX12_eldestOpen_59 : decode cX12_eldestOpen 59 = .ok (.lcmp, 1) := by decide +kernel
theorem dX12_eldestOpen_60 : decode cX12_eldestOpen 60 = .ok (.ifCond .ge 7, 3) := by decide +kernel
theorem dX12_eldestOpen_63 : decode cX12_eldestOpen 63 = .ok (.iload_n 3, 1) := by decide +kernel
theorem dX12_eldestOpen_64 : decode cX12_eldestOpen 64 = .ok (.goto 4, 3) := by decide +kernel
theorem dX12_eldestOpen_67 : decode cX12_eldestOpen 67 = .ok (.iload_n 2, 1) := by decide +kernel
theorem dX12_eldestOpen_68 : decode cX12_eldestOpen 68 = .ok (.istore_n 2, 1) := by decide +kernel
theorem dX12_eldestOpen_69 : decode cX12_eldestOpen 69 = .ok (.iinc 3 1, 3) := by decide +kernel
theorem dX12_eldestOpen_72 : decode cX12_eldestOpen 72 = .ok (.goto (-68), 3) := by decide +kernel
theorem dX12_eldestOpen_75 : decode cX12_eldestOpen 75 = .ok (.iload_n 2, 1) := by decide +kernel
theorem dX12_eldestOpen_76 : decode cX12_eldestOpen 76 = .ok (.ireturn, 1) := by decide +kernel
set_option maxRecDepth 100000 in
set_option maxHeartbeats 4000000 in
theorem c_X12_eldestOpen (l : Launch) (D : va_G) (t : Nat → ClassId) (h0 : Nat) (L : Nat → Nat) (σ : HS) (hO : OK ph τ0 σ) (hM : MdI h0 L σ) (k : Int32) (sz : Nat) : HMi ph τ0 l D t yX12_eldestOpen cX12_eldestOpen 5 (some .int) ({ frames := 0, cells := 0, slots := 0, locals := 0 }) σ sz [.ref h0, .int k] 0 0 (fun r σ' => MdI h0 L σ' ∧ σ' = σ ∧ (-1 ≤ r.toInt ∧ r.toInt ≤ 39)) := by
  refine h_go hO (by decide) (Nat.le_of_ble_eq_true rfl) ?_
  intro p e s m below meth c ls A hF hr hlk hAe hH0 hA hl
  unfold hB
  rw [hAe]
  clear hAe
  have hF : FX p m c cX12_eldestOpen 5 s _ RX12 D t := hF
  have hx := hF.1.1
  have hb := hF.1.2.1
  have hH : MT D t A s.heap h0 L σ s.heap [] := ⟨hH0, hM⟩
  have hle : HLe σ σ := HLe.rf
  have k_m1 : ((-1) : Int32).toInt = (-1) := rfl
  have k_0 : (0 : Int32).toInt = 0 := rfl
  have k_1 : (1 : Int32).toInt = 1 := rfl
  have k_40 : (40 : Int32).toInt = 40 := rfl
  have rg_1 := i_range k
  have hl : lv_has ls 5 [(0, .ref h0), (1, .int k)] := hl
  refine lv_iconst (v := (-1)) hx hb dX12_eldestOpen_0 (by decide) ?_
  refine lv_istore_n (lv' := [(2, .int (-1)), (0, .ref h0), (1, .int k)]) hx hb dX12_eldestOpen_1 rfl hl (by decide) rfl (fun ls hl => ?_)
  refine lv_iconst (v := 0) hx hb dX12_eldestOpen_2 (by decide) ?_
  refine lv_istore_n (lv' := [(3, .int 0), (2, .int (-1)), (0, .ref h0), (1, .int k)]) hx hb dX12_eldestOpen_3 rfl hl (by decide) rfl (fun ls hl => ?_)
  have hl : lv_has ls 5 [(3, .int 0), (2, .int (-1)), (1, .int k), (0, .ref h0)] := lv_sub hl [0, 1, 3, 2] rfl
  refine m_loop (β := Int32 × Int32) (L0 := fun x => [(3, .int x.1), (2, .int x.2), (1, .int k), (0, .ref h0)]) (I := fun x σ2 => σ = σ2 ∧ (0 ≤ x.1.toInt ∧ x.1.toInt ≤ 40 ∧ -1 ≤ x.2.toInt ∧ x.2.toInt ≤ 39)) (fun x σ2 => (40 - x.1.toInt).toNat) (0, (-1)) hl ⟨rfl, by (try dsimp only); omega⟩ hH (fun x σL ls H locs hl hI hH ih => ?_)
  obtain ⟨x255, x256⟩ := x
  obtain ⟨hsL, hI⟩ := hI
  subst hsL
  have hl : lv_has ls 5 [(3, .int x255), (2, .int x256), (1, .int k), (0, .ref h0)] := hl
  have hI : 0 ≤ x255.toInt ∧ x255.toInt ≤ 40 ∧ -1 ≤ x256.toInt ∧ x256.toInt ≤ 39 := hI
  have rg_x255 := i_range x255
  have rg_x256 := i_range x256
  refine lv_iload_n hx hb dX12_eldestOpen_4 rfl (lv_at hl 0 rfl) ?_
  refine lv_bipush (v := 40) hx hb dX12_eldestOpen_5 (by decide) ?_
  refine lv_icmp_ge (tgt := 75) hx hb dX12_eldestOpen_7 rfl (fun h257 => ?_) (fun h257 => ?_)
  · have ch257 := i_le h257
    refine lv_iload_n hx hb dX12_eldestOpen_75 rfl (lv_at hl 1 rfl) ?_
    exact h_reti hF hr hlk rfl dX12_eldestOpen_76 hH.1 hle ⟨hH.2, rfl, by (try dsimp only); omega⟩
  · have ch257 := i_nle h257
    refine lv_aload_n hx hb dX12_eldestOpen_10 rfl (lv_at hl 3 rfl) ?_
    refine m_getA 41 hF hH fk_X12_139 dX12_eldestOpen_11 (by decide) rfl ?_
    refine lv_iload_n hx hb dX12_eldestOpen_14 rfl (lv_at hl 0 rfl) ?_
    refine m_lald 41 40 hF hH dX12_eldestOpen_15 (by decide) rfl rfl (by omega) (by omega) (fun z258 ez258 => ?_)
    refine lv_lconst (v := 0) hx hb dX12_eldestOpen_16 (by decide) ?_
    refine W.lcmp hx hb dX12_eldestOpen_17 ?_
    refine lv_topi (fun z259 ez259 => ?_)
    refine lv_if_le (tgt := 35) hx hb dX12_eldestOpen_18 rfl (fun h260 => ?_) (fun h260 => ?_)
    · have ch260 := i_le h260
      refine lv_iconst (v := 0) hx hb dX12_eldestOpen_35 (by decide) ?_
      refine lv_istore (lv' := [(4, .int 0), (3, .int x255), (2, .int x256), (1, .int k), (0, .ref h0)]) hx hb dX12_eldestOpen_36 hl (by decide) rfl (fun ls hl => ?_)
      refine lv_iload hx hb dX12_eldestOpen_38 (lv_at hl 0 rfl) ?_
      refine lv_if_eq (tgt := 67) hx hb dX12_eldestOpen_40 rfl (fun h261 => ?_) (fun h261 => ?_)
      · have ch261 := i_eq h261
        refine lv_iload_n hx hb dX12_eldestOpen_67 rfl (lv_at hl 2 rfl) ?_
        refine lv_istore_n (lv' := [(2, .int x256), (4, .int 0), (3, .int x255), (1, .int k), (0, .ref h0)]) hx hb dX12_eldestOpen_68 rfl hl (by decide) rfl (fun ls hl => ?_)
        obtain ⟨z262, ez262⟩ : ∃ z : Int32, z = x255 + Int32.ofInt 1 := ⟨_, rfl⟩
        have hz262 := i_add ez262 (by rw [show (Int32.ofInt 1).toInt = 1 from rfl]; omega) (by rw [show (Int32.ofInt 1).toInt = 1 from rfl]; omega)
        rw [show (Int32.ofInt 1).toInt = 1 from rfl] at hz262
        refine lv_iinc (lv' := [(3, .int z262), (2, .int x256), (4, .int 0), (1, .int k), (0, .ref h0)]) (k := 2) (v := z262) hx hb dX12_eldestOpen_69 hl rfl ez262.symm (by decide) rfl (fun ls hl => ?_)
        refine lv_goto (tgt := 4) hx hb dX12_eldestOpen_72 rfl ?_
        have hl : lv_has ls 5 [(3, .int z262), (2, .int x256), (1, .int k), (0, .ref h0)] := lv_sub hl [0, 1, 3, 4] rfl
        exact ih (z262, x256) σ ls H locs (by (try dsimp only); omega) hl ⟨rfl, by (try dsimp only); omega⟩ hH
      · have ch261 := i_ne h261
        refine lv_iload_n hx hb dX12_eldestOpen_43 rfl (lv_at hl 2 rfl) ?_
        refine lv_if_lt (tgt := 63) hx hb dX12_eldestOpen_44 rfl (fun h263 => ?_) (fun h263 => ?_)
        · have ch263 := i_lt h263
          refine lv_iload_n hx hb dX12_eldestOpen_63 rfl (lv_at hl 1 rfl) ?_
          refine lv_goto (tgt := 68) hx hb dX12_eldestOpen_64 rfl ?_
          refine lv_istore_n (lv' := [(2, .int x255), (4, .int 0), (3, .int x255), (1, .int k), (0, .ref h0)]) hx hb dX12_eldestOpen_68 rfl hl (by decide) rfl (fun ls hl => ?_)
          obtain ⟨z264, ez264⟩ : ∃ z : Int32, z = x255 + Int32.ofInt 1 := ⟨_, rfl⟩
          have hz264 := i_add ez264 (by rw [show (Int32.ofInt 1).toInt = 1 from rfl]; omega) (by rw [show (Int32.ofInt 1).toInt = 1 from rfl]; omega)
          rw [show (Int32.ofInt 1).toInt = 1 from rfl] at hz264
          refine lv_iinc (lv' := [(3, .int z264), (2, .int x255), (4, .int 0), (1, .int k), (0, .ref h0)]) (k := 2) (v := z264) hx hb dX12_eldestOpen_69 hl rfl ez264.symm (by decide) rfl (fun ls hl => ?_)
          refine lv_goto (tgt := 4) hx hb dX12_eldestOpen_72 rfl ?_
          have hl : lv_has ls 5 [(3, .int z264), (2, .int x255), (1, .int k), (0, .ref h0)] := lv_sub hl [0, 1, 3, 4] rfl
          exact ih (z264, x255) σ ls H locs (by (try dsimp only); omega) hl ⟨rfl, by (try dsimp only); omega⟩ hH
        · have ch263 := i_nlt h263
          refine lv_aload_n hx hb dX12_eldestOpen_47 rfl (lv_at hl 4 rfl) ?_
          refine m_getA 41 hF hH fk_X12_139 dX12_eldestOpen_48 (by decide) rfl ?_
          refine lv_iload_n hx hb dX12_eldestOpen_51 rfl (lv_at hl 1 rfl) ?_
          refine m_lald 41 40 hF hH dX12_eldestOpen_52 (by decide) rfl rfl (by omega) (by omega) (fun z265 ez265 => ?_)
          refine lv_aload_n hx hb dX12_eldestOpen_53 rfl (lv_at hl 4 rfl) ?_
          refine m_getA 41 hF hH fk_X12_139 dX12_eldestOpen_54 (by decide) rfl ?_
          refine lv_iload_n hx hb dX12_eldestOpen_57 rfl (lv_at hl 2 rfl) ?_
          refine m_lald 41 40 hF hH dX12_eldestOpen_58 (by decide) rfl rfl (by omega) (by omega) (fun z266 ez266 => ?_)
          refine W.lcmp hx hb dX12_eldestOpen_59 ?_
          refine lv_topi (fun z267 ez267 => ?_)
          refine lv_if_ge (tgt := 67) hx hb dX12_eldestOpen_60 rfl (fun h268 => ?_) (fun h268 => ?_)
          · have ch268 := i_le h268
            refine lv_iload_n hx hb dX12_eldestOpen_67 rfl (lv_at hl 2 rfl) ?_
            refine lv_istore_n (lv' := [(2, .int x256), (4, .int 0), (3, .int x255), (1, .int k), (0, .ref h0)]) hx hb dX12_eldestOpen_68 rfl hl (by decide) rfl (fun ls hl => ?_)
            obtain ⟨z269, ez269⟩ : ∃ z : Int32, z = x255 + Int32.ofInt 1 := ⟨_, rfl⟩
            have hz269 := i_add ez269 (by rw [show (Int32.ofInt 1).toInt = 1 from rfl]; omega) (by rw [show (Int32.ofInt 1).toInt = 1 from rfl]; omega)
            rw [show (Int32.ofInt 1).toInt = 1 from rfl] at hz269
            refine lv_iinc (lv' := [(3, .int z269), (2, .int x256), (4, .int 0), (1, .int k), (0, .ref h0)]) (k := 2) (v := z269) hx hb dX12_eldestOpen_69 hl rfl ez269.symm (by decide) rfl (fun ls hl => ?_)
            refine lv_goto (tgt := 4) hx hb dX12_eldestOpen_72 rfl ?_
            have hl : lv_has ls 5 [(3, .int z269), (2, .int x256), (1, .int k), (0, .ref h0)] := lv_sub hl [0, 1, 3, 4] rfl
            exact ih (z269, x256) σ ls H locs (by (try dsimp only); omega) hl ⟨rfl, by (try dsimp only); omega⟩ hH
          · have ch268 := i_nle h268
            refine lv_iload_n hx hb dX12_eldestOpen_63 rfl (lv_at hl 1 rfl) ?_
            refine lv_goto (tgt := 68) hx hb dX12_eldestOpen_64 rfl ?_
            refine lv_istore_n (lv' := [(2, .int x255), (4, .int 0), (3, .int x255), (1, .int k), (0, .ref h0)]) hx hb dX12_eldestOpen_68 rfl hl (by decide) rfl (fun ls hl => ?_)
            obtain ⟨z270, ez270⟩ : ∃ z : Int32, z = x255 + Int32.ofInt 1 := ⟨_, rfl⟩
            have hz270 := i_add ez270 (by rw [show (Int32.ofInt 1).toInt = 1 from rfl]; omega) (by rw [show (Int32.ofInt 1).toInt = 1 from rfl]; omega)
            rw [show (Int32.ofInt 1).toInt = 1 from rfl] at hz270
            refine lv_iinc (lv' := [(3, .int z270), (2, .int x255), (4, .int 0), (1, .int k), (0, .ref h0)]) (k := 2) (v := z270) hx hb dX12_eldestOpen_69 hl rfl ez270.symm (by decide) rfl (fun ls hl => ?_)
            refine lv_goto (tgt := 4) hx hb dX12_eldestOpen_72 rfl ?_
            have hl : lv_has ls 5 [(3, .int z270), (2, .int x255), (1, .int k), (0, .ref h0)] := lv_sub hl [0, 1, 3, 4] rfl
            exact ih (z270, x255) σ ls H locs (by (try dsimp only); omega) hl ⟨rfl, by (try dsimp only); omega⟩ hH
    · have ch260 := i_nle h260
      refine lv_aload_n hx hb dX12_eldestOpen_21 rfl (lv_at hl 3 rfl) ?_
      refine m_getA 42 hF hH fk_X12_142 dX12_eldestOpen_22 (by decide) rfl ?_
      refine lv_iload_n hx hb dX12_eldestOpen_25 rfl (lv_at hl 0 rfl) ?_
      refine m_iald 42 40 hF hH dX12_eldestOpen_26 (by decide) rfl rfl 0 15 rfl rfl (by omega) (by omega) (fun z271 ez271 vz271 => ?_)
      have wz271 := i_eq ez271
      refine lv_iload_n hx hb dX12_eldestOpen_27 rfl (lv_at hl 2 rfl) ?_
      refine lv_icmp_ne (tgt := 35) hx hb dX12_eldestOpen_28 rfl (fun h272 => ?_) (fun h272 => ?_)
      · have ch272 := i_ne h272
        refine lv_iconst (v := 0) hx hb dX12_eldestOpen_35 (by decide) ?_
        refine lv_istore (lv' := [(4, .int 0), (3, .int x255), (2, .int x256), (1, .int k), (0, .ref h0)]) hx hb dX12_eldestOpen_36 hl (by decide) rfl (fun ls hl => ?_)
        refine lv_iload hx hb dX12_eldestOpen_38 (lv_at hl 0 rfl) ?_
        refine lv_if_eq (tgt := 67) hx hb dX12_eldestOpen_40 rfl (fun h273 => ?_) (fun h273 => ?_)
        · have ch273 := i_eq h273
          refine lv_iload_n hx hb dX12_eldestOpen_67 rfl (lv_at hl 2 rfl) ?_
          refine lv_istore_n (lv' := [(2, .int x256), (4, .int 0), (3, .int x255), (1, .int k), (0, .ref h0)]) hx hb dX12_eldestOpen_68 rfl hl (by decide) rfl (fun ls hl => ?_)
          obtain ⟨z274, ez274⟩ : ∃ z : Int32, z = x255 + Int32.ofInt 1 := ⟨_, rfl⟩
          have hz274 := i_add ez274 (by rw [show (Int32.ofInt 1).toInt = 1 from rfl]; omega) (by rw [show (Int32.ofInt 1).toInt = 1 from rfl]; omega)
          rw [show (Int32.ofInt 1).toInt = 1 from rfl] at hz274
          refine lv_iinc (lv' := [(3, .int z274), (2, .int x256), (4, .int 0), (1, .int k), (0, .ref h0)]) (k := 2) (v := z274) hx hb dX12_eldestOpen_69 hl rfl ez274.symm (by decide) rfl (fun ls hl => ?_)
          refine lv_goto (tgt := 4) hx hb dX12_eldestOpen_72 rfl ?_
          have hl : lv_has ls 5 [(3, .int z274), (2, .int x256), (1, .int k), (0, .ref h0)] := lv_sub hl [0, 1, 3, 4] rfl
          exact ih (z274, x256) σ ls H locs (by (try dsimp only); omega) hl ⟨rfl, by (try dsimp only); omega⟩ hH
        · have ch273 := i_ne h273
          refine lv_iload_n hx hb dX12_eldestOpen_43 rfl (lv_at hl 2 rfl) ?_
          refine lv_if_lt (tgt := 63) hx hb dX12_eldestOpen_44 rfl (fun h275 => ?_) (fun h275 => ?_)
          · have ch275 := i_lt h275
            refine lv_iload_n hx hb dX12_eldestOpen_63 rfl (lv_at hl 1 rfl) ?_
            refine lv_goto (tgt := 68) hx hb dX12_eldestOpen_64 rfl ?_
            refine lv_istore_n (lv' := [(2, .int x255), (4, .int 0), (3, .int x255), (1, .int k), (0, .ref h0)]) hx hb dX12_eldestOpen_68 rfl hl (by decide) rfl (fun ls hl => ?_)
            obtain ⟨z276, ez276⟩ : ∃ z : Int32, z = x255 + Int32.ofInt 1 := ⟨_, rfl⟩
            have hz276 := i_add ez276 (by rw [show (Int32.ofInt 1).toInt = 1 from rfl]; omega) (by rw [show (Int32.ofInt 1).toInt = 1 from rfl]; omega)
            rw [show (Int32.ofInt 1).toInt = 1 from rfl] at hz276
            refine lv_iinc (lv' := [(3, .int z276), (2, .int x255), (4, .int 0), (1, .int k), (0, .ref h0)]) (k := 2) (v := z276) hx hb dX12_eldestOpen_69 hl rfl ez276.symm (by decide) rfl (fun ls hl => ?_)
            refine lv_goto (tgt := 4) hx hb dX12_eldestOpen_72 rfl ?_
            have hl : lv_has ls 5 [(3, .int z276), (2, .int x255), (1, .int k), (0, .ref h0)] := lv_sub hl [0, 1, 3, 4] rfl
            exact ih (z276, x255) σ ls H locs (by (try dsimp only); omega) hl ⟨rfl, by (try dsimp only); omega⟩ hH
          · have ch275 := i_nlt h275
            refine lv_aload_n hx hb dX12_eldestOpen_47 rfl (lv_at hl 4 rfl) ?_
            refine m_getA 41 hF hH fk_X12_139 dX12_eldestOpen_48 (by decide) rfl ?_
            refine lv_iload_n hx hb dX12_eldestOpen_51 rfl (lv_at hl 1 rfl) ?_
            refine m_lald 41 40 hF hH dX12_eldestOpen_52 (by decide) rfl rfl (by omega) (by omega) (fun z277 ez277 => ?_)
            refine lv_aload_n hx hb dX12_eldestOpen_53 rfl (lv_at hl 4 rfl) ?_
            refine m_getA 41 hF hH fk_X12_139 dX12_eldestOpen_54 (by decide) rfl ?_
            refine lv_iload_n hx hb dX12_eldestOpen_57 rfl (lv_at hl 2 rfl) ?_
            refine m_lald 41 40 hF hH dX12_eldestOpen_58 (by decide) rfl rfl (by omega) (by omega) (fun z278 ez278 => ?_)
            refine W.lcmp hx hb dX12_eldestOpen_59 ?_
            refine lv_topi (fun z279 ez279 => ?_)
            refine lv_if_ge (tgt := 67) hx hb dX12_eldestOpen_60 rfl (fun h280 => ?_) (fun h280 => ?_)
            · have ch280 := i_le h280
              refine lv_iload_n hx hb dX12_eldestOpen_67 rfl (lv_at hl 2 rfl) ?_
              refine lv_istore_n (lv' := [(2, .int x256), (4, .int 0), (3, .int x255), (1, .int k), (0, .ref h0)]) hx hb dX12_eldestOpen_68 rfl hl (by decide) rfl (fun ls hl => ?_)
              obtain ⟨z281, ez281⟩ : ∃ z : Int32, z = x255 + Int32.ofInt 1 := ⟨_, rfl⟩
              have hz281 := i_add ez281 (by rw [show (Int32.ofInt 1).toInt = 1 from rfl]; omega) (by rw [show (Int32.ofInt 1).toInt = 1 from rfl]; omega)
              rw [show (Int32.ofInt 1).toInt = 1 from rfl] at hz281
              refine lv_iinc (lv' := [(3, .int z281), (2, .int x256), (4, .int 0), (1, .int k), (0, .ref h0)]) (k := 2) (v := z281) hx hb dX12_eldestOpen_69 hl rfl ez281.symm (by decide) rfl (fun ls hl => ?_)
              refine lv_goto (tgt := 4) hx hb dX12_eldestOpen_72 rfl ?_
              have hl : lv_has ls 5 [(3, .int z281), (2, .int x256), (1, .int k), (0, .ref h0)] := lv_sub hl [0, 1, 3, 4] rfl
              exact ih (z281, x256) σ ls H locs (by (try dsimp only); omega) hl ⟨rfl, by (try dsimp only); omega⟩ hH
            · have ch280 := i_nle h280
              refine lv_iload_n hx hb dX12_eldestOpen_63 rfl (lv_at hl 1 rfl) ?_
              refine lv_goto (tgt := 68) hx hb dX12_eldestOpen_64 rfl ?_
              refine lv_istore_n (lv' := [(2, .int x255), (4, .int 0), (3, .int x255), (1, .int k), (0, .ref h0)]) hx hb dX12_eldestOpen_68 rfl hl (by decide) rfl (fun ls hl => ?_)
              obtain ⟨z282, ez282⟩ : ∃ z : Int32, z = x255 + Int32.ofInt 1 := ⟨_, rfl⟩
              have hz282 := i_add ez282 (by rw [show (Int32.ofInt 1).toInt = 1 from rfl]; omega) (by rw [show (Int32.ofInt 1).toInt = 1 from rfl]; omega)
              rw [show (Int32.ofInt 1).toInt = 1 from rfl] at hz282
              refine lv_iinc (lv' := [(3, .int z282), (2, .int x255), (4, .int 0), (1, .int k), (0, .ref h0)]) (k := 2) (v := z282) hx hb dX12_eldestOpen_69 hl rfl ez282.symm (by decide) rfl (fun ls hl => ?_)
              refine lv_goto (tgt := 4) hx hb dX12_eldestOpen_72 rfl ?_
              have hl : lv_has ls 5 [(3, .int z282), (2, .int x255), (1, .int k), (0, .ref h0)] := lv_sub hl [0, 1, 3, 4] rfl
              exact ih (z282, x255) σ ls H locs (by (try dsimp only); omega) hl ⟨rfl, by (try dsimp only); omega⟩ hH
      · have ch272 := i_eq h272
        refine lv_iconst (v := 1) hx hb dX12_eldestOpen_31 (by decide) ?_
        refine lv_goto (tgt := 36) hx hb dX12_eldestOpen_32 rfl ?_
        refine lv_istore (lv' := [(4, .int 1), (3, .int x255), (2, .int x256), (1, .int k), (0, .ref h0)]) hx hb dX12_eldestOpen_36 hl (by decide) rfl (fun ls hl => ?_)
        refine lv_iload hx hb dX12_eldestOpen_38 (lv_at hl 0 rfl) ?_
        refine lv_if_eq (tgt := 67) hx hb dX12_eldestOpen_40 rfl (fun h283 => ?_) (fun h283 => ?_)
        · have ch283 := i_eq h283
          refine lv_iload_n hx hb dX12_eldestOpen_67 rfl (lv_at hl 2 rfl) ?_
          refine lv_istore_n (lv' := [(2, .int x256), (4, .int 1), (3, .int x255), (1, .int k), (0, .ref h0)]) hx hb dX12_eldestOpen_68 rfl hl (by decide) rfl (fun ls hl => ?_)
          obtain ⟨z284, ez284⟩ : ∃ z : Int32, z = x255 + Int32.ofInt 1 := ⟨_, rfl⟩
          have hz284 := i_add ez284 (by rw [show (Int32.ofInt 1).toInt = 1 from rfl]; omega) (by rw [show (Int32.ofInt 1).toInt = 1 from rfl]; omega)
          rw [show (Int32.ofInt 1).toInt = 1 from rfl] at hz284
          refine lv_iinc (lv' := [(3, .int z284), (2, .int x256), (4, .int 1), (1, .int k), (0, .ref h0)]) (k := 2) (v := z284) hx hb dX12_eldestOpen_69 hl rfl ez284.symm (by decide) rfl (fun ls hl => ?_)
          refine lv_goto (tgt := 4) hx hb dX12_eldestOpen_72 rfl ?_
          have hl : lv_has ls 5 [(3, .int z284), (2, .int x256), (1, .int k), (0, .ref h0)] := lv_sub hl [0, 1, 3, 4] rfl
          exact ih (z284, x256) σ ls H locs (by (try dsimp only); omega) hl ⟨rfl, by (try dsimp only); omega⟩ hH
        · have ch283 := i_ne h283
          refine lv_iload_n hx hb dX12_eldestOpen_43 rfl (lv_at hl 2 rfl) ?_
          refine lv_if_lt (tgt := 63) hx hb dX12_eldestOpen_44 rfl (fun h285 => ?_) (fun h285 => ?_)
          · have ch285 := i_lt h285
            refine lv_iload_n hx hb dX12_eldestOpen_63 rfl (lv_at hl 1 rfl) ?_
            refine lv_goto (tgt := 68) hx hb dX12_eldestOpen_64 rfl ?_
            refine lv_istore_n (lv' := [(2, .int x255), (4, .int 1), (3, .int x255), (1, .int k), (0, .ref h0)]) hx hb dX12_eldestOpen_68 rfl hl (by decide) rfl (fun ls hl => ?_)
            obtain ⟨z286, ez286⟩ : ∃ z : Int32, z = x255 + Int32.ofInt 1 := ⟨_, rfl⟩
            have hz286 := i_add ez286 (by rw [show (Int32.ofInt 1).toInt = 1 from rfl]; omega) (by rw [show (Int32.ofInt 1).toInt = 1 from rfl]; omega)
            rw [show (Int32.ofInt 1).toInt = 1 from rfl] at hz286
            refine lv_iinc (lv' := [(3, .int z286), (2, .int x255), (4, .int 1), (1, .int k), (0, .ref h0)]) (k := 2) (v := z286) hx hb dX12_eldestOpen_69 hl rfl ez286.symm (by decide) rfl (fun ls hl => ?_)
            refine lv_goto (tgt := 4) hx hb dX12_eldestOpen_72 rfl ?_
            have hl : lv_has ls 5 [(3, .int z286), (2, .int x255), (1, .int k), (0, .ref h0)] := lv_sub hl [0, 1, 3, 4] rfl
            exact ih (z286, x255) σ ls H locs (by (try dsimp only); omega) hl ⟨rfl, by (try dsimp only); omega⟩ hH
          · have ch285 := i_nlt h285
            refine lv_aload_n hx hb dX12_eldestOpen_47 rfl (lv_at hl 4 rfl) ?_
            refine m_getA 41 hF hH fk_X12_139 dX12_eldestOpen_48 (by decide) rfl ?_
            refine lv_iload_n hx hb dX12_eldestOpen_51 rfl (lv_at hl 1 rfl) ?_
            refine m_lald 41 40 hF hH dX12_eldestOpen_52 (by decide) rfl rfl (by omega) (by omega) (fun z287 ez287 => ?_)
            refine lv_aload_n hx hb dX12_eldestOpen_53 rfl (lv_at hl 4 rfl) ?_
            refine m_getA 41 hF hH fk_X12_139 dX12_eldestOpen_54 (by decide) rfl ?_
            refine lv_iload_n hx hb dX12_eldestOpen_57 rfl (lv_at hl 2 rfl) ?_
            refine m_lald 41 40 hF hH dX12_eldestOpen_58 (by decide) rfl rfl (by omega) (by omega) (fun z288 ez288 => ?_)
            refine W.lcmp hx hb dX12_eldestOpen_59 ?_
            refine lv_topi (fun z289 ez289 => ?_)
            refine lv_if_ge (tgt := 67) hx hb dX12_eldestOpen_60 rfl (fun h290 => ?_) (fun h290 => ?_)
            · have ch290 := i_le h290
              refine lv_iload_n hx hb dX12_eldestOpen_67 rfl (lv_at hl 2 rfl) ?_
              refine lv_istore_n (lv' := [(2, .int x256), (4, .int 1), (3, .int x255), (1, .int k), (0, .ref h0)]) hx hb dX12_eldestOpen_68 rfl hl (by decide) rfl (fun ls hl => ?_)
              obtain ⟨z291, ez291⟩ : ∃ z : Int32, z = x255 + Int32.ofInt 1 := ⟨_, rfl⟩
              have hz291 := i_add ez291 (by rw [show (Int32.ofInt 1).toInt = 1 from rfl]; omega) (by rw [show (Int32.ofInt 1).toInt = 1 from rfl]; omega)
              rw [show (Int32.ofInt 1).toInt = 1 from rfl] at hz291
              refine lv_iinc (lv' := [(3, .int z291), (2, .int x256), (4, .int 1), (1, .int k), (0, .ref h0)]) (k := 2) (v := z291) hx hb dX12_eldestOpen_69 hl rfl ez291.symm (by decide) rfl (fun ls hl => ?_)
              refine lv_goto (tgt := 4) hx hb dX12_eldestOpen_72 rfl ?_
              have hl : lv_has ls 5 [(3, .int z291), (2, .int x256), (1, .int k), (0, .ref h0)] := lv_sub hl [0, 1, 3, 4] rfl
              exact ih (z291, x256) σ ls H locs (by (try dsimp only); omega) hl ⟨rfl, by (try dsimp only); omega⟩ hH
            · have ch290 := i_nle h290
              refine lv_iload_n hx hb dX12_eldestOpen_63 rfl (lv_at hl 1 rfl) ?_
              refine lv_goto (tgt := 68) hx hb dX12_eldestOpen_64 rfl ?_
              refine lv_istore_n (lv' := [(2, .int x255), (4, .int 1), (3, .int x255), (1, .int k), (0, .ref h0)]) hx hb dX12_eldestOpen_68 rfl hl (by decide) rfl (fun ls hl => ?_)
              obtain ⟨z292, ez292⟩ : ∃ z : Int32, z = x255 + Int32.ofInt 1 := ⟨_, rfl⟩
              have hz292 := i_add ez292 (by rw [show (Int32.ofInt 1).toInt = 1 from rfl]; omega) (by rw [show (Int32.ofInt 1).toInt = 1 from rfl]; omega)
              rw [show (Int32.ofInt 1).toInt = 1 from rfl] at hz292
              refine lv_iinc (lv' := [(3, .int z292), (2, .int x255), (4, .int 1), (1, .int k), (0, .ref h0)]) (k := 2) (v := z292) hx hb dX12_eldestOpen_69 hl rfl ez292.symm (by decide) rfl (fun ls hl => ?_)
              refine lv_goto (tgt := 4) hx hb dX12_eldestOpen_72 rfl ?_
              have hl : lv_has ls 5 [(3, .int z292), (2, .int x255), (1, .int k), (0, .ref h0)] := lv_sub hl [0, 1, 3, 4] rfl
              exact ih (z292, x255) σ ls H locs (by (try dsimp only); omega) hl ⟨rfl, by (try dsimp only); omega⟩ hH
theorem dX12_isOpened_0 : decode cX12_isOpened 0 = .ok (.iconst 0, 1) := by decide +kernel
theorem dX12_isOpened_1 : decode cX12_isOpened 1 = .ok (.istore_n 2, 1) := by decide +kernel
theorem dX12_isOpened_2 : decode cX12_isOpened 2 = .ok (.iconst 0, 1) := by decide +kernel
theorem dX12_isOpened_3 : decode cX12_isOpened 3 = .ok (.istore_n 3, 1) := by decide +kernel
theorem dX12_isOpened_4 : decode cX12_isOpened 4 = .ok (.iload_n 3, 1) := by decide +kernel
theorem dX12_isOpened_5 : decode cX12_isOpened 5 = .ok (.bipush 40, 2) := by decide +kernel
theorem dX12_isOpened_7 : decode cX12_isOpened 7 = .ok (.if_icmp .ge 38, 3) := by decide +kernel
theorem dX12_isOpened_10 : decode cX12_isOpened 10 = .ok (.iload_n 2, 1) := by decide +kernel
theorem dX12_isOpened_11 : decode cX12_isOpened 11 = .ok (.aload_n 0, 1) := by decide +kernel
theorem dX12_isOpened_12 : decode cX12_isOpened 12 = .ok (.getfield 139, 3) := by decide +kernel
theorem dX12_isOpened_15 : decode cX12_isOpened 15 = .ok (.iload_n 3, 1) := by decide +kernel
theorem dX12_isOpened_16 : decode cX12_isOpened 16 = .ok (.laload, 1) := by decide +kernel
theorem dX12_isOpened_17 : decode cX12_isOpened 17 = .ok (.lconst 0, 1) := by decide +kernel
theorem dX12_isOpened_18 : decode cX12_isOpened 18 = .ok (.lcmp, 1) := by decide +kernel
theorem dX12_isOpened_19 : decode cX12_isOpened 19 = .ok (.ifCond .le 17, 3) := by decide +kernel
theorem dX12_isOpened_22 : decode cX12_isOpened 22 = .ok (.aload_n 0, 1) := by decide +kernel
theorem dX12_isOpened_23 : decode cX12_isOpened 23 = .ok (.getfield 145, 3) := by decide +kernel
theorem dX12_isOpened_26 : decode cX12_isOpened 26 = .ok (.iload_n 3, 1) := by decide +kernel
theorem dX12_isOpened_27 : decode cX12_isOpened 27 = .ok (.iaload, 1) := by decide +kernel
theorem dX12_isOpened_28 : decode cX12_isOpened 28 = .ok (.iload_n 1, 1) := by decide +kernel
theorem dX12_isOpened_29 : decode cX12_isOpened 29 = .ok (.if_icmp .ne 7, 3) := by decide +kernel
theorem dX12_isOpened_32 : decode cX12_isOpened 32 = .ok (.iconst 1, 1) := by decide +kernel
theorem dX12_isOpened_33 : decode cX12_isOpened 33 = .ok (.goto 4, 3) := by decide +kernel
theorem dX12_isOpened_36 : decode cX12_isOpened 36 = .ok (.iconst 0, 1) := by decide +kernel
theorem dX12_isOpened_37 : decode cX12_isOpened 37 = .ok (.ior, 1) := by decide +kernel
theorem dX12_isOpened_38 : decode cX12_isOpened 38 = .ok (.istore_n 2, 1) := by decide +kernel
theorem dX12_isOpened_39 : decode cX12_isOpened 39 = .ok (.iinc 3 1, 3) := by decide +kernel
theorem dX12_isOpened_42 : decode cX12_isOpened 42 = .ok (.goto (-38), 3) := by decide +kernel
theorem dX12_isOpened_45 : decode cX12_isOpened 45 = .ok (.iload_n 2, 1) := by decide +kernel
theorem dX12_isOpened_46 : decode cX12_isOpened 46 = .ok (.ireturn, 1) := by decide +kernel
set_option maxRecDepth 100000 in
set_option maxHeartbeats 4000000 in
theorem c_X12_isOpened (l : Launch) (D : va_G) (t : Nat → ClassId) (h0 : Nat) (L : Nat → Nat) (σ : HS) (hO : OK ph τ0 σ) (hM : MdI h0 L σ) (k : Int32) (sz : Nat) : HMi ph τ0 l D t yX12_isOpened cX12_isOpened 4 (some .boolean) ({ frames := 0, cells := 0, slots := 0, locals := 0 }) σ sz [.ref h0, .int k] 0 0 (fun r σ' => MdI h0 L σ' ∧ σ' = σ ∧ (0 ≤ r.toInt ∧ r.toInt ≤ 1)) := by
  refine h_go hO (by decide) (Nat.le_of_ble_eq_true rfl) ?_
  intro p e s m below meth c ls A hF hr hlk hAe hH0 hA hl
  unfold hB
  rw [hAe]
  clear hAe
  have hF : FX p m c cX12_isOpened 4 s _ RX12 D t := hF
  have hx := hF.1.1
  have hb := hF.1.2.1
  have hH : MT D t A s.heap h0 L σ s.heap [] := ⟨hH0, hM⟩
  have hle : HLe σ σ := HLe.rf
  have k_0 : (0 : Int32).toInt = 0 := rfl
  have k_1 : (1 : Int32).toInt = 1 := rfl
  have k_40 : (40 : Int32).toInt = 40 := rfl
  have rg_1 := i_range k
  have hl : lv_has ls 4 [(0, .ref h0), (1, .int k)] := hl
  refine lv_iconst (v := 0) hx hb dX12_isOpened_0 (by decide) ?_
  refine lv_istore_n (lv' := [(2, .int 0), (0, .ref h0), (1, .int k)]) hx hb dX12_isOpened_1 rfl hl (by decide) rfl (fun ls hl => ?_)
  refine lv_iconst (v := 0) hx hb dX12_isOpened_2 (by decide) ?_
  refine lv_istore_n (lv' := [(3, .int 0), (2, .int 0), (0, .ref h0), (1, .int k)]) hx hb dX12_isOpened_3 rfl hl (by decide) rfl (fun ls hl => ?_)
  have hl : lv_has ls 4 [(3, .int 0), (2, .int 0), (1, .int k), (0, .ref h0)] := lv_sub hl [0, 1, 3, 2] rfl
  refine m_loop (β := Int32 × Int32) (L0 := fun x => [(3, .int x.1), (2, .int x.2), (1, .int k), (0, .ref h0)]) (I := fun x σ2 => σ = σ2 ∧ (0 ≤ x.1.toInt ∧ x.1.toInt ≤ 40 ∧ 0 ≤ x.2.toInt ∧ x.2.toInt ≤ 1)) (fun x σ2 => (40 - x.1.toInt).toNat) (0, 0) hl ⟨rfl, by (try dsimp only); omega⟩ hH (fun x σL ls H locs hl hI hH ih => ?_)
  obtain ⟨x293, x294⟩ := x
  obtain ⟨hsL, hI⟩ := hI
  subst hsL
  have hl : lv_has ls 4 [(3, .int x293), (2, .int x294), (1, .int k), (0, .ref h0)] := hl
  have hI : 0 ≤ x293.toInt ∧ x293.toInt ≤ 40 ∧ 0 ≤ x294.toInt ∧ x294.toInt ≤ 1 := hI
  have rg_x293 := i_range x293
  have rg_x294 := i_range x294
  refine lv_iload_n hx hb dX12_isOpened_4 rfl (lv_at hl 0 rfl) ?_
  refine lv_bipush (v := 40) hx hb dX12_isOpened_5 (by decide) ?_
  refine lv_icmp_ge (tgt := 45) hx hb dX12_isOpened_7 rfl (fun h295 => ?_) (fun h295 => ?_)
  · have ch295 := i_le h295
    refine lv_iload_n hx hb dX12_isOpened_45 rfl (lv_at hl 1 rfl) ?_
    exact h_reti hF hr hlk (i_01 (by omega)).1 dX12_isOpened_46 hH.1 hle ⟨hH.2, rfl, by (try dsimp only); omega⟩
  · have ch295 := i_nle h295
    refine lv_iload_n hx hb dX12_isOpened_10 rfl (lv_at hl 1 rfl) ?_
    refine lv_aload_n hx hb dX12_isOpened_11 rfl (lv_at hl 3 rfl) ?_
    refine m_getA 41 hF hH fk_X12_139 dX12_isOpened_12 (by decide) rfl ?_
    refine lv_iload_n hx hb dX12_isOpened_15 rfl (lv_at hl 0 rfl) ?_
    refine m_lald 41 40 hF hH dX12_isOpened_16 (by decide) rfl rfl (by omega) (by omega) (fun z296 ez296 => ?_)
    refine lv_lconst (v := 0) hx hb dX12_isOpened_17 (by decide) ?_
    refine W.lcmp hx hb dX12_isOpened_18 ?_
    refine lv_topi (fun z297 ez297 => ?_)
    refine lv_if_le (tgt := 36) hx hb dX12_isOpened_19 rfl (fun h298 => ?_) (fun h298 => ?_)
    · have ch298 := i_le h298
      refine lv_iconst (v := 0) hx hb dX12_isOpened_36 (by decide) ?_
      refine lv_ior hx hb dX12_isOpened_37 ?_
      refine lv_topi (fun z299 ez299 => ?_)
      try have hz299 := i_or01 ez299 (by omega) (by omega)
      refine lv_istore_n (lv' := [(2, .int z299), (3, .int x293), (1, .int k), (0, .ref h0)]) hx hb dX12_isOpened_38 rfl hl (by decide) rfl (fun ls hl => ?_)
      obtain ⟨z300, ez300⟩ : ∃ z : Int32, z = x293 + Int32.ofInt 1 := ⟨_, rfl⟩
      have hz300 := i_add ez300 (by rw [show (Int32.ofInt 1).toInt = 1 from rfl]; omega) (by rw [show (Int32.ofInt 1).toInt = 1 from rfl]; omega)
      rw [show (Int32.ofInt 1).toInt = 1 from rfl] at hz300
      refine lv_iinc (lv' := [(3, .int z300), (2, .int z299), (1, .int k), (0, .ref h0)]) (k := 1) (v := z300) hx hb dX12_isOpened_39 hl rfl ez300.symm (by decide) rfl (fun ls hl => ?_)
      refine lv_goto (tgt := 4) hx hb dX12_isOpened_42 rfl ?_
      have hl : lv_has ls 4 [(3, .int z300), (2, .int z299), (1, .int k), (0, .ref h0)] := lv_sub hl [0, 1, 2, 3] rfl
      exact ih (z300, z299) σ ls H locs (by (try dsimp only); omega) hl ⟨rfl, by (try dsimp only); omega⟩ hH
    · have ch298 := i_nle h298
      refine lv_aload_n hx hb dX12_isOpened_22 rfl (lv_at hl 3 rfl) ?_
      refine m_getA 43 hF hH fk_X12_145 dX12_isOpened_23 (by decide) rfl ?_
      refine lv_iload_n hx hb dX12_isOpened_26 rfl (lv_at hl 0 rfl) ?_
      refine m_iald 43 40 hF hH dX12_isOpened_27 (by decide) rfl rfl 0 79 rfl rfl (by omega) (by omega) (fun z301 ez301 vz301 => ?_)
      have wz301 := i_eq ez301
      refine lv_iload_n hx hb dX12_isOpened_28 rfl (lv_at hl 2 rfl) ?_
      refine lv_icmp_ne (tgt := 36) hx hb dX12_isOpened_29 rfl (fun h302 => ?_) (fun h302 => ?_)
      · have ch302 := i_ne h302
        refine lv_iconst (v := 0) hx hb dX12_isOpened_36 (by decide) ?_
        refine lv_ior hx hb dX12_isOpened_37 ?_
        refine lv_topi (fun z303 ez303 => ?_)
        try have hz303 := i_or01 ez303 (by omega) (by omega)
        refine lv_istore_n (lv' := [(2, .int z303), (3, .int x293), (1, .int k), (0, .ref h0)]) hx hb dX12_isOpened_38 rfl hl (by decide) rfl (fun ls hl => ?_)
        obtain ⟨z304, ez304⟩ : ∃ z : Int32, z = x293 + Int32.ofInt 1 := ⟨_, rfl⟩
        have hz304 := i_add ez304 (by rw [show (Int32.ofInt 1).toInt = 1 from rfl]; omega) (by rw [show (Int32.ofInt 1).toInt = 1 from rfl]; omega)
        rw [show (Int32.ofInt 1).toInt = 1 from rfl] at hz304
        refine lv_iinc (lv' := [(3, .int z304), (2, .int z303), (1, .int k), (0, .ref h0)]) (k := 1) (v := z304) hx hb dX12_isOpened_39 hl rfl ez304.symm (by decide) rfl (fun ls hl => ?_)
        refine lv_goto (tgt := 4) hx hb dX12_isOpened_42 rfl ?_
        have hl : lv_has ls 4 [(3, .int z304), (2, .int z303), (1, .int k), (0, .ref h0)] := lv_sub hl [0, 1, 2, 3] rfl
        exact ih (z304, z303) σ ls H locs (by (try dsimp only); omega) hl ⟨rfl, by (try dsimp only); omega⟩ hH
      · have ch302 := i_eq h302
        refine lv_iconst (v := 1) hx hb dX12_isOpened_32 (by decide) ?_
        refine lv_goto (tgt := 37) hx hb dX12_isOpened_33 rfl ?_
        refine lv_ior hx hb dX12_isOpened_37 ?_
        refine lv_topi (fun z305 ez305 => ?_)
        try have hz305 := i_or01 ez305 (by omega) (by omega)
        refine lv_istore_n (lv' := [(2, .int z305), (3, .int x293), (1, .int k), (0, .ref h0)]) hx hb dX12_isOpened_38 rfl hl (by decide) rfl (fun ls hl => ?_)
        obtain ⟨z306, ez306⟩ : ∃ z : Int32, z = x293 + Int32.ofInt 1 := ⟨_, rfl⟩
        have hz306 := i_add ez306 (by rw [show (Int32.ofInt 1).toInt = 1 from rfl]; omega) (by rw [show (Int32.ofInt 1).toInt = 1 from rfl]; omega)
        rw [show (Int32.ofInt 1).toInt = 1 from rfl] at hz306
        refine lv_iinc (lv' := [(3, .int z306), (2, .int z305), (1, .int k), (0, .ref h0)]) (k := 1) (v := z306) hx hb dX12_isOpened_39 hl rfl ez306.symm (by decide) rfl (fun ls hl => ?_)
        refine lv_goto (tgt := 4) hx hb dX12_isOpened_42 rfl ?_
        have hl : lv_has ls 4 [(3, .int z306), (2, .int z305), (1, .int k), (0, .ref h0)] := lv_sub hl [0, 1, 2, 3] rfl
        exact ih (z306, z305) σ ls H locs (by (try dsimp only); omega) hl ⟨rfl, by (try dsimp only); omega⟩ hH
theorem dX12_openWith_0 : decode cX12_openWith 0 = .ok (.iconst 0, 1) := by decide +kernel
theorem dX12_openWith_1 : decode cX12_openWith 1 = .ok (.istore_n 3, 1) := by decide +kernel
theorem dX12_openWith_2 : decode cX12_openWith 2 = .ok (.iload_n 3, 1) := by decide +kernel
theorem dX12_openWith_3 : decode cX12_openWith 3 = .ok (.bipush 40, 2) := by decide +kernel
theorem dX12_openWith_5 : decode cX12_openWith 5 = .ok (.if_icmp .ge 70, 3) := by decide +kernel
theorem dX12_openWith_8 : decode cX12_openWith 8 = .ok (.aload_n 0, 1) := by decide +kernel
theorem dX12_openWith_9 : decode cX12_openWith 9 = .ok (.getfield 139, 3) := by decide +kernel
theorem dX12_openWith_12 : decode cX12_openWith 12 = .ok (.iload_n 3, 1) := by decide +kernel
theorem dX12_openWith_13 : decode cX12_openWith 13 = .ok (.laload, 1) := by decide +kernel
theorem dX12_openWith_14 : decode cX12_openWith 14 = .ok (.lconst 0, 1) := by decide +kernel
theorem dX12_openWith_15 : decode cX12_openWith 15 = .ok (.lcmp, 1) := by decide +kernel
theorem dX12_openWith_16 : decode cX12_openWith 16 = .ok (.ifCond .le 17, 3) := by decide +kernel
theorem dX12_openWith_19 : decode cX12_openWith 19 = .ok (.aload_n 0, 1) := by decide +kernel
theorem dX12_openWith_20 : decode cX12_openWith 20 = .ok (.getfield 145, 3) := by decide +kernel
theorem dX12_openWith_23 : decode cX12_openWith 23 = .ok (.iload_n 3, 1) := by decide +kernel
theorem dX12_openWith_24 : decode cX12_openWith 24 = .ok (.iaload, 1) := by decide +kernel
theorem dX12_openWith_25 : decode cX12_openWith 25 = .ok (.iload_n 1, 1) := by decide +kernel
theorem dX12_openWith_26 : decode cX12_openWith 26 = .ok (.if_icmp .ne 7, 3) := by decide +kernel
theorem dX12_openWith_29 : decode cX12_openWith 29 = .ok (.iconst 1, 1) := by decide +kernel
theorem dX12_openWith_30 : decode cX12_openWith 30 = .ok (.goto 4, 3) := by decide +kernel
theorem dX12_openWith_33 : decode cX12_openWith 33 = .ok (.iconst 0, 1) := by decide +kernel
theorem dX12_openWith_34 : decode cX12_openWith 34 = .ok (.istore 4, 2) := by decide +kernel
theorem dX12_openWith_36 : decode cX12_openWith 36 = .ok (.iload 4, 2) := by decide +kernel
theorem dX12_openWith_38 : decode cX12_openWith 38 = .ok (.ifCond .eq 31, 3) := by decide +kernel
theorem dX12_openWith_41 : decode cX12_openWith 41 = .ok (.iload_n 2, 1) := by decide +kernel
theorem dX12_openWith_42 : decode cX12_openWith 42 = .ok (.ifCond .ge 15, 3) := by decide +kernel
theorem dX12_openWith_45 : decode cX12_openWith 45 = .ok (.aload_n 0, 1) := by decide +kernel
theorem dX12_openWith_46 : decode cX12_openWith 46 = .ok (.getfield 157, 3) := by decide +kernel
theorem dX12_openWith_49 : decode cX12_openWith 49 = .ok (.iload_n 3, 1) := by decide +kernel
theorem dX12_openWith_50 : decode cX12_openWith 50 = .ok (.baload, 1) := by decide +kernel
theorem dX12_openWith_51 : decode cX12_openWith 51 = .ok (.ifCond .eq 18, 3) := by decide +kernel
theorem dX12_openWith_54 : decode cX12_openWith 54 = .ok (.goto 13, 3) := by decide +kernel
theorem dX12_openWith_57 : decode cX12_openWith 57 = .ok (.aload_n 0, 1) := by decide +kernel
theorem dX12_openWith_58 : decode cX12_openWith 58 = .ok (.getfield 154, 3) := by decide +kernel
theorem dX12_openWith_61 : decode cX12_openWith 61 = .ok (.iload_n 3, 1) := by decide +kernel
theorem dX12_openWith_62 : decode cX12_openWith 62 = .ok (.iaload, 1) := by decide +kernel
theorem dX12_openWith_63 : decode cX12_openWith 63 = .ok (.iload_n 2, 1) := by decide +kernel
theorem dX12_openWith_64 : decode cX12_openWith 64 = .ok (.if_icmp .ne 5, 3) := by decide +kernel
theorem dX12_openWith_67 : decode cX12_openWith 67 = .ok (.iload_n 3, 1) := by decide +kernel
theorem dX12_openWith_68 : decode cX12_openWith 68 = .ok (.ireturn, 1) := by decide +kernel
theorem dX12_openWith_69 : decode cX12_openWith 69 = .ok (.iinc 3 1, 3) := by decide +kernel
theorem dX12_openWith_72 : decode cX12_openWith 72 = .ok (.goto (-70), 3) := by decide +kernel
theorem dX12_openWith_75 : decode cX12_openWith 75 = .ok (.iconst (-1), 1) := by decide +kernel
theorem dX12_openWith_76 : decode cX12_openWith 76 = .ok (.ireturn, 1) := by decide +kernel
set_option maxRecDepth 100000 in
set_option maxHeartbeats 4000000 in
theorem c_X12_openWith (l : Launch) (D : va_G) (t : Nat → ClassId) (h0 : Nat) (L : Nat → Nat) (σ : HS) (hO : OK ph τ0 σ) (hM : MdI h0 L σ) (k v : Int32) (sz : Nat) : HMi ph τ0 l D t yX12_openWith cX12_openWith 5 (some .int) ({ frames := 0, cells := 0, slots := 0, locals := 0 }) σ sz [.ref h0, .int k, .int v] 0 0 (fun r σ' => MdI h0 L σ' ∧ σ' = σ ∧ (-1 ≤ r.toInt ∧ r.toInt ≤ 39)) := by
  refine h_go hO (by decide) (Nat.le_of_ble_eq_true rfl) ?_
  intro p e s m below meth c ls A hF hr hlk hAe hH0 hA hl
  unfold hB
  rw [hAe]
  clear hAe
  have hF : FX p m c cX12_openWith 5 s _ RX12 D t := hF
  have hx := hF.1.1
  have hb := hF.1.2.1
  have hH : MT D t A s.heap h0 L σ s.heap [] := ⟨hH0, hM⟩
  have hle : HLe σ σ := HLe.rf
  have k_m1 : ((-1) : Int32).toInt = (-1) := rfl
  have k_0 : (0 : Int32).toInt = 0 := rfl
  have k_1 : (1 : Int32).toInt = 1 := rfl
  have k_40 : (40 : Int32).toInt = 40 := rfl
  have rg_1 := i_range k
  have rg_2 := i_range v
  have hl : lv_has ls 5 [(0, .ref h0), (1, .int k), (2, .int v)] := hl
  refine lv_iconst (v := 0) hx hb dX12_openWith_0 (by decide) ?_
  refine lv_istore_n (lv' := [(3, .int 0), (0, .ref h0), (1, .int k), (2, .int v)]) hx hb dX12_openWith_1 rfl hl (by decide) rfl (fun ls hl => ?_)
  have hl : lv_has ls 5 [(3, .int 0), (2, .int v), (1, .int k), (0, .ref h0)] := lv_sub hl [0, 3, 2, 1] rfl
  refine m_loop (β := Int32) (L0 := fun x => [(3, .int x), (2, .int v), (1, .int k), (0, .ref h0)]) (I := fun x σ2 => σ = σ2 ∧ (0 ≤ x.toInt ∧ x.toInt ≤ 40)) (fun x σ2 => (40 - x.toInt).toNat) (0) hl ⟨rfl, by (try dsimp only); omega⟩ hH (fun x σL ls H locs hl hI hH ih => ?_)
  obtain ⟨x307, hx1⟩ : ∃ y, y = x := ⟨_, rfl⟩
  subst hx1
  obtain ⟨hsL, hI⟩ := hI
  subst hsL
  have hl : lv_has ls 5 [(3, .int x307), (2, .int v), (1, .int k), (0, .ref h0)] := hl
  have hI : 0 ≤ x307.toInt ∧ x307.toInt ≤ 40 := hI
  have rg_x307 := i_range x307
  refine lv_iload_n hx hb dX12_openWith_2 rfl (lv_at hl 0 rfl) ?_
  refine lv_bipush (v := 40) hx hb dX12_openWith_3 (by decide) ?_
  refine lv_icmp_ge (tgt := 75) hx hb dX12_openWith_5 rfl (fun h308 => ?_) (fun h308 => ?_)
  · have ch308 := i_le h308
    refine lv_iconst (v := (-1)) hx hb dX12_openWith_75 (by decide) ?_
    exact h_reti hF hr hlk rfl dX12_openWith_76 hH.1 hle ⟨hH.2, rfl, by (try dsimp only); omega⟩
  · have ch308 := i_nle h308
    refine lv_aload_n hx hb dX12_openWith_8 rfl (lv_at hl 3 rfl) ?_
    refine m_getA 41 hF hH fk_X12_139 dX12_openWith_9 (by decide) rfl ?_
    refine lv_iload_n hx hb dX12_openWith_12 rfl (lv_at hl 0 rfl) ?_
    refine m_lald 41 40 hF hH dX12_openWith_13 (by decide) rfl rfl (by omega) (by omega) (fun z309 ez309 => ?_)
    refine lv_lconst (v := 0) hx hb dX12_openWith_14 (by decide) ?_
    refine W.lcmp hx hb dX12_openWith_15 ?_
    refine lv_topi (fun z310 ez310 => ?_)
    refine lv_if_le (tgt := 33) hx hb dX12_openWith_16 rfl (fun h311 => ?_) (fun h311 => ?_)
    · have ch311 := i_le h311
      refine lv_iconst (v := 0) hx hb dX12_openWith_33 (by decide) ?_
      refine lv_istore (lv' := [(4, .int 0), (3, .int x307), (2, .int v), (1, .int k), (0, .ref h0)]) hx hb dX12_openWith_34 hl (by decide) rfl (fun ls hl => ?_)
      refine lv_iload hx hb dX12_openWith_36 (lv_at hl 0 rfl) ?_
      refine lv_if_eq (tgt := 69) hx hb dX12_openWith_38 rfl (fun h312 => ?_) (fun h312 => ?_)
      · have ch312 := i_eq h312
        obtain ⟨z313, ez313⟩ : ∃ z : Int32, z = x307 + Int32.ofInt 1 := ⟨_, rfl⟩
        have hz313 := i_add ez313 (by rw [show (Int32.ofInt 1).toInt = 1 from rfl]; omega) (by rw [show (Int32.ofInt 1).toInt = 1 from rfl]; omega)
        rw [show (Int32.ofInt 1).toInt = 1 from rfl] at hz313
        refine lv_iinc (lv' := [(3, .int z313), (4, .int 0), (2, .int v), (1, .int k), (0, .ref h0)]) (k := 1) (v := z313) hx hb dX12_openWith_69 hl rfl ez313.symm (by decide) rfl (fun ls hl => ?_)
        refine lv_goto (tgt := 2) hx hb dX12_openWith_72 rfl ?_
        have hl : lv_has ls 5 [(3, .int z313), (2, .int v), (1, .int k), (0, .ref h0)] := lv_sub hl [0, 2, 3, 4] rfl
        exact ih (z313) σ ls H locs (by (try dsimp only); omega) hl ⟨rfl, by (try dsimp only); omega⟩ hH
      · have ch312 := i_ne h312
        refine lv_iload_n hx hb dX12_openWith_41 rfl (lv_at hl 2 rfl) ?_
        refine lv_if_ge (tgt := 57) hx hb dX12_openWith_42 rfl (fun h314 => ?_) (fun h314 => ?_)
        · have ch314 := i_le h314
          refine lv_aload_n hx hb dX12_openWith_57 rfl (lv_at hl 4 rfl) ?_
          refine m_getA 46 hF hH fk_X12_154 dX12_openWith_58 (by decide) rfl ?_
          refine lv_iload_n hx hb dX12_openWith_61 rfl (lv_at hl 1 rfl) ?_
          refine m_iald 46 40 hF hH dX12_openWith_62 (by decide) rfl rfl 0 255 rfl rfl (by omega) (by omega) (fun z315 ez315 vz315 => ?_)
          have wz315 := i_eq ez315
          refine lv_iload_n hx hb dX12_openWith_63 rfl (lv_at hl 2 rfl) ?_
          refine lv_icmp_ne (tgt := 69) hx hb dX12_openWith_64 rfl (fun h316 => ?_) (fun h316 => ?_)
          · have ch316 := i_ne h316
            obtain ⟨z317, ez317⟩ : ∃ z : Int32, z = x307 + Int32.ofInt 1 := ⟨_, rfl⟩
            have hz317 := i_add ez317 (by rw [show (Int32.ofInt 1).toInt = 1 from rfl]; omega) (by rw [show (Int32.ofInt 1).toInt = 1 from rfl]; omega)
            rw [show (Int32.ofInt 1).toInt = 1 from rfl] at hz317
            refine lv_iinc (lv' := [(3, .int z317), (4, .int 0), (2, .int v), (1, .int k), (0, .ref h0)]) (k := 1) (v := z317) hx hb dX12_openWith_69 hl rfl ez317.symm (by decide) rfl (fun ls hl => ?_)
            refine lv_goto (tgt := 2) hx hb dX12_openWith_72 rfl ?_
            have hl : lv_has ls 5 [(3, .int z317), (2, .int v), (1, .int k), (0, .ref h0)] := lv_sub hl [0, 2, 3, 4] rfl
            exact ih (z317) σ ls H locs (by (try dsimp only); omega) hl ⟨rfl, by (try dsimp only); omega⟩ hH
          · have ch316 := i_eq h316
            refine lv_iload_n hx hb dX12_openWith_67 rfl (lv_at hl 1 rfl) ?_
            exact h_reti hF hr hlk rfl dX12_openWith_68 hH.1 hle ⟨hH.2, rfl, by (try dsimp only); omega⟩
        · have ch314 := i_nle h314
          refine lv_aload_n hx hb dX12_openWith_45 rfl (lv_at hl 4 rfl) ?_
          refine m_getA 47 hF hH fk_X12_157 dX12_openWith_46 (by decide) rfl ?_
          refine lv_iload_n hx hb dX12_openWith_49 rfl (lv_at hl 1 rfl) ?_
          refine m_zald 47 40 hF hH dX12_openWith_50 (by decide) rfl rfl 0 1 rfl rfl (by omega) (by omega) (fun z318 ez318 vz318 => ?_)
          have wz318 := i_eq ez318
          refine lv_if_eq (tgt := 69) hx hb dX12_openWith_51 rfl (fun h319 => ?_) (fun h319 => ?_)
          · have ch319 := i_eq h319
            obtain ⟨z320, ez320⟩ : ∃ z : Int32, z = x307 + Int32.ofInt 1 := ⟨_, rfl⟩
            have hz320 := i_add ez320 (by rw [show (Int32.ofInt 1).toInt = 1 from rfl]; omega) (by rw [show (Int32.ofInt 1).toInt = 1 from rfl]; omega)
            rw [show (Int32.ofInt 1).toInt = 1 from rfl] at hz320
            refine lv_iinc (lv' := [(3, .int z320), (4, .int 0), (2, .int v), (1, .int k), (0, .ref h0)]) (k := 1) (v := z320) hx hb dX12_openWith_69 hl rfl ez320.symm (by decide) rfl (fun ls hl => ?_)
            refine lv_goto (tgt := 2) hx hb dX12_openWith_72 rfl ?_
            have hl : lv_has ls 5 [(3, .int z320), (2, .int v), (1, .int k), (0, .ref h0)] := lv_sub hl [0, 2, 3, 4] rfl
            exact ih (z320) σ ls H locs (by (try dsimp only); omega) hl ⟨rfl, by (try dsimp only); omega⟩ hH
          · have ch319 := i_ne h319
            refine lv_goto (tgt := 67) hx hb dX12_openWith_54 rfl ?_
            refine lv_iload_n hx hb dX12_openWith_67 rfl (lv_at hl 1 rfl) ?_
            exact h_reti hF hr hlk rfl dX12_openWith_68 hH.1 hle ⟨hH.2, rfl, by (try dsimp only); omega⟩
    · have ch311 := i_nle h311
      refine lv_aload_n hx hb dX12_openWith_19 rfl (lv_at hl 3 rfl) ?_
      refine m_getA 43 hF hH fk_X12_145 dX12_openWith_20 (by decide) rfl ?_
      refine lv_iload_n hx hb dX12_openWith_23 rfl (lv_at hl 0 rfl) ?_
      refine m_iald 43 40 hF hH dX12_openWith_24 (by decide) rfl rfl 0 79 rfl rfl (by omega) (by omega) (fun z321 ez321 vz321 => ?_)
      have wz321 := i_eq ez321
      refine lv_iload_n hx hb dX12_openWith_25 rfl (lv_at hl 2 rfl) ?_
      refine lv_icmp_ne (tgt := 33) hx hb dX12_openWith_26 rfl (fun h322 => ?_) (fun h322 => ?_)
      · have ch322 := i_ne h322
        refine lv_iconst (v := 0) hx hb dX12_openWith_33 (by decide) ?_
        refine lv_istore (lv' := [(4, .int 0), (3, .int x307), (2, .int v), (1, .int k), (0, .ref h0)]) hx hb dX12_openWith_34 hl (by decide) rfl (fun ls hl => ?_)
        refine lv_iload hx hb dX12_openWith_36 (lv_at hl 0 rfl) ?_
        refine lv_if_eq (tgt := 69) hx hb dX12_openWith_38 rfl (fun h323 => ?_) (fun h323 => ?_)
        · have ch323 := i_eq h323
          obtain ⟨z324, ez324⟩ : ∃ z : Int32, z = x307 + Int32.ofInt 1 := ⟨_, rfl⟩
          have hz324 := i_add ez324 (by rw [show (Int32.ofInt 1).toInt = 1 from rfl]; omega) (by rw [show (Int32.ofInt 1).toInt = 1 from rfl]; omega)
          rw [show (Int32.ofInt 1).toInt = 1 from rfl] at hz324
          refine lv_iinc (lv' := [(3, .int z324), (4, .int 0), (2, .int v), (1, .int k), (0, .ref h0)]) (k := 1) (v := z324) hx hb dX12_openWith_69 hl rfl ez324.symm (by decide) rfl (fun ls hl => ?_)
          refine lv_goto (tgt := 2) hx hb dX12_openWith_72 rfl ?_
          have hl : lv_has ls 5 [(3, .int z324), (2, .int v), (1, .int k), (0, .ref h0)] := lv_sub hl [0, 2, 3, 4] rfl
          exact ih (z324) σ ls H locs (by (try dsimp only); omega) hl ⟨rfl, by (try dsimp only); omega⟩ hH
        · have ch323 := i_ne h323
          refine lv_iload_n hx hb dX12_openWith_41 rfl (lv_at hl 2 rfl) ?_
          refine lv_if_ge (tgt := 57) hx hb dX12_openWith_42 rfl (fun h325 => ?_) (fun h325 => ?_)
          · have ch325 := i_le h325
            refine lv_aload_n hx hb dX12_openWith_57 rfl (lv_at hl 4 rfl) ?_
            refine m_getA 46 hF hH fk_X12_154 dX12_openWith_58 (by decide) rfl ?_
            refine lv_iload_n hx hb dX12_openWith_61 rfl (lv_at hl 1 rfl) ?_
            refine m_iald 46 40 hF hH dX12_openWith_62 (by decide) rfl rfl 0 255 rfl rfl (by omega) (by omega) (fun z326 ez326 vz326 => ?_)
            have wz326 := i_eq ez326
            refine lv_iload_n hx hb dX12_openWith_63 rfl (lv_at hl 2 rfl) ?_
            refine lv_icmp_ne (tgt := 69) hx hb dX12_openWith_64 rfl (fun h327 => ?_) (fun h327 => ?_)
            · have ch327 := i_ne h327
              obtain ⟨z328, ez328⟩ : ∃ z : Int32, z = x307 + Int32.ofInt 1 := ⟨_, rfl⟩
              have hz328 := i_add ez328 (by rw [show (Int32.ofInt 1).toInt = 1 from rfl]; omega) (by rw [show (Int32.ofInt 1).toInt = 1 from rfl]; omega)
              rw [show (Int32.ofInt 1).toInt = 1 from rfl] at hz328
              refine lv_iinc (lv' := [(3, .int z328), (4, .int 0), (2, .int v), (1, .int k), (0, .ref h0)]) (k := 1) (v := z328) hx hb dX12_openWith_69 hl rfl ez328.symm (by decide) rfl (fun ls hl => ?_)
              refine lv_goto (tgt := 2) hx hb dX12_openWith_72 rfl ?_
              have hl : lv_has ls 5 [(3, .int z328), (2, .int v), (1, .int k), (0, .ref h0)] := lv_sub hl [0, 2, 3, 4] rfl
              exact ih (z328) σ ls H locs (by (try dsimp only); omega) hl ⟨rfl, by (try dsimp only); omega⟩ hH
            · have ch327 := i_eq h327
              refine lv_iload_n hx hb dX12_openWith_67 rfl (lv_at hl 1 rfl) ?_
              exact h_reti hF hr hlk rfl dX12_openWith_68 hH.1 hle ⟨hH.2, rfl, by (try dsimp only); omega⟩
          · have ch325 := i_nle h325
            refine lv_aload_n hx hb dX12_openWith_45 rfl (lv_at hl 4 rfl) ?_
            refine m_getA 47 hF hH fk_X12_157 dX12_openWith_46 (by decide) rfl ?_
            refine lv_iload_n hx hb dX12_openWith_49 rfl (lv_at hl 1 rfl) ?_
            refine m_zald 47 40 hF hH dX12_openWith_50 (by decide) rfl rfl 0 1 rfl rfl (by omega) (by omega) (fun z329 ez329 vz329 => ?_)
            have wz329 := i_eq ez329
            refine lv_if_eq (tgt := 69) hx hb dX12_openWith_51 rfl (fun h330 => ?_) (fun h330 => ?_)
            · have ch330 := i_eq h330
              obtain ⟨z331, ez331⟩ : ∃ z : Int32, z = x307 + Int32.ofInt 1 := ⟨_, rfl⟩
              have hz331 := i_add ez331 (by rw [show (Int32.ofInt 1).toInt = 1 from rfl]; omega) (by rw [show (Int32.ofInt 1).toInt = 1 from rfl]; omega)
              rw [show (Int32.ofInt 1).toInt = 1 from rfl] at hz331
              refine lv_iinc (lv' := [(3, .int z331), (4, .int 0), (2, .int v), (1, .int k), (0, .ref h0)]) (k := 1) (v := z331) hx hb dX12_openWith_69 hl rfl ez331.symm (by decide) rfl (fun ls hl => ?_)
              refine lv_goto (tgt := 2) hx hb dX12_openWith_72 rfl ?_
              have hl : lv_has ls 5 [(3, .int z331), (2, .int v), (1, .int k), (0, .ref h0)] := lv_sub hl [0, 2, 3, 4] rfl
              exact ih (z331) σ ls H locs (by (try dsimp only); omega) hl ⟨rfl, by (try dsimp only); omega⟩ hH
            · have ch330 := i_ne h330
              refine lv_goto (tgt := 67) hx hb dX12_openWith_54 rfl ?_
              refine lv_iload_n hx hb dX12_openWith_67 rfl (lv_at hl 1 rfl) ?_
              exact h_reti hF hr hlk rfl dX12_openWith_68 hH.1 hle ⟨hH.2, rfl, by (try dsimp only); omega⟩
      · have ch322 := i_eq h322
        refine lv_iconst (v := 1) hx hb dX12_openWith_29 (by decide) ?_
        refine lv_goto (tgt := 34) hx hb dX12_openWith_30 rfl ?_
        refine lv_istore (lv' := [(4, .int 1), (3, .int x307), (2, .int v), (1, .int k), (0, .ref h0)]) hx hb dX12_openWith_34 hl (by decide) rfl (fun ls hl => ?_)
        refine lv_iload hx hb dX12_openWith_36 (lv_at hl 0 rfl) ?_
        refine lv_if_eq (tgt := 69) hx hb dX12_openWith_38 rfl (fun h332 => ?_) (fun h332 => ?_)
        · have ch332 := i_eq h332
          obtain ⟨z333, ez333⟩ : ∃ z : Int32, z = x307 + Int32.ofInt 1 := ⟨_, rfl⟩
          have hz333 := i_add ez333 (by rw [show (Int32.ofInt 1).toInt = 1 from rfl]; omega) (by rw [show (Int32.ofInt 1).toInt = 1 from rfl]; omega)
          rw [show (Int32.ofInt 1).toInt = 1 from rfl] at hz333
          refine lv_iinc (lv' := [(3, .int z333), (4, .int 1), (2, .int v), (1, .int k), (0, .ref h0)]) (k := 1) (v := z333) hx hb dX12_openWith_69 hl rfl ez333.symm (by decide) rfl (fun ls hl => ?_)
          refine lv_goto (tgt := 2) hx hb dX12_openWith_72 rfl ?_
          have hl : lv_has ls 5 [(3, .int z333), (2, .int v), (1, .int k), (0, .ref h0)] := lv_sub hl [0, 2, 3, 4] rfl
          exact ih (z333) σ ls H locs (by (try dsimp only); omega) hl ⟨rfl, by (try dsimp only); omega⟩ hH
        · have ch332 := i_ne h332
          refine lv_iload_n hx hb dX12_openWith_41 rfl (lv_at hl 2 rfl) ?_
          refine lv_if_ge (tgt := 57) hx hb dX12_openWith_42 rfl (fun h334 => ?_) (fun h334 => ?_)
          · have ch334 := i_le h334
            refine lv_aload_n hx hb dX12_openWith_57 rfl (lv_at hl 4 rfl) ?_
            refine m_getA 46 hF hH fk_X12_154 dX12_openWith_58 (by decide) rfl ?_
            refine lv_iload_n hx hb dX12_openWith_61 rfl (lv_at hl 1 rfl) ?_
            refine m_iald 46 40 hF hH dX12_openWith_62 (by decide) rfl rfl 0 255 rfl rfl (by omega) (by omega) (fun z335 ez335 vz335 => ?_)
            have wz335 := i_eq ez335
            refine lv_iload_n hx hb dX12_openWith_63 rfl (lv_at hl 2 rfl) ?_
            refine lv_icmp_ne (tgt := 69) hx hb dX12_openWith_64 rfl (fun h336 => ?_) (fun h336 => ?_)
            · have ch336 := i_ne h336
              obtain ⟨z337, ez337⟩ : ∃ z : Int32, z = x307 + Int32.ofInt 1 := ⟨_, rfl⟩
              have hz337 := i_add ez337 (by rw [show (Int32.ofInt 1).toInt = 1 from rfl]; omega) (by rw [show (Int32.ofInt 1).toInt = 1 from rfl]; omega)
              rw [show (Int32.ofInt 1).toInt = 1 from rfl] at hz337
              refine lv_iinc (lv' := [(3, .int z337), (4, .int 1), (2, .int v), (1, .int k), (0, .ref h0)]) (k := 1) (v := z337) hx hb dX12_openWith_69 hl rfl ez337.symm (by decide) rfl (fun ls hl => ?_)
              refine lv_goto (tgt := 2) hx hb dX12_openWith_72 rfl ?_
              have hl : lv_has ls 5 [(3, .int z337), (2, .int v), (1, .int k), (0, .ref h0)] := lv_sub hl [0, 2, 3, 4] rfl
              exact ih (z337) σ ls H locs (by (try dsimp only); omega) hl ⟨rfl, by (try dsimp only); omega⟩ hH
            · have ch336 := i_eq h336
              refine lv_iload_n hx hb dX12_openWith_67 rfl (lv_at hl 1 rfl) ?_
              exact h_reti hF hr hlk rfl dX12_openWith_68 hH.1 hle ⟨hH.2, rfl, by (try dsimp only); omega⟩
          · have ch334 := i_nle h334
            refine lv_aload_n hx hb dX12_openWith_45 rfl (lv_at hl 4 rfl) ?_
            refine m_getA 47 hF hH fk_X12_157 dX12_openWith_46 (by decide) rfl ?_
            refine lv_iload_n hx hb dX12_openWith_49 rfl (lv_at hl 1 rfl) ?_
            refine m_zald 47 40 hF hH dX12_openWith_50 (by decide) rfl rfl 0 1 rfl rfl (by omega) (by omega) (fun z338 ez338 vz338 => ?_)
            have wz338 := i_eq ez338
            refine lv_if_eq (tgt := 69) hx hb dX12_openWith_51 rfl (fun h339 => ?_) (fun h339 => ?_)
            · have ch339 := i_eq h339
              obtain ⟨z340, ez340⟩ : ∃ z : Int32, z = x307 + Int32.ofInt 1 := ⟨_, rfl⟩
              have hz340 := i_add ez340 (by rw [show (Int32.ofInt 1).toInt = 1 from rfl]; omega) (by rw [show (Int32.ofInt 1).toInt = 1 from rfl]; omega)
              rw [show (Int32.ofInt 1).toInt = 1 from rfl] at hz340
              refine lv_iinc (lv' := [(3, .int z340), (4, .int 1), (2, .int v), (1, .int k), (0, .ref h0)]) (k := 1) (v := z340) hx hb dX12_openWith_69 hl rfl ez340.symm (by decide) rfl (fun ls hl => ?_)
              refine lv_goto (tgt := 2) hx hb dX12_openWith_72 rfl ?_
              have hl : lv_has ls 5 [(3, .int z340), (2, .int v), (1, .int k), (0, .ref h0)] := lv_sub hl [0, 2, 3, 4] rfl
              exact ih (z340) σ ls H locs (by (try dsimp only); omega) hl ⟨rfl, by (try dsimp only); omega⟩ hH
            · have ch339 := i_ne h339
              refine lv_goto (tgt := 67) hx hb dX12_openWith_54 rfl ?_
              refine lv_iload_n hx hb dX12_openWith_67 rfl (lv_at hl 1 rfl) ?_
              exact h_reti hF hr hlk rfl dX12_openWith_68 hH.1 hle ⟨hH.2, rfl, by (try dsimp only); omega⟩

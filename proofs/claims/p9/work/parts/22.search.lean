theorem dX12_count_0 : decode cX12_count 0 = .ok (.iconst 0, 1) := by decide +kernel
theorem dX12_count_1 : decode cX12_count 1 = .ok (.istore_n 2, 1) := by decide +kernel
theorem dX12_count_2 : decode cX12_count 2 = .ok (.iconst 0, 1) := by decide +kernel
theorem dX12_count_3 : decode cX12_count 3 = .ok (.istore_n 3, 1) := by decide +kernel
theorem dX12_count_4 : decode cX12_count 4 = .ok (.iload_n 3, 1) := by decide +kernel
theorem dX12_count_5 : decode cX12_count 5 = .ok (.aload_n 1, 1) := by decide +kernel
theorem dX12_count_6 : decode cX12_count 6 = .ok (.arraylength, 1) := by decide +kernel
theorem dX12_count_7 : decode cX12_count 7 = .ok (.if_icmp .ge 25, 3) := by decide +kernel
theorem dX12_count_10 : decode cX12_count 10 = .ok (.iload_n 2, 1) := by decide +kernel
theorem dX12_count_11 : decode cX12_count 11 = .ok (.aload_n 1, 1) := by decide +kernel
theorem dX12_count_12 : decode cX12_count 12 = .ok (.iload_n 3, 1) := by decide +kernel
theorem dX12_count_13 : decode cX12_count 13 = .ok (.laload, 1) := by decide +kernel
theorem dX12_count_14 : decode cX12_count 14 = .ok (.lconst 0, 1) := by decide +kernel
theorem dX12_count_15 : decode cX12_count 15 = .ok (.lcmp, 1) := by decide +kernel
theorem dX12_count_16 : decode cX12_count 16 = .ok (.ifCond .le 7, 3) := by decide +kernel
theorem dX12_count_19 : decode cX12_count 19 = .ok (.iconst 1, 1) := by decide +kernel
theorem dX12_count_20 : decode cX12_count 20 = .ok (.goto 4, 3) := by decide +kernel
theorem dX12_count_23 : decode cX12_count 23 = .ok (.iconst 0, 1) := by decide +kernel
theorem dX12_count_24 : decode cX12_count 24 = .ok (.iadd, 1) := by decide +kernel
theorem dX12_count_25 : decode cX12_count 25 = .ok (.istore_n 2, 1) := by decide +kernel
theorem dX12_count_26 : decode cX12_count 26 = .ok (.iinc 3 1, 3) := by decide +kernel
theorem dX12_count_29 : decode cX12_count 29 = .ok (.goto (-25), 3) := by decide +kernel
theorem dX12_count_32 : decode cX12_count 32 = .ok (.iload_n 2, 1) := by decide +kernel
theorem dX12_count_33 : decode cX12_count 33 = .ok (.ireturn, 1) := by decide +kernel
set_option maxRecDepth 100000 in
set_option maxHeartbeats 4000000 in
theorem c_X12_count (l : Launch) (D : va_G) (t : Nat → ClassId) (h0 : Nat) (L : Nat → Nat) (σ : HS) (hO : OK ph τ0 σ) (hM : MdI h0 L σ) (j N : Nat) (hj : j < 80) (hp : ph (30 + j) = 22) (hN : lnL.getD j 0 = N) (hN2 : N < 2 ^ 31) (sz : Nat) : HMi ph τ0 l D t yX12_count cX12_count 4 (some .int) ({ frames := 0, cells := 0, slots := 0, locals := 0 }) σ sz [.ref h0, .ref (L j)] 0 0 (fun r σ' => MdI h0 L σ' ∧ σ' = σ ∧ ((0 ≤ r.toInt ∧ r.toInt ≤ N) ∧ ((∀ i : Nat, i < N → 0 < (sJ σ (L j) i).toInt) → r.toInt = N))) := by
  refine h_go hO (by decide) (Nat.le_of_ble_eq_true rfl) ?_
  intro p e s m below meth c ls A hF hr hlk hAe hH0 hA hl
  unfold hB
  rw [hAe]
  clear hAe
  have hF : FX p m c cX12_count 4 s _ RX12 D t := hF
  have hx := hF.1.1
  have hb := hF.1.2.1
  have hH : MT D t A s.heap h0 L σ s.heap [] := ⟨hH0, hM⟩
  have hle : HLe σ σ := HLe.rf
  have kl_0 : (0 : Int64).toInt = 0 := rfl
  have k_0 : (0 : Int32).toInt = 0 := rfl
  have k_1 : (1 : Int32).toInt = 1 := rfl
  have hl : lv_has ls 4 [(0, .ref h0), (1, .ref (L j))] := hl
  refine lv_iconst (v := 0) hx hb dX12_count_0 (by decide) ?_
  refine lv_istore_n (lv' := [(2, .int 0), (0, .ref h0), (1, .ref (L j))]) hx hb dX12_count_1 rfl hl (by decide) rfl (fun ls hl => ?_)
  refine lv_iconst (v := 0) hx hb dX12_count_2 (by decide) ?_
  refine lv_istore_n (lv' := [(3, .int 0), (2, .int 0), (0, .ref h0), (1, .ref (L j))]) hx hb dX12_count_3 rfl hl (by decide) rfl (fun ls hl => ?_)
  have hl : lv_has ls 4 [(3, .int 0), (2, .int 0), (1, .ref (L j)), (0, .ref h0)] := lv_sub hl [0, 1, 3, 2] rfl
  refine m_loop (β := Int32 × Int32) (L0 := fun x => [(3, .int x.1), (2, .int x.2), (1, .ref (L j)), (0, .ref h0)]) (I := fun x σ2 => σ = σ2 ∧ ((0 ≤ x.1.toInt ∧ x.1.toInt ≤ N ∧ 0 ≤ x.2.toInt ∧ x.2.toInt ≤ x.1.toInt) ∧ ((∀ i : Nat, i < N → 0 < (sJ σ (L j) i).toInt) → x.2.toInt = x.1.toInt))) (fun x σ2 => (N - x.1.toInt).toNat) (0, 0) hl ⟨rfl, ⟨by (try dsimp only); omega, fun _ => rfl⟩⟩ hH (fun x σL ls H locs hl hI hH ih => ?_)
  obtain ⟨x130, x131⟩ := x
  obtain ⟨hsL, hI⟩ := hI
  subst hsL
  have hl : lv_has ls 4 [(3, .int x130), (2, .int x131), (1, .ref (L j)), (0, .ref h0)] := hl
  have hI : (0 ≤ x130.toInt ∧ x130.toInt ≤ N ∧ 0 ≤ x131.toInt ∧ x131.toInt ≤ x130.toInt) ∧ ((∀ i : Nat, i < N → 0 < (sJ σ (L j) i).toInt) → x131.toInt = x130.toInt) := hI
  have rg_x130 := i_range x130
  have rg_x131 := i_range x131
  have hall := hI.2
  have hI := hI.1
  refine lv_iload_n hx hb dX12_count_4 rfl (lv_at hl 0 rfl) ?_
  refine lv_aload_n hx hb dX12_count_5 rfl (lv_at hl 2 rfl) ?_
  refine m_alen j N hF hH dX12_count_6 hj hp hN hN2 (fun z132 hz132 => ?_)
  refine lv_icmp_ge (tgt := 32) hx hb dX12_count_7 rfl (fun h133 => ?_) (fun h133 => ?_)
  · have ch133 := i_le h133
    refine lv_iload_n hx hb dX12_count_32 rfl (lv_at hl 1 rfl) ?_
    exact h_reti hF hr hlk rfl dX12_count_33 hH.1 hle ⟨hH.2, rfl, ⟨by (try dsimp only); omega, fun q => by have := hall q; omega⟩⟩
  · have ch133 := i_nle h133
    refine lv_iload_n hx hb dX12_count_10 rfl (lv_at hl 1 rfl) ?_
    refine lv_aload_n hx hb dX12_count_11 rfl (lv_at hl 2 rfl) ?_
    refine lv_iload_n hx hb dX12_count_12 rfl (lv_at hl 0 rfl) ?_
    refine m_lald j N hF hH dX12_count_13 hj hp hN (by omega) (by omega) (fun z134 ez134 => ?_)
    refine lv_lconst (v := 0) hx hb dX12_count_14 (by decide) ?_
    refine W.lcmp hx hb dX12_count_15 ?_
    refine lv_topi (fun z135 ez135 => ?_)
    have hz135 := l_cmp ez135
    refine lv_if_le (tgt := 23) hx hb dX12_count_16 rfl (fun h136 => ?_) (fun h136 => ?_)
    · have ch136 := i_le h136
      refine lv_iconst (v := 0) hx hb dX12_count_23 (by decide) ?_
      refine lv_iadd hx hb dX12_count_24 ?_
      refine lv_topi (fun z137 ez137 => ?_)
      try have hz137 := i_add ez137 (by omega) (by omega)
      refine lv_istore_n (lv' := [(2, .int z137), (3, .int x130), (1, .ref (L j)), (0, .ref h0)]) hx hb dX12_count_25 rfl hl (by decide) rfl (fun ls hl => ?_)
      obtain ⟨z138, ez138⟩ : ∃ z : Int32, z = x130 + Int32.ofInt 1 := ⟨_, rfl⟩
      have hz138 := i_add ez138 (by rw [show (Int32.ofInt 1).toInt = 1 from rfl]; omega) (by rw [show (Int32.ofInt 1).toInt = 1 from rfl]; omega)
      rw [show (Int32.ofInt 1).toInt = 1 from rfl] at hz138
      refine lv_iinc (lv' := [(3, .int z138), (2, .int z137), (1, .ref (L j)), (0, .ref h0)]) (k := 1) (v := z138) hx hb dX12_count_26 hl rfl ez138.symm (by decide) rfl (fun ls hl => ?_)
      refine lv_goto (tgt := 4) hx hb dX12_count_29 rfl ?_
      have hz0 : (sJ σ (L j) x130.toInt.toNat).toInt = z134.toInt := by rw [ez134]
      have hl : lv_has ls 4 [(3, .int z138), (2, .int z137), (1, .ref (L j)), (0, .ref h0)] := lv_sub hl [0, 1, 2, 3] rfl
      exact ih (z138, z137) σ ls H locs (by (try dsimp only); omega) hl ⟨rfl, ⟨by (try dsimp only); omega, fun q => by have := hall q; have := q x130.toInt.toNat (by omega); (try dsimp only); omega⟩⟩ hH
    · have ch136 := i_nle h136
      refine lv_iconst (v := 1) hx hb dX12_count_19 (by decide) ?_
      refine lv_goto (tgt := 24) hx hb dX12_count_20 rfl ?_
      refine lv_iadd hx hb dX12_count_24 ?_
      refine lv_topi (fun z139 ez139 => ?_)
      try have hz139 := i_add ez139 (by omega) (by omega)
      refine lv_istore_n (lv' := [(2, .int z139), (3, .int x130), (1, .ref (L j)), (0, .ref h0)]) hx hb dX12_count_25 rfl hl (by decide) rfl (fun ls hl => ?_)
      obtain ⟨z140, ez140⟩ : ∃ z : Int32, z = x130 + Int32.ofInt 1 := ⟨_, rfl⟩
      have hz140 := i_add ez140 (by rw [show (Int32.ofInt 1).toInt = 1 from rfl]; omega) (by rw [show (Int32.ofInt 1).toInt = 1 from rfl]; omega)
      rw [show (Int32.ofInt 1).toInt = 1 from rfl] at hz140
      refine lv_iinc (lv' := [(3, .int z140), (2, .int z139), (1, .ref (L j)), (0, .ref h0)]) (k := 1) (v := z140) hx hb dX12_count_26 hl rfl ez140.symm (by decide) rfl (fun ls hl => ?_)
      refine lv_goto (tgt := 4) hx hb dX12_count_29 rfl ?_
      have hz0 : (sJ σ (L j) x130.toInt.toNat).toInt = z134.toInt := by rw [ez134]
      have hl : lv_has ls 4 [(3, .int z140), (2, .int z139), (1, .ref (L j)), (0, .ref h0)] := lv_sub hl [0, 1, 2, 3] rfl
      exact ih (z140, z139) σ ls H locs (by (try dsimp only); omega) hl ⟨rfl, ⟨by (try dsimp only); omega, fun q => by have := hall q; have := q x130.toInt.toNat (by omega); (try dsimp only); omega⟩⟩ hH
theorem dX12_vacant_0 : decode cX12_vacant 0 = .ok (.iconst 0, 1) := by decide +kernel
theorem dX12_vacant_1 : decode cX12_vacant 1 = .ok (.istore_n 2, 1) := by decide +kernel
theorem dX12_vacant_2 : decode cX12_vacant 2 = .ok (.iload_n 2, 1) := by decide +kernel
theorem dX12_vacant_3 : decode cX12_vacant 3 = .ok (.aload_n 1, 1) := by decide +kernel
theorem dX12_vacant_4 : decode cX12_vacant 4 = .ok (.arraylength, 1) := by decide +kernel
theorem dX12_vacant_5 : decode cX12_vacant 5 = .ok (.if_icmp .ge 17, 3) := by decide +kernel
theorem dX12_vacant_8 : decode cX12_vacant 8 = .ok (.aload_n 1, 1) := by decide +kernel
theorem dX12_vacant_9 : decode cX12_vacant 9 = .ok (.iload_n 2, 1) := by decide +kernel
theorem dX12_vacant_10 : decode cX12_vacant 10 = .ok (.laload, 1) := by decide +kernel
theorem dX12_vacant_11 : decode cX12_vacant 11 = .ok (.lconst 0, 1) := by decide +kernel
theorem dX12_vacant_12 : decode cX12_vacant 12 = .ok (.lcmp, 1) := by decide +kernel
theorem dX12_vacant_13 : decode cX12_vacant 13 = .ok (.ifCond .le 9, 3) := by decide +kernel
theorem dX12_vacant_16 : decode cX12_vacant 16 = .ok (.iinc 2 1, 3) := by decide +kernel
theorem dX12_vacant_19 : decode cX12_vacant 19 = .ok (.goto (-17), 3) := by decide +kernel
theorem dX12_vacant_22 : decode cX12_vacant 22 = .ok (.iload_n 2, 1) := by decide +kernel
theorem dX12_vacant_23 : decode cX12_vacant 23 = .ok (.ireturn, 1) := by decide +kernel
set_option maxRecDepth 100000 in
set_option maxHeartbeats 4000000 in
theorem c_X12_vacant (l : Launch) (D : va_G) (t : Nat → ClassId) (h0 : Nat) (L : Nat → Nat) (σ : HS) (hO : OK ph τ0 σ) (hM : MdI h0 L σ) (j N : Nat) (hj : j < 80) (hp : ph (30 + j) = 22) (hN : lnL.getD j 0 = N) (hN2 : N < 2 ^ 31) (sz : Nat) : HMi ph τ0 l D t yX12_vacant cX12_vacant 3 (some .int) ({ frames := 0, cells := 0, slots := 0, locals := 0 }) σ sz [.ref h0, .ref (L j)] 0 0 (fun r σ' => MdI h0 L σ' ∧ σ' = σ ∧ ((0 ≤ r.toInt ∧ r.toInt ≤ N) ∧ (r.toInt = N → (∀ i : Nat, i < N → 0 < (sJ σ (L j) i).toInt)) ∧ (r.toInt < N → (sJ σ (L j) r.toInt.toNat).toInt ≤ 0))) := by
  refine h_go hO (by decide) (Nat.le_of_ble_eq_true rfl) ?_
  intro p e s m below meth c ls A hF hr hlk hAe hH0 hA hl
  unfold hB
  rw [hAe]
  clear hAe
  have hF : FX p m c cX12_vacant 3 s _ RX12 D t := hF
  have hx := hF.1.1
  have hb := hF.1.2.1
  have hH : MT D t A s.heap h0 L σ s.heap [] := ⟨hH0, hM⟩
  have hle : HLe σ σ := HLe.rf
  have kl_0 : (0 : Int64).toInt = 0 := rfl
  have k_0 : (0 : Int32).toInt = 0 := rfl
  have hl : lv_has ls 3 [(0, .ref h0), (1, .ref (L j))] := hl
  refine lv_iconst (v := 0) hx hb dX12_vacant_0 (by decide) ?_
  refine lv_istore_n (lv' := [(2, .int 0), (0, .ref h0), (1, .ref (L j))]) hx hb dX12_vacant_1 rfl hl (by decide) rfl (fun ls hl => ?_)
  have hl : lv_has ls 3 [(2, .int 0), (1, .ref (L j)), (0, .ref h0)] := lv_sub hl [0, 2, 1] rfl
  refine m_loop (β := Int32) (L0 := fun x => [(2, .int x), (1, .ref (L j)), (0, .ref h0)]) (I := fun x σ2 => σ = σ2 ∧ ((0 ≤ x.toInt ∧ x.toInt ≤ N) ∧ (∀ i : Nat, i < x.toInt.toNat → 0 < (sJ σ (L j) i).toInt))) (fun x σ2 => (N - x.toInt).toNat) (0) hl ⟨rfl, ⟨by (try dsimp only); omega, fun i hi => by exfalso; (try dsimp only at hi); omega⟩⟩ hH (fun x σL ls H locs hl hI hH ih => ?_)
  obtain ⟨x141, hx1⟩ : ∃ y, y = x := ⟨_, rfl⟩
  subst hx1
  obtain ⟨hsL, hI⟩ := hI
  subst hsL
  have hl : lv_has ls 3 [(2, .int x141), (1, .ref (L j)), (0, .ref h0)] := hl
  have hI : (0 ≤ x141.toInt ∧ x141.toInt ≤ N) ∧ (∀ i : Nat, i < x141.toInt.toNat → 0 < (sJ σ (L j) i).toInt) := hI
  have rg_x141 := i_range x141
  have hall := hI.2
  have hI := hI.1
  refine lv_iload_n hx hb dX12_vacant_2 rfl (lv_at hl 0 rfl) ?_
  refine lv_aload_n hx hb dX12_vacant_3 rfl (lv_at hl 1 rfl) ?_
  refine m_alen j N hF hH dX12_vacant_4 hj hp hN hN2 (fun z142 hz142 => ?_)
  refine lv_icmp_ge (tgt := 22) hx hb dX12_vacant_5 rfl (fun h143 => ?_) (fun h143 => ?_)
  · have ch143 := i_le h143
    refine lv_iload_n hx hb dX12_vacant_22 rfl (lv_at hl 0 rfl) ?_
    exact h_reti hF hr hlk rfl dX12_vacant_23 hH.1 hle ⟨hH.2, rfl, ⟨by (try dsimp only); omega, fun q i hi => hall i (by omega), fun q => by omega⟩⟩
  · have ch143 := i_nle h143
    refine lv_aload_n hx hb dX12_vacant_8 rfl (lv_at hl 1 rfl) ?_
    refine lv_iload_n hx hb dX12_vacant_9 rfl (lv_at hl 0 rfl) ?_
    refine m_lald j N hF hH dX12_vacant_10 hj hp hN (by omega) (by omega) (fun z144 ez144 => ?_)
    refine lv_lconst (v := 0) hx hb dX12_vacant_11 (by decide) ?_
    refine W.lcmp hx hb dX12_vacant_12 ?_
    refine lv_topi (fun z145 ez145 => ?_)
    have hz145 := l_cmp ez145
    refine lv_if_le (tgt := 22) hx hb dX12_vacant_13 rfl (fun h146 => ?_) (fun h146 => ?_)
    · have ch146 := i_le h146
      refine lv_iload_n hx hb dX12_vacant_22 rfl (lv_at hl 0 rfl) ?_
      have hz0 : (sJ σ (L j) x141.toInt.toNat).toInt = z144.toInt := by rw [ez144]
      exact h_reti hF hr hlk rfl dX12_vacant_23 hH.1 hle ⟨hH.2, rfl, ⟨by (try dsimp only); omega, fun q i hi => hall i (by omega), fun q => by omega⟩⟩
    · have ch146 := i_nle h146
      obtain ⟨z147, ez147⟩ : ∃ z : Int32, z = x141 + Int32.ofInt 1 := ⟨_, rfl⟩
      have hz147 := i_add ez147 (by rw [show (Int32.ofInt 1).toInt = 1 from rfl]; omega) (by rw [show (Int32.ofInt 1).toInt = 1 from rfl]; omega)
      rw [show (Int32.ofInt 1).toInt = 1 from rfl] at hz147
      refine lv_iinc (lv' := [(2, .int z147), (1, .ref (L j)), (0, .ref h0)]) (k := 0) (v := z147) hx hb dX12_vacant_16 hl rfl ez147.symm (by decide) rfl (fun ls hl => ?_)
      refine lv_goto (tgt := 2) hx hb dX12_vacant_19 rfl ?_
      have hz0 : (sJ σ (L j) x141.toInt.toNat).toInt = z144.toInt := by rw [ez144]
      have hz1 : 0 < (sJ σ (L j) x141.toInt.toNat).toInt := by omega
      have hl : lv_has ls 3 [(2, .int z147), (1, .ref (L j)), (0, .ref h0)] := lv_sub hl [0, 1, 2] rfl
      exact ih (z147) σ ls H locs (by (try dsimp only); omega) hl ⟨rfl, ⟨by (try dsimp only); omega, fun i hi => by (try dsimp only at hi); rcases (show i < x141.toInt.toNat ∨ i = x141.toInt.toNat by omega) with q | q; exact hall i q; rw [q]; exact hz1⟩⟩ hH
theorem dX12_openBy_0 : decode cX12_openBy 0 = .ok (.iconst 0, 1) := by decide +kernel
theorem dX12_openBy_1 : decode cX12_openBy 1 = .ok (.istore_n 3, 1) := by decide +kernel
theorem dX12_openBy_2 : decode cX12_openBy 2 = .ok (.iload_n 3, 1) := by decide +kernel
theorem dX12_openBy_3 : decode cX12_openBy 3 = .ok (.bipush 40, 2) := by decide +kernel
theorem dX12_openBy_5 : decode cX12_openBy 5 = .ok (.if_icmp .ge 28, 3) := by decide +kernel
theorem dX12_openBy_8 : decode cX12_openBy 8 = .ok (.lload_n 1, 1) := by decide +kernel
theorem dX12_openBy_9 : decode cX12_openBy 9 = .ok (.lconst 0, 1) := by decide +kernel
theorem dX12_openBy_10 : decode cX12_openBy 10 = .ok (.lcmp, 1) := by decide +kernel
theorem dX12_openBy_11 : decode cX12_openBy 11 = .ok (.ifCond .eq 16, 3) := by decide +kernel
theorem dX12_openBy_14 : decode cX12_openBy 14 = .ok (.aload_n 0, 1) := by decide +kernel
theorem dX12_openBy_15 : decode cX12_openBy 15 = .ok (.getfield 139, 3) := by decide +kernel
theorem dX12_openBy_18 : decode cX12_openBy 18 = .ok (.iload_n 3, 1) := by decide +kernel
theorem dX12_openBy_19 : decode cX12_openBy 19 = .ok (.laload, 1) := by decide +kernel
theorem dX12_openBy_20 : decode cX12_openBy 20 = .ok (.lload_n 1, 1) := by decide +kernel
theorem dX12_openBy_21 : decode cX12_openBy 21 = .ok (.lcmp, 1) := by decide +kernel
theorem dX12_openBy_22 : decode cX12_openBy 22 = .ok (.ifCond .ne 5, 3) := by decide +kernel
theorem dX12_openBy_25 : decode cX12_openBy 25 = .ok (.iload_n 3, 1) := by decide +kernel
theorem dX12_openBy_26 : decode cX12_openBy 26 = .ok (.ireturn, 1) := by decide +kernel
theorem dX12_openBy_27 : decode cX12_openBy 27 = .ok (.iinc 3 1, 3) := by decide +kernel
theorem dX12_openBy_30 : decode cX12_openBy 30 = .ok (.goto (-28), 3) := by decide +kernel
theorem dX12_openBy_33 : decode cX12_openBy 33 = .ok (.iconst (-1), 1) := by decide +kernel
theorem dX12_openBy_34 : decode cX12_openBy 34 = .ok (.ireturn, 1) := by decide +kernel
set_option maxRecDepth 100000 in
set_option maxHeartbeats 4000000 in
theorem c_X12_openBy (l : Launch) (D : va_G) (t : Nat → ClassId) (h0 : Nat) (L : Nat → Nat) (σ : HS) (hO : OK ph τ0 σ) (hM : MdI h0 L σ) (v : Int64) (sz : Nat) : HMi ph τ0 l D t yX12_openBy cX12_openBy 4 (some .int) ({ frames := 0, cells := 0, slots := 0, locals := 0 }) σ sz [.ref h0, .long v] 0 0 (fun r σ' => MdI h0 L σ' ∧ σ' = σ ∧ (-1 ≤ r.toInt ∧ r.toInt ≤ 39)) := by
  refine h_go hO (by decide) (Nat.le_of_ble_eq_true rfl) ?_
  intro p e s m below meth c ls A hF hr hlk hAe hH0 hA hl
  unfold hB
  rw [hAe]
  clear hAe
  have hF : FX p m c cX12_openBy 4 s _ RX12 D t := hF
  have hx := hF.1.1
  have hb := hF.1.2.1
  have hH : MT D t A s.heap h0 L σ s.heap [] := ⟨hH0, hM⟩
  have hle : HLe σ σ := HLe.rf
  have kl_0 : (0 : Int64).toInt = 0 := rfl
  have k_m1 : ((-1) : Int32).toInt = (-1) := rfl
  have k_0 : (0 : Int32).toInt = 0 := rfl
  have k_40 : (40 : Int32).toInt = 40 := rfl
  have hl : lv_has ls 4 [(0, .ref h0), (1, .long v)] := hl
  refine lv_iconst (v := 0) hx hb dX12_openBy_0 (by decide) ?_
  refine lv_istore_n (lv' := [(3, .int 0), (0, .ref h0), (1, .long v)]) hx hb dX12_openBy_1 rfl hl (by decide) rfl (fun ls hl => ?_)
  have hl : lv_has ls 4 [(3, .int 0), (1, .long v), (0, .ref h0)] := lv_sub hl [0, 2, 1] rfl
  refine m_loop (β := Int32) (L0 := fun x => [(3, .int x), (1, .long v), (0, .ref h0)]) (I := fun x σ2 => σ = σ2 ∧ (0 ≤ x.toInt ∧ x.toInt ≤ 40)) (fun x σ2 => (40 - x.toInt).toNat) (0) hl ⟨rfl, by (try dsimp only); omega⟩ hH (fun x σL ls H locs hl hI hH ih => ?_)
  obtain ⟨x148, hx1⟩ : ∃ y, y = x := ⟨_, rfl⟩
  subst hx1
  obtain ⟨hsL, hI⟩ := hI
  subst hsL
  have hl : lv_has ls 4 [(3, .int x148), (1, .long v), (0, .ref h0)] := hl
  have hI : 0 ≤ x148.toInt ∧ x148.toInt ≤ 40 := hI
  have rg_x148 := i_range x148
  refine lv_iload_n hx hb dX12_openBy_2 rfl (lv_at hl 0 rfl) ?_
  refine lv_bipush (v := 40) hx hb dX12_openBy_3 (by decide) ?_
  refine lv_icmp_ge (tgt := 33) hx hb dX12_openBy_5 rfl (fun h149 => ?_) (fun h149 => ?_)
  · have ch149 := i_le h149
    refine lv_iconst (v := (-1)) hx hb dX12_openBy_33 (by decide) ?_
    exact h_reti hF hr hlk rfl dX12_openBy_34 hH.1 hle ⟨hH.2, rfl, by (try dsimp only); omega⟩
  · have ch149 := i_nle h149
    refine lv_lload_n hx hb dX12_openBy_8 rfl (lv_at hl 1 rfl) ?_
    refine lv_lconst (v := 0) hx hb dX12_openBy_9 (by decide) ?_
    refine W.lcmp hx hb dX12_openBy_10 ?_
    refine lv_topi (fun z150 ez150 => ?_)
    have hz150 := l_cmp ez150
    refine lv_if_eq (tgt := 27) hx hb dX12_openBy_11 rfl (fun h151 => ?_) (fun h151 => ?_)
    · have ch151 := i_eq h151
      obtain ⟨z152, ez152⟩ : ∃ z : Int32, z = x148 + Int32.ofInt 1 := ⟨_, rfl⟩
      have hz152 := i_add ez152 (by rw [show (Int32.ofInt 1).toInt = 1 from rfl]; omega) (by rw [show (Int32.ofInt 1).toInt = 1 from rfl]; omega)
      rw [show (Int32.ofInt 1).toInt = 1 from rfl] at hz152
      refine lv_iinc (lv' := [(3, .int z152), (1, .long v), (0, .ref h0)]) (k := 0) (v := z152) hx hb dX12_openBy_27 hl rfl ez152.symm (by decide) rfl (fun ls hl => ?_)
      refine lv_goto (tgt := 2) hx hb dX12_openBy_30 rfl ?_
      have hl : lv_has ls 4 [(3, .int z152), (1, .long v), (0, .ref h0)] := lv_sub hl [0, 1, 2] rfl
      exact ih (z152) σ ls H locs (by (try dsimp only); omega) hl ⟨rfl, by (try dsimp only); omega⟩ hH
    · have ch151 := i_ne h151
      refine lv_aload_n hx hb dX12_openBy_14 rfl (lv_at hl 2 rfl) ?_
      refine m_getA 41 hF hH fk_X12_139 dX12_openBy_15 (by decide) rfl ?_
      refine lv_iload_n hx hb dX12_openBy_18 rfl (lv_at hl 0 rfl) ?_
      refine m_lald 41 40 hF hH dX12_openBy_19 (by decide) rfl rfl (by omega) (by omega) (fun z153 ez153 => ?_)
      refine lv_lload_n hx hb dX12_openBy_20 rfl (lv_at hl 1 rfl) ?_
      refine W.lcmp hx hb dX12_openBy_21 ?_
      refine lv_topi (fun z154 ez154 => ?_)
      have hz154 := l_cmp ez154
      refine lv_if_ne (tgt := 27) hx hb dX12_openBy_22 rfl (fun h155 => ?_) (fun h155 => ?_)
      · have ch155 := i_ne h155
        obtain ⟨z156, ez156⟩ : ∃ z : Int32, z = x148 + Int32.ofInt 1 := ⟨_, rfl⟩
        have hz156 := i_add ez156 (by rw [show (Int32.ofInt 1).toInt = 1 from rfl]; omega) (by rw [show (Int32.ofInt 1).toInt = 1 from rfl]; omega)
        rw [show (Int32.ofInt 1).toInt = 1 from rfl] at hz156
        refine lv_iinc (lv' := [(3, .int z156), (1, .long v), (0, .ref h0)]) (k := 0) (v := z156) hx hb dX12_openBy_27 hl rfl ez156.symm (by decide) rfl (fun ls hl => ?_)
        refine lv_goto (tgt := 2) hx hb dX12_openBy_30 rfl ?_
        have hl : lv_has ls 4 [(3, .int z156), (1, .long v), (0, .ref h0)] := lv_sub hl [0, 1, 2] rfl
        exact ih (z156) σ ls H locs (by (try dsimp only); omega) hl ⟨rfl, by (try dsimp only); omega⟩ hH
      · have ch155 := i_eq h155
        refine lv_iload_n hx hb dX12_openBy_25 rfl (lv_at hl 0 rfl) ?_
        exact h_reti hF hr hlk rfl dX12_openBy_26 hH.1 hle ⟨hH.2, rfl, by (try dsimp only); omega⟩
theorem dX12_findSession_0 : decode cX12_findSession 0 = .ok (.iconst 0, 1) := by decide +kernel
theorem dX12_findSession_1 : decode cX12_findSession 1 = .ok (.istore_n 3, 1) := by decide +kernel
theorem dX12_findSession_2 : decode cX12_findSession 2 = .ok (.iload_n 3, 1) := by decide +kernel
theorem dX12_findSession_3 : decode cX12_findSession 3 = .ok (.bipush 8, 2) := by decide +kernel
theorem dX12_findSession_5 : decode cX12_findSession 5 = .ok (.if_icmp .ge 41, 3) := by decide +kernel
theorem dX12_findSession_8 : decode cX12_findSession 8 = .ok (.lload_n 1, 1) := by decide +kernel
theorem dX12_findSession_9 : decode cX12_findSession 9 = .ok (.lconst 0, 1) := by decide +kernel
theorem dX12_findSession_10 : decode cX12_findSession 10 = .ok (.lcmp, 1) := by decide +kernel
theorem dX12_findSession_11 : decode cX12_findSession 11 = .ok (.ifCond .eq 29, 3) := by decide +kernel
theorem dX12_findSession_14 : decode cX12_findSession 14 = .ok (.aload_n 0, 1) := by decide +kernel
theorem dX12_findSession_15 : decode cX12_findSession 15 = .ok (.getfield 118, 3) := by decide +kernel
theorem dX12_findSession_18 : decode cX12_findSession 18 = .ok (.iload_n 3, 1) := by decide +kernel
theorem dX12_findSession_19 : decode cX12_findSession 19 = .ok (.laload, 1) := by decide +kernel
theorem dX12_findSession_20 : decode cX12_findSession 20 = .ok (.lload_n 1, 1) := by decide +kernel
theorem dX12_findSession_21 : decode cX12_findSession 21 = .ok (.lcmp, 1) := by decide +kernel
theorem dX12_findSession_22 : decode cX12_findSession 22 = .ok (.ifCond .ne 18, 3) := by decide +kernel
theorem dX12_findSession_25 : decode cX12_findSession 25 = .ok (.aload_n 0, 1) := by decide +kernel
theorem dX12_findSession_26 : decode cX12_findSession 26 = .ok (.getfield 121, 3) := by decide +kernel
theorem dX12_findSession_29 : decode cX12_findSession 29 = .ok (.iload_n 3, 1) := by decide +kernel
theorem dX12_findSession_30 : decode cX12_findSession 30 = .ok (.iaload, 1) := by decide +kernel
theorem dX12_findSession_31 : decode cX12_findSession 31 = .ok (.aload_n 0, 1) := by decide +kernel
theorem dX12_findSession_32 : decode cX12_findSession 32 = .ok (.getfield 382, 3) := by decide +kernel
theorem dX12_findSession_35 : decode cX12_findSession 35 = .ok (.if_icmp .ne 5, 3) := by decide +kernel
theorem dX12_findSession_38 : decode cX12_findSession 38 = .ok (.iload_n 3, 1) := by decide +kernel
theorem dX12_findSession_39 : decode cX12_findSession 39 = .ok (.ireturn, 1) := by decide +kernel
theorem dX12_findSession_40 : decode cX12_findSession 40 = .ok (.iinc 3 1, 3) := by decide +kernel
theorem dX12_findSession_43 : decode cX12_findSession 43 = .ok (.goto (-41), 3) := by decide +kernel
theorem dX12_findSession_46 : decode cX12_findSession 46 = .ok (.iconst (-1), 1) := by decide +kernel
theorem dX12_findSession_47 : decode cX12_findSession 47 = .ok (.ireturn, 1) := by decide +kernel
set_option maxRecDepth 100000 in
set_option maxHeartbeats 4000000 in
theorem c_X12_findSession (l : Launch) (D : va_G) (t : Nat → ClassId) (h0 : Nat) (L : Nat → Nat) (σ : HS) (hO : OK ph τ0 σ) (hM : MdI h0 L σ) (v : Int64) (sz : Nat) : HMi ph τ0 l D t yX12_findSession cX12_findSession 4 (some .int) ({ frames := 0, cells := 0, slots := 0, locals := 0 }) σ sz [.ref h0, .long v] 0 0 (fun r σ' => MdI h0 L σ' ∧ σ' = σ ∧ (-1 ≤ r.toInt ∧ r.toInt ≤ 7)) := by
  refine h_go hO (by decide) (Nat.le_of_ble_eq_true rfl) ?_
  intro p e s m below meth c ls A hF hr hlk hAe hH0 hA hl
  unfold hB
  rw [hAe]
  clear hAe
  have hF : FX p m c cX12_findSession 4 s _ RX12 D t := hF
  have hx := hF.1.1
  have hb := hF.1.2.1
  have hH : MT D t A s.heap h0 L σ s.heap [] := ⟨hH0, hM⟩
  have hle : HLe σ σ := HLe.rf
  have kl_0 : (0 : Int64).toInt = 0 := rfl
  have k_m1 : ((-1) : Int32).toInt = (-1) := rfl
  have k_0 : (0 : Int32).toInt = 0 := rfl
  have k_8 : (8 : Int32).toInt = 8 := rfl
  have hl : lv_has ls 4 [(0, .ref h0), (1, .long v)] := hl
  refine lv_iconst (v := 0) hx hb dX12_findSession_0 (by decide) ?_
  refine lv_istore_n (lv' := [(3, .int 0), (0, .ref h0), (1, .long v)]) hx hb dX12_findSession_1 rfl hl (by decide) rfl (fun ls hl => ?_)
  have hl : lv_has ls 4 [(3, .int 0), (1, .long v), (0, .ref h0)] := lv_sub hl [0, 2, 1] rfl
  refine m_loop (β := Int32) (L0 := fun x => [(3, .int x), (1, .long v), (0, .ref h0)]) (I := fun x σ2 => σ = σ2 ∧ (0 ≤ x.toInt ∧ x.toInt ≤ 8)) (fun x σ2 => (8 - x.toInt).toNat) (0) hl ⟨rfl, by (try dsimp only); omega⟩ hH (fun x σL ls H locs hl hI hH ih => ?_)
  obtain ⟨x157, hx1⟩ : ∃ y, y = x := ⟨_, rfl⟩
  subst hx1
  obtain ⟨hsL, hI⟩ := hI
  subst hsL
  have hl : lv_has ls 4 [(3, .int x157), (1, .long v), (0, .ref h0)] := hl
  have hI : 0 ≤ x157.toInt ∧ x157.toInt ≤ 8 := hI
  have rg_x157 := i_range x157
  refine lv_iload_n hx hb dX12_findSession_2 rfl (lv_at hl 0 rfl) ?_
  refine lv_bipush (v := 8) hx hb dX12_findSession_3 (by decide) ?_
  refine lv_icmp_ge (tgt := 46) hx hb dX12_findSession_5 rfl (fun h158 => ?_) (fun h158 => ?_)
  · have ch158 := i_le h158
    refine lv_iconst (v := (-1)) hx hb dX12_findSession_46 (by decide) ?_
    exact h_reti hF hr hlk rfl dX12_findSession_47 hH.1 hle ⟨hH.2, rfl, by (try dsimp only); omega⟩
  · have ch158 := i_nle h158
    refine lv_lload_n hx hb dX12_findSession_8 rfl (lv_at hl 1 rfl) ?_
    refine lv_lconst (v := 0) hx hb dX12_findSession_9 (by decide) ?_
    refine W.lcmp hx hb dX12_findSession_10 ?_
    refine lv_topi (fun z159 ez159 => ?_)
    have hz159 := l_cmp ez159
    refine lv_if_eq (tgt := 40) hx hb dX12_findSession_11 rfl (fun h160 => ?_) (fun h160 => ?_)
    · have ch160 := i_eq h160
      obtain ⟨z161, ez161⟩ : ∃ z : Int32, z = x157 + Int32.ofInt 1 := ⟨_, rfl⟩
      have hz161 := i_add ez161 (by rw [show (Int32.ofInt 1).toInt = 1 from rfl]; omega) (by rw [show (Int32.ofInt 1).toInt = 1 from rfl]; omega)
      rw [show (Int32.ofInt 1).toInt = 1 from rfl] at hz161
      refine lv_iinc (lv' := [(3, .int z161), (1, .long v), (0, .ref h0)]) (k := 0) (v := z161) hx hb dX12_findSession_40 hl rfl ez161.symm (by decide) rfl (fun ls hl => ?_)
      refine lv_goto (tgt := 2) hx hb dX12_findSession_43 rfl ?_
      have hl : lv_has ls 4 [(3, .int z161), (1, .long v), (0, .ref h0)] := lv_sub hl [0, 1, 2] rfl
      exact ih (z161) σ ls H locs (by (try dsimp only); omega) hl ⟨rfl, by (try dsimp only); omega⟩ hH
    · have ch160 := i_ne h160
      refine lv_aload_n hx hb dX12_findSession_14 rfl (lv_at hl 2 rfl) ?_
      refine m_getA 34 hF hH fk_X12_118 dX12_findSession_15 (by decide) rfl ?_
      refine lv_iload_n hx hb dX12_findSession_18 rfl (lv_at hl 0 rfl) ?_
      refine m_lald 34 8 hF hH dX12_findSession_19 (by decide) rfl rfl (by omega) (by omega) (fun z162 ez162 => ?_)
      refine lv_lload_n hx hb dX12_findSession_20 rfl (lv_at hl 1 rfl) ?_
      refine W.lcmp hx hb dX12_findSession_21 ?_
      refine lv_topi (fun z163 ez163 => ?_)
      have hz163 := l_cmp ez163
      refine lv_if_ne (tgt := 40) hx hb dX12_findSession_22 rfl (fun h164 => ?_) (fun h164 => ?_)
      · have ch164 := i_ne h164
        obtain ⟨z165, ez165⟩ : ∃ z : Int32, z = x157 + Int32.ofInt 1 := ⟨_, rfl⟩
        have hz165 := i_add ez165 (by rw [show (Int32.ofInt 1).toInt = 1 from rfl]; omega) (by rw [show (Int32.ofInt 1).toInt = 1 from rfl]; omega)
        rw [show (Int32.ofInt 1).toInt = 1 from rfl] at hz165
        refine lv_iinc (lv' := [(3, .int z165), (1, .long v), (0, .ref h0)]) (k := 0) (v := z165) hx hb dX12_findSession_40 hl rfl ez165.symm (by decide) rfl (fun ls hl => ?_)
        refine lv_goto (tgt := 2) hx hb dX12_findSession_43 rfl ?_
        have hl : lv_has ls 4 [(3, .int z165), (1, .long v), (0, .ref h0)] := lv_sub hl [0, 1, 2] rfl
        exact ih (z165) σ ls H locs (by (try dsimp only); omega) hl ⟨rfl, by (try dsimp only); omega⟩ hH
      · have ch164 := i_eq h164
        refine lv_aload_n hx hb dX12_findSession_25 rfl (lv_at hl 2 rfl) ?_
        refine m_getA 35 hF hH fk_X12_121 dX12_findSession_26 (by decide) rfl ?_
        refine lv_iload_n hx hb dX12_findSession_29 rfl (lv_at hl 0 rfl) ?_
        refine m_iald 35 8 hF hH dX12_findSession_30 (by decide) rfl rfl 0 5 rfl rfl (by omega) (by omega) (fun z166 ez166 vz166 => ?_)
        have wz166 := i_eq ez166
        refine lv_aload_n hx hb dX12_findSession_31 rfl (lv_at hl 2 rfl) ?_
        refine m_getI hF hH fk_X12_382 dX12_findSession_32 0 5 rfl rfl (fun z167 ez167 vz167 => ?_)
        have wz167 := i_eq ez167
        refine lv_icmp_ne (tgt := 40) hx hb dX12_findSession_35 rfl (fun h168 => ?_) (fun h168 => ?_)
        · have ch168 := i_ne h168
          obtain ⟨z169, ez169⟩ : ∃ z : Int32, z = x157 + Int32.ofInt 1 := ⟨_, rfl⟩
          have hz169 := i_add ez169 (by rw [show (Int32.ofInt 1).toInt = 1 from rfl]; omega) (by rw [show (Int32.ofInt 1).toInt = 1 from rfl]; omega)
          rw [show (Int32.ofInt 1).toInt = 1 from rfl] at hz169
          refine lv_iinc (lv' := [(3, .int z169), (1, .long v), (0, .ref h0)]) (k := 0) (v := z169) hx hb dX12_findSession_40 hl rfl ez169.symm (by decide) rfl (fun ls hl => ?_)
          refine lv_goto (tgt := 2) hx hb dX12_findSession_43 rfl ?_
          have hl : lv_has ls 4 [(3, .int z169), (1, .long v), (0, .ref h0)] := lv_sub hl [0, 1, 2] rfl
          exact ih (z169) σ ls H locs (by (try dsimp only); omega) hl ⟨rfl, by (try dsimp only); omega⟩ hH
        · have ch168 := i_eq h168
          refine lv_iload_n hx hb dX12_findSession_38 rfl (lv_at hl 0 rfl) ?_
          exact h_reti hF hr hlk rfl dX12_findSession_39 hH.1 hle ⟨hH.2, rfl, by (try dsimp only); omega⟩
theorem dX12_findTree_0 : decode cX12_findTree 0 = .ok (.iconst 0, 1) := by decide +kernel
theorem dX12_findTree_1 : decode cX12_findTree 1 = .ok (.istore_n 3, 1) := by decide +kernel
theorem dX12_findTree_2 : decode cX12_findTree 2 = .ok (.iload_n 3, 1) := by decide +kernel
theorem dX12_findTree_3 : decode cX12_findTree 3 = .ok (.bipush 16, 2) := by decide +kernel
theorem dX12_findTree_5 : decode cX12_findTree 5 = .ok (.if_icmp .ge 41, 3) := by decide +kernel
theorem dX12_findTree_8 : decode cX12_findTree 8 = .ok (.lload_n 1, 1) := by decide +kernel
theorem dX12_findTree_9 : decode cX12_findTree 9 = .ok (.lconst 0, 1) := by decide +kernel
theorem dX12_findTree_10 : decode cX12_findTree 10 = .ok (.lcmp, 1) := by decide +kernel
theorem dX12_findTree_11 : decode cX12_findTree 11 = .ok (.ifCond .eq 29, 3) := by decide +kernel
theorem dX12_findTree_14 : decode cX12_findTree 14 = .ok (.aload_n 0, 1) := by decide +kernel
theorem dX12_findTree_15 : decode cX12_findTree 15 = .ok (.getfield 130, 3) := by decide +kernel
theorem dX12_findTree_18 : decode cX12_findTree 18 = .ok (.iload_n 3, 1) := by decide +kernel
theorem dX12_findTree_19 : decode cX12_findTree 19 = .ok (.laload, 1) := by decide +kernel
theorem dX12_findTree_20 : decode cX12_findTree 20 = .ok (.lload_n 1, 1) := by decide +kernel
theorem dX12_findTree_21 : decode cX12_findTree 21 = .ok (.lcmp, 1) := by decide +kernel
theorem dX12_findTree_22 : decode cX12_findTree 22 = .ok (.ifCond .ne 18, 3) := by decide +kernel
theorem dX12_findTree_25 : decode cX12_findTree 25 = .ok (.aload_n 0, 1) := by decide +kernel
theorem dX12_findTree_26 : decode cX12_findTree 26 = .ok (.getfield 133, 3) := by decide +kernel
theorem dX12_findTree_29 : decode cX12_findTree 29 = .ok (.iload_n 3, 1) := by decide +kernel
theorem dX12_findTree_30 : decode cX12_findTree 30 = .ok (.iaload, 1) := by decide +kernel
theorem dX12_findTree_31 : decode cX12_findTree 31 = .ok (.aload_n 0, 1) := by decide +kernel
theorem dX12_findTree_32 : decode cX12_findTree 32 = .ok (.getfield 492, 3) := by decide +kernel
theorem dX12_findTree_35 : decode cX12_findTree 35 = .ok (.if_icmp .ne 5, 3) := by decide +kernel
theorem dX12_findTree_38 : decode cX12_findTree 38 = .ok (.iload_n 3, 1) := by decide +kernel
theorem dX12_findTree_39 : decode cX12_findTree 39 = .ok (.ireturn, 1) := by decide +kernel
theorem dX12_findTree_40 : decode cX12_findTree 40 = .ok (.iinc 3 1, 3) := by decide +kernel
theorem dX12_findTree_43 : decode cX12_findTree 43 = .ok (.goto (-41), 3) := by decide +kernel
theorem dX12_findTree_46 : decode cX12_findTree 46 = .ok (.iconst (-1), 1) := by decide +kernel
theorem dX12_findTree_47 : decode cX12_findTree 47 = .ok (.ireturn, 1) := by decide +kernel
set_option maxRecDepth 100000 in
set_option maxHeartbeats 4000000 in
theorem c_X12_findTree (l : Launch) (D : va_G) (t : Nat → ClassId) (h0 : Nat) (L : Nat → Nat) (σ : HS) (hO : OK ph τ0 σ) (hM : MdI h0 L σ) (v : Int64) (sz : Nat) : HMi ph τ0 l D t yX12_findTree cX12_findTree 4 (some .int) ({ frames := 0, cells := 0, slots := 0, locals := 0 }) σ sz [.ref h0, .long v] 0 0 (fun r σ' => MdI h0 L σ' ∧ σ' = σ ∧ (-1 ≤ r.toInt ∧ r.toInt ≤ 15)) := by
  refine h_go hO (by decide) (Nat.le_of_ble_eq_true rfl) ?_
  intro p e s m below meth c ls A hF hr hlk hAe hH0 hA hl
  unfold hB
  rw [hAe]
  clear hAe
  have hF : FX p m c cX12_findTree 4 s _ RX12 D t := hF
  have hx := hF.1.1
  have hb := hF.1.2.1
  have hH : MT D t A s.heap h0 L σ s.heap [] := ⟨hH0, hM⟩
  have hle : HLe σ σ := HLe.rf
  have kl_0 : (0 : Int64).toInt = 0 := rfl
  have k_m1 : ((-1) : Int32).toInt = (-1) := rfl
  have k_0 : (0 : Int32).toInt = 0 := rfl
  have k_16 : (16 : Int32).toInt = 16 := rfl
  have hl : lv_has ls 4 [(0, .ref h0), (1, .long v)] := hl
  refine lv_iconst (v := 0) hx hb dX12_findTree_0 (by decide) ?_
  refine lv_istore_n (lv' := [(3, .int 0), (0, .ref h0), (1, .long v)]) hx hb dX12_findTree_1 rfl hl (by decide) rfl (fun ls hl => ?_)
  have hl : lv_has ls 4 [(3, .int 0), (1, .long v), (0, .ref h0)] := lv_sub hl [0, 2, 1] rfl
  refine m_loop (β := Int32) (L0 := fun x => [(3, .int x), (1, .long v), (0, .ref h0)]) (I := fun x σ2 => σ = σ2 ∧ (0 ≤ x.toInt ∧ x.toInt ≤ 16)) (fun x σ2 => (16 - x.toInt).toNat) (0) hl ⟨rfl, by (try dsimp only); omega⟩ hH (fun x σL ls H locs hl hI hH ih => ?_)
  obtain ⟨x170, hx1⟩ : ∃ y, y = x := ⟨_, rfl⟩
  subst hx1
  obtain ⟨hsL, hI⟩ := hI
  subst hsL
  have hl : lv_has ls 4 [(3, .int x170), (1, .long v), (0, .ref h0)] := hl
  have hI : 0 ≤ x170.toInt ∧ x170.toInt ≤ 16 := hI
  have rg_x170 := i_range x170
  refine lv_iload_n hx hb dX12_findTree_2 rfl (lv_at hl 0 rfl) ?_
  refine lv_bipush (v := 16) hx hb dX12_findTree_3 (by decide) ?_
  refine lv_icmp_ge (tgt := 46) hx hb dX12_findTree_5 rfl (fun h171 => ?_) (fun h171 => ?_)
  · have ch171 := i_le h171
    refine lv_iconst (v := (-1)) hx hb dX12_findTree_46 (by decide) ?_
    exact h_reti hF hr hlk rfl dX12_findTree_47 hH.1 hle ⟨hH.2, rfl, by (try dsimp only); omega⟩
  · have ch171 := i_nle h171
    refine lv_lload_n hx hb dX12_findTree_8 rfl (lv_at hl 1 rfl) ?_
    refine lv_lconst (v := 0) hx hb dX12_findTree_9 (by decide) ?_
    refine W.lcmp hx hb dX12_findTree_10 ?_
    refine lv_topi (fun z172 ez172 => ?_)
    have hz172 := l_cmp ez172
    refine lv_if_eq (tgt := 40) hx hb dX12_findTree_11 rfl (fun h173 => ?_) (fun h173 => ?_)
    · have ch173 := i_eq h173
      obtain ⟨z174, ez174⟩ : ∃ z : Int32, z = x170 + Int32.ofInt 1 := ⟨_, rfl⟩
      have hz174 := i_add ez174 (by rw [show (Int32.ofInt 1).toInt = 1 from rfl]; omega) (by rw [show (Int32.ofInt 1).toInt = 1 from rfl]; omega)
      rw [show (Int32.ofInt 1).toInt = 1 from rfl] at hz174
      refine lv_iinc (lv' := [(3, .int z174), (1, .long v), (0, .ref h0)]) (k := 0) (v := z174) hx hb dX12_findTree_40 hl rfl ez174.symm (by decide) rfl (fun ls hl => ?_)
      refine lv_goto (tgt := 2) hx hb dX12_findTree_43 rfl ?_
      have hl : lv_has ls 4 [(3, .int z174), (1, .long v), (0, .ref h0)] := lv_sub hl [0, 1, 2] rfl
      exact ih (z174) σ ls H locs (by (try dsimp only); omega) hl ⟨rfl, by (try dsimp only); omega⟩ hH
    · have ch173 := i_ne h173
      refine lv_aload_n hx hb dX12_findTree_14 rfl (lv_at hl 2 rfl) ?_
      refine m_getA 38 hF hH fk_X12_130 dX12_findTree_15 (by decide) rfl ?_
      refine lv_iload_n hx hb dX12_findTree_18 rfl (lv_at hl 0 rfl) ?_
      refine m_lald 38 16 hF hH dX12_findTree_19 (by decide) rfl rfl (by omega) (by omega) (fun z175 ez175 => ?_)
      refine lv_lload_n hx hb dX12_findTree_20 rfl (lv_at hl 1 rfl) ?_
      refine W.lcmp hx hb dX12_findTree_21 ?_
      refine lv_topi (fun z176 ez176 => ?_)
      have hz176 := l_cmp ez176
      refine lv_if_ne (tgt := 40) hx hb dX12_findTree_22 rfl (fun h177 => ?_) (fun h177 => ?_)
      · have ch177 := i_ne h177
        obtain ⟨z178, ez178⟩ : ∃ z : Int32, z = x170 + Int32.ofInt 1 := ⟨_, rfl⟩
        have hz178 := i_add ez178 (by rw [show (Int32.ofInt 1).toInt = 1 from rfl]; omega) (by rw [show (Int32.ofInt 1).toInt = 1 from rfl]; omega)
        rw [show (Int32.ofInt 1).toInt = 1 from rfl] at hz178
        refine lv_iinc (lv' := [(3, .int z178), (1, .long v), (0, .ref h0)]) (k := 0) (v := z178) hx hb dX12_findTree_40 hl rfl ez178.symm (by decide) rfl (fun ls hl => ?_)
        refine lv_goto (tgt := 2) hx hb dX12_findTree_43 rfl ?_
        have hl : lv_has ls 4 [(3, .int z178), (1, .long v), (0, .ref h0)] := lv_sub hl [0, 1, 2] rfl
        exact ih (z178) σ ls H locs (by (try dsimp only); omega) hl ⟨rfl, by (try dsimp only); omega⟩ hH
      · have ch177 := i_eq h177
        refine lv_aload_n hx hb dX12_findTree_25 rfl (lv_at hl 2 rfl) ?_
        refine m_getA 39 hF hH fk_X12_133 dX12_findTree_26 (by decide) rfl ?_
        refine lv_iload_n hx hb dX12_findTree_29 rfl (lv_at hl 0 rfl) ?_
        refine m_iald 39 16 hF hH dX12_findTree_30 (by decide) rfl rfl 0 7 rfl rfl (by omega) (by omega) (fun z179 ez179 vz179 => ?_)
        have wz179 := i_eq ez179
        refine lv_aload_n hx hb dX12_findTree_31 rfl (lv_at hl 2 rfl) ?_
        refine m_getI hF hH fk_X12_492 dX12_findTree_32 (-1) 7 rfl rfl (fun z180 ez180 vz180 => ?_)
        have wz180 := i_eq ez180
        refine lv_icmp_ne (tgt := 40) hx hb dX12_findTree_35 rfl (fun h181 => ?_) (fun h181 => ?_)
        · have ch181 := i_ne h181
          obtain ⟨z182, ez182⟩ : ∃ z : Int32, z = x170 + Int32.ofInt 1 := ⟨_, rfl⟩
          have hz182 := i_add ez182 (by rw [show (Int32.ofInt 1).toInt = 1 from rfl]; omega) (by rw [show (Int32.ofInt 1).toInt = 1 from rfl]; omega)
          rw [show (Int32.ofInt 1).toInt = 1 from rfl] at hz182
          refine lv_iinc (lv' := [(3, .int z182), (1, .long v), (0, .ref h0)]) (k := 0) (v := z182) hx hb dX12_findTree_40 hl rfl ez182.symm (by decide) rfl (fun ls hl => ?_)
          refine lv_goto (tgt := 2) hx hb dX12_findTree_43 rfl ?_
          have hl : lv_has ls 4 [(3, .int z182), (1, .long v), (0, .ref h0)] := lv_sub hl [0, 1, 2] rfl
          exact ih (z182) σ ls H locs (by (try dsimp only); omega) hl ⟨rfl, by (try dsimp only); omega⟩ hH
        · have ch181 := i_eq h181
          refine lv_iload_n hx hb dX12_findTree_38 rfl (lv_at hl 0 rfl) ?_
          exact h_reti hF hr hlk rfl dX12_findTree_39 hH.1 hle ⟨hH.2, rfl, by (try dsimp only); omega⟩
theorem dX12_eldestSession_0 : decode cX12_eldestSession 0 = .ok (.iconst (-1), 1) := by decide +kernel
theorem dX12_eldestSession_1 : decode cX12_eldestSession 1 = .ok (.istore_n 2, 1) := by decide +kernel
theorem dX12_eldestSession_2 : decode cX12_eldestSession 2 = .ok (.iconst 0, 1) := by decide +kernel
theorem dX12_eldestSession_3 : decode cX12_eldestSession 3 = .ok (.istore_n 3, 1) := by decide +kernel
theorem dX12_eldestSession_4 : decode cX12_eldestSession 4 = .ok (.iload_n 3, 1) := by decide +kernel
theorem dX12_eldestSession_5 : decode cX12_eldestSession 5 = .ok (.bipush 8, 2) := by decide +kernel
theorem dX12_eldestSession_7 : decode cX12_eldestSession 7 = .ok (.if_icmp .ge 68, 3) := by decide +kernel
theorem dX12_eldestSession_10 : decode cX12_eldestSession 10 = .ok (.aload_n 0, 1) := by decide +kernel
theorem dX12_eldestSession_11 : decode cX12_eldestSession 11 = .ok (.getfield 118, 3) := by decide +kernel
theorem dX12_eldestSession_14 : decode cX12_eldestSession 14 = .ok (.iload_n 3, 1) := by decide +kernel
theorem dX12_eldestSession_15 : decode cX12_eldestSession 15 = .ok (.laload, 1) := by decide +kernel
theorem dX12_eldestSession_16 : decode cX12_eldestSession 16 = .ok (.lconst 0, 1) := by decide +kernel
theorem dX12_eldestSession_17 : decode cX12_eldestSession 17 = .ok (.lcmp, 1) := by decide +kernel
theorem dX12_eldestSession_18 : decode cX12_eldestSession 18 = .ok (.ifCond .le 17, 3) := by decide +kernel
theorem dX12_eldestSession_21 : decode cX12_eldestSession 21 = .ok (.aload_n 0, 1) := by decide +kernel
theorem dX12_eldestSession_22 : decode cX12_eldestSession 22 = .ok (.getfield 121, 3) := by decide +kernel
theorem dX12_eldestSession_25 : decode cX12_eldestSession 25 = .ok (.iload_n 3, 1) := by decide +kernel
theorem dX12_eldestSession_26 : decode cX12_eldestSession 26 = .ok (.iaload, 1) := by decide +kernel
theorem dX12_eldestSession_27 : decode cX12_eldestSession 27 = .ok (.iload_n 1, 1) := by decide +kernel
theorem dX12_eldestSession_28 : decode cX12_eldestSession 28 = .ok (.if_icmp .ne 7, 3) := by decide +kernel
theorem dX12_eldestSession_31 : decode cX12_eldestSession 31 = .ok (.iconst 1, 1) := by decide +kernel
theorem dX12_eldestSession_32 : decode cX12_eldestSession 32 = .ok (.goto 4, 3) := by decide +kernel
theorem dX12_eldestSession_35 : decode cX12_eldestSession 35 = .ok (.iconst 0, 1) := by decide +kernel
theorem dX12_eldestSession_36 : decode cX12_eldestSession 36 = .ok (.istore 4, 2) := by decide +kernel
theorem dX12_eldestSession_38 : decode cX12_eldestSession 38 = .ok (.iload 4, 2) := by decide +kernel
theorem dX12_eldestSession_40 : decode cX12_eldestSession 40 = .ok (.ifCond .eq 27, 3) := by decide +kernel
theorem dX12_eldestSession_43 : decode cX12_eldestSession 43 = .ok (.iload_n 2, 1) := by decide +kernel
theorem dX12_eldestSession_44 : decode cX12_eldestSession 44 = .ok (.ifCond .lt 19, 3) := by decide +kernel
theorem dX12_eldestSession_47 : decode cX12_eldestSession 47 = .ok (.aload_n 0, 1) := by decide +kernel
theorem dX12_eldestSession_48 : decode cX12_eldestSession 48 = .ok (.getfield 118, 3) := by decide +kernel
theorem dX12_eldestSession_51 : decode cX12_eldestSession 51 = .ok (.iload_n 3, 1) := by decide +kernel
theorem dX12_eldestSession_52 : decode cX12_eldestSession 52 = .ok (.laload, 1) := by decide +kernel
theorem dX12_eldestSession_53 : decode cX12_eldestSession 53 = .ok (.aload_n 0, 1) := by decide +kernel
theorem dX12_eldestSession_54 : decode cX12_eldestSession 54 = .ok (.getfield 118, 3) := by decide +kernel
theorem dX12_eldestSession_57 : decode cX12_eldestSession 57 = .ok (.iload_n 2, 1) := by decide +kernel
theorem dX12_eldestSession_58 : decode cX12_eldestSession 58 = .ok (.laload, 1) := by decide +kernel
theorem dX12_eldestSession_59 : decode cX12_eldestSession 59 = .ok (.lcmp, 1) := by decide +kernel
theorem dX12_eldestSession_60 : decode cX12_eldestSession 60 = .ok (.ifCond .ge 7, 3) := by decide +kernel
theorem dX12_eldestSession_63 : decode cX12_eldestSession 63 = .ok (.iload_n 3, 1) := by decide +kernel
theorem dX12_eldestSession_64 : decode cX12_eldestSession 64 = .ok (.goto 4, 3) := by decide +kernel
theorem dX12_eldestSession_67 : decode cX12_eldestSession 67 = .ok (.iload_n 2, 1) := by decide +kernel
theorem dX12_eldestSession_68 : decode cX12_eldestSession 68 = .ok (.istore_n 2, 1) := by decide +kernel
theorem dX12_eldestSession_69 : decode cX12_eldestSession 69 = .ok (.iinc 3 1, 3) := by decide +kernel
theorem dX12_eldestSession_72 : decode cX12_eldestSession 72 = .ok (.goto (-68), 3) := by decide +kernel
theorem dX12_eldestSession_75 : decode cX12_eldestSession 75 = .ok (.iload_n 2, 1) := by decide +kernel
theorem dX12_eldestSession_76 : decode cX12_eldestSession 76 = .ok (.ireturn, 1) := by decide +kernel
set_option maxRecDepth 100000 in
set_option maxHeartbeats 4000000 in
theorem c_X12_eldestSession (l : Launch) (D : va_G) (t : Nat → ClassId) (h0 : Nat) (L : Nat → Nat) (σ : HS) (hO : OK ph τ0 σ) (hM : MdI h0 L σ) (k : Int32) (sz : Nat) : HMi ph τ0 l D t yX12_eldestSession cX12_eldestSession 5 (some .int) ({ frames := 0, cells := 0, slots := 0, locals := 0 }) σ sz [.ref h0, .int k] 0 0 (fun r σ' => MdI h0 L σ' ∧ σ' = σ ∧ (-1 ≤ r.toInt ∧ r.toInt ≤ 7)) := by
  refine h_go hO (by decide) (Nat.le_of_ble_eq_true rfl) ?_
  intro p e s m below meth c ls A hF hr hlk hAe hH0 hA hl
  unfold hB
  rw [hAe]
  clear hAe
  have hF : FX p m c cX12_eldestSession 5 s _ RX12 D t := hF
  have hx := hF.1.1
  have hb := hF.1.2.1
  have hH : MT D t A s.heap h0 L σ s.heap [] := ⟨hH0, hM⟩
  have hle : HLe σ σ := HLe.rf
  have kl_0 : (0 : Int64).toInt = 0 := rfl
  have k_m1 : ((-1) : Int32).toInt = (-1) := rfl
  have k_0 : (0 : Int32).toInt = 0 := rfl
  have k_1 : (1 : Int32).toInt = 1 := rfl
  have k_8 : (8 : Int32).toInt = 8 := rfl
  have rg_1 := i_range k
  have hl : lv_has ls 5 [(0, .ref h0), (1, .int k)] := hl
  refine lv_iconst (v := (-1)) hx hb dX12_eldestSession_0 (by decide) ?_
  refine lv_istore_n (lv' := [(2, .int (-1)), (0, .ref h0), (1, .int k)]) hx hb dX12_eldestSession_1 rfl hl (by decide) rfl (fun ls hl => ?_)
  refine lv_iconst (v := 0) hx hb dX12_eldestSession_2 (by decide) ?_
  refine lv_istore_n (lv' := [(3, .int 0), (2, .int (-1)), (0, .ref h0), (1, .int k)]) hx hb dX12_eldestSession_3 rfl hl (by decide) rfl (fun ls hl => ?_)
  have hl : lv_has ls 5 [(3, .int 0), (2, .int (-1)), (1, .int k), (0, .ref h0)] := lv_sub hl [0, 1, 3, 2] rfl
  refine m_loop (β := Int32 × Int32) (L0 := fun x => [(3, .int x.1), (2, .int x.2), (1, .int k), (0, .ref h0)]) (I := fun x σ2 => σ = σ2 ∧ (0 ≤ x.1.toInt ∧ x.1.toInt ≤ 8 ∧ -1 ≤ x.2.toInt ∧ x.2.toInt ≤ 7)) (fun x σ2 => (8 - x.1.toInt).toNat) (0, (-1)) hl ⟨rfl, by (try dsimp only); omega⟩ hH (fun x σL ls H locs hl hI hH ih => ?_)
  obtain ⟨x183, x184⟩ := x
  obtain ⟨hsL, hI⟩ := hI
  subst hsL
  have hl : lv_has ls 5 [(3, .int x183), (2, .int x184), (1, .int k), (0, .ref h0)] := hl
  have hI : 0 ≤ x183.toInt ∧ x183.toInt ≤ 8 ∧ -1 ≤ x184.toInt ∧ x184.toInt ≤ 7 := hI
  have rg_x183 := i_range x183
  have rg_x184 := i_range x184
  refine lv_iload_n hx hb dX12_eldestSession_4 rfl (lv_at hl 0 rfl) ?_
  refine lv_bipush (v := 8) hx hb dX12_eldestSession_5 (by decide) ?_
  refine lv_icmp_ge (tgt := 75) hx hb dX12_eldestSession_7 rfl (fun h185 => ?_) (fun h185 => ?_)
  · have ch185 := i_le h185
    refine lv_iload_n hx hb dX12_eldestSession_75 rfl (lv_at hl 1 rfl) ?_
    exact h_reti hF hr hlk rfl dX12_eldestSession_76 hH.1 hle ⟨hH.2, rfl, by (try dsimp only); omega⟩
  · have ch185 := i_nle h185
    refine lv_aload_n hx hb dX12_eldestSession_10 rfl (lv_at hl 3 rfl) ?_
    refine m_getA 34 hF hH fk_X12_118 dX12_eldestSession_11 (by decide) rfl ?_
    refine lv_iload_n hx hb dX12_eldestSession_14 rfl (lv_at hl 0 rfl) ?_
    refine m_lald 34 8 hF hH dX12_eldestSession_15 (by decide) rfl rfl (by omega) (by omega) (fun z186 ez186 => ?_)
    refine lv_lconst (v := 0) hx hb dX12_eldestSession_16 (by decide) ?_
    refine W.lcmp hx hb dX12_eldestSession_17 ?_
    refine lv_topi (fun z187 ez187 => ?_)
    have hz187 := l_cmp ez187
    refine lv_if_le (tgt := 35) hx hb dX12_eldestSession_18 rfl (fun h188 => ?_) (fun h188 => ?_)
    · have ch188 := i_le h188
      refine lv_iconst (v := 0) hx hb dX12_eldestSession_35 (by decide) ?_
      refine lv_istore (lv' := [(4, .int 0), (3, .int x183), (2, .int x184), (1, .int k), (0, .ref h0)]) hx hb dX12_eldestSession_36 hl (by decide) rfl (fun ls hl => ?_)
      refine lv_iload hx hb dX12_eldestSession_38 (lv_at hl 0 rfl) ?_
      refine lv_if_eq (tgt := 67) hx hb dX12_eldestSession_40 rfl (fun h189 => ?_) (fun h189 => ?_)
      · have ch189 := i_eq h189
        refine lv_iload_n hx hb dX12_eldestSession_67 rfl (lv_at hl 2 rfl) ?_
        refine lv_istore_n (lv' := [(2, .int x184), (4, .int 0), (3, .int x183), (1, .int k), (0, .ref h0)]) hx hb dX12_eldestSession_68 rfl hl (by decide) rfl (fun ls hl => ?_)
        obtain ⟨z190, ez190⟩ : ∃ z : Int32, z = x183 + Int32.ofInt 1 := ⟨_, rfl⟩
        have hz190 := i_add ez190 (by rw [show (Int32.ofInt 1).toInt = 1 from rfl]; omega) (by rw [show (Int32.ofInt 1).toInt = 1 from rfl]; omega)
        rw [show (Int32.ofInt 1).toInt = 1 from rfl] at hz190
        refine lv_iinc (lv' := [(3, .int z190), (2, .int x184), (4, .int 0), (1, .int k), (0, .ref h0)]) (k := 2) (v := z190) hx hb dX12_eldestSession_69 hl rfl ez190.symm (by decide) rfl (fun ls hl => ?_)
        refine lv_goto (tgt := 4) hx hb dX12_eldestSession_72 rfl ?_
        have hl : lv_has ls 5 [(3, .int z190), (2, .int x184), (1, .int k), (0, .ref h0)] := lv_sub hl [0, 1, 3, 4] rfl
        exact ih (z190, x184) σ ls H locs (by (try dsimp only); omega) hl ⟨rfl, by (try dsimp only); omega⟩ hH
      · have ch189 := i_ne h189
        refine lv_iload_n hx hb dX12_eldestSession_43 rfl (lv_at hl 2 rfl) ?_
        refine lv_if_lt (tgt := 63) hx hb dX12_eldestSession_44 rfl (fun h191 => ?_) (fun h191 => ?_)
        · have ch191 := i_lt h191
          refine lv_iload_n hx hb dX12_eldestSession_63 rfl (lv_at hl 1 rfl) ?_
          refine lv_goto (tgt := 68) hx hb dX12_eldestSession_64 rfl ?_
          refine lv_istore_n (lv' := [(2, .int x183), (4, .int 0), (3, .int x183), (1, .int k), (0, .ref h0)]) hx hb dX12_eldestSession_68 rfl hl (by decide) rfl (fun ls hl => ?_)
          obtain ⟨z192, ez192⟩ : ∃ z : Int32, z = x183 + Int32.ofInt 1 := ⟨_, rfl⟩
          have hz192 := i_add ez192 (by rw [show (Int32.ofInt 1).toInt = 1 from rfl]; omega) (by rw [show (Int32.ofInt 1).toInt = 1 from rfl]; omega)
          rw [show (Int32.ofInt 1).toInt = 1 from rfl] at hz192
          refine lv_iinc (lv' := [(3, .int z192), (2, .int x183), (4, .int 0), (1, .int k), (0, .ref h0)]) (k := 2) (v := z192) hx hb dX12_eldestSession_69 hl rfl ez192.symm (by decide) rfl (fun ls hl => ?_)
          refine lv_goto (tgt := 4) hx hb dX12_eldestSession_72 rfl ?_
          have hl : lv_has ls 5 [(3, .int z192), (2, .int x183), (1, .int k), (0, .ref h0)] := lv_sub hl [0, 1, 3, 4] rfl
          exact ih (z192, x183) σ ls H locs (by (try dsimp only); omega) hl ⟨rfl, by (try dsimp only); omega⟩ hH
        · have ch191 := i_nlt h191
          refine lv_aload_n hx hb dX12_eldestSession_47 rfl (lv_at hl 4 rfl) ?_
          refine m_getA 34 hF hH fk_X12_118 dX12_eldestSession_48 (by decide) rfl ?_
          refine lv_iload_n hx hb dX12_eldestSession_51 rfl (lv_at hl 1 rfl) ?_
          refine m_lald 34 8 hF hH dX12_eldestSession_52 (by decide) rfl rfl (by omega) (by omega) (fun z193 ez193 => ?_)
          refine lv_aload_n hx hb dX12_eldestSession_53 rfl (lv_at hl 4 rfl) ?_
          refine m_getA 34 hF hH fk_X12_118 dX12_eldestSession_54 (by decide) rfl ?_
          refine lv_iload_n hx hb dX12_eldestSession_57 rfl (lv_at hl 2 rfl) ?_
          refine m_lald 34 8 hF hH dX12_eldestSession_58 (by decide) rfl rfl (by omega) (by omega) (fun z194 ez194 => ?_)
          refine W.lcmp hx hb dX12_eldestSession_59 ?_
          refine lv_topi (fun z195 ez195 => ?_)
          have hz195 := l_cmp ez195
          refine lv_if_ge (tgt := 67) hx hb dX12_eldestSession_60 rfl (fun h196 => ?_) (fun h196 => ?_)
          · have ch196 := i_le h196
            refine lv_iload_n hx hb dX12_eldestSession_67 rfl (lv_at hl 2 rfl) ?_
            refine lv_istore_n (lv' := [(2, .int x184), (4, .int 0), (3, .int x183), (1, .int k), (0, .ref h0)]) hx hb dX12_eldestSession_68 rfl hl (by decide) rfl (fun ls hl => ?_)
            obtain ⟨z197, ez197⟩ : ∃ z : Int32, z = x183 + Int32.ofInt 1 := ⟨_, rfl⟩
            have hz197 := i_add ez197 (by rw [show (Int32.ofInt 1).toInt = 1 from rfl]; omega) (by rw [show (Int32.ofInt 1).toInt = 1 from rfl]; omega)
            rw [show (Int32.ofInt 1).toInt = 1 from rfl] at hz197
            refine lv_iinc (lv' := [(3, .int z197), (2, .int x184), (4, .int 0), (1, .int k), (0, .ref h0)]) (k := 2) (v := z197) hx hb dX12_eldestSession_69 hl rfl ez197.symm (by decide) rfl (fun ls hl => ?_)
            refine lv_goto (tgt := 4) hx hb dX12_eldestSession_72 rfl ?_
            have hl : lv_has ls 5 [(3, .int z197), (2, .int x184), (1, .int k), (0, .ref h0)] := lv_sub hl [0, 1, 3, 4] rfl
            exact ih (z197, x184) σ ls H locs (by (try dsimp only); omega) hl ⟨rfl, by (try dsimp only); omega⟩ hH
          · have ch196 := i_nle h196
            refine lv_iload_n hx hb dX12_eldestSession_63 rfl (lv_at hl 1 rfl) ?_
            refine lv_goto (tgt := 68) hx hb dX12_eldestSession_64 rfl ?_
            refine lv_istore_n (lv' := [(2, .int x183), (4, .int 0), (3, .int x183), (1, .int k), (0, .ref h0)]) hx hb dX12_eldestSession_68 rfl hl (by decide) rfl (fun ls hl => ?_)
            obtain ⟨z198, ez198⟩ : ∃ z : Int32, z = x183 + Int32.ofInt 1 := ⟨_, rfl⟩
            have hz198 := i_add ez198 (by rw [show (Int32.ofInt 1).toInt = 1 from rfl]; omega) (by rw [show (Int32.ofInt 1).toInt = 1 from rfl]; omega)
            rw [show (Int32.ofInt 1).toInt = 1 from rfl] at hz198
            refine lv_iinc (lv' := [(3, .int z198), (2, .int x183), (4, .int 0), (1, .int k), (0, .ref h0)]) (k := 2) (v := z198) hx hb dX12_eldestSession_69 hl rfl ez198.symm (by decide) rfl (fun ls hl => ?_)
            refine lv_goto (tgt := 4) hx hb dX12_eldestSession_72 rfl ?_
            have hl : lv_has ls 5 [(3, .int z198), (2, .int x183), (1, .int k), (0, .ref h0)] := lv_sub hl [0, 1, 3, 4] rfl
            exact ih (z198, x183) σ ls H locs (by (try dsimp only); omega) hl ⟨rfl, by (try dsimp only); omega⟩ hH
    · have ch188 := i_nle h188
      refine lv_aload_n hx hb dX12_eldestSession_21 rfl (lv_at hl 3 rfl) ?_
      refine m_getA 35 hF hH fk_X12_121 dX12_eldestSession_22 (by decide) rfl ?_
      refine lv_iload_n hx hb dX12_eldestSession_25 rfl (lv_at hl 0 rfl) ?_
      refine m_iald 35 8 hF hH dX12_eldestSession_26 (by decide) rfl rfl 0 5 rfl rfl (by omega) (by omega) (fun z199 ez199 vz199 => ?_)
      have wz199 := i_eq ez199
      refine lv_iload_n hx hb dX12_eldestSession_27 rfl (lv_at hl 2 rfl) ?_
      refine lv_icmp_ne (tgt := 35) hx hb dX12_eldestSession_28 rfl (fun h200 => ?_) (fun h200 => ?_)
      · have ch200 := i_ne h200
        refine lv_iconst (v := 0) hx hb dX12_eldestSession_35 (by decide) ?_
        refine lv_istore (lv' := [(4, .int 0), (3, .int x183), (2, .int x184), (1, .int k), (0, .ref h0)]) hx hb dX12_eldestSession_36 hl (by decide) rfl (fun ls hl => ?_)
        refine lv_iload hx hb dX12_eldestSession_38 (lv_at hl 0 rfl) ?_
        refine lv_if_eq (tgt := 67) hx hb dX12_eldestSession_40 rfl (fun h201 => ?_) (fun h201 => ?_)
        · have ch201 := i_eq h201
          refine lv_iload_n hx hb dX12_eldestSession_67 rfl (lv_at hl 2 rfl) ?_
          refine lv_istore_n (lv' := [(2, .int x184), (4, .int 0), (3, .int x183), (1, .int k), (0, .ref h0)]) hx hb dX12_eldestSession_68 rfl hl (by decide) rfl (fun ls hl => ?_)
          obtain ⟨z202, ez202⟩ : ∃ z : Int32, z = x183 + Int32.ofInt 1 := ⟨_, rfl⟩
          have hz202 := i_add ez202 (by rw [show (Int32.ofInt 1).toInt = 1 from rfl]; omega) (by rw [show (Int32.ofInt 1).toInt = 1 from rfl]; omega)
          rw [show (Int32.ofInt 1).toInt = 1 from rfl] at hz202
          refine lv_iinc (lv' := [(3, .int z202), (2, .int x184), (4, .int 0), (1, .int k), (0, .ref h0)]) (k := 2) (v := z202) hx hb dX12_eldestSession_69 hl rfl ez202.symm (by decide) rfl (fun ls hl => ?_)
          refine lv_goto (tgt := 4) hx hb dX12_eldestSession_72 rfl ?_
          have hl : lv_has ls 5 [(3, .int z202), (2, .int x184), (1, .int k), (0, .ref h0)] := lv_sub hl [0, 1, 3, 4] rfl
          exact ih (z202, x184) σ ls H locs (by (try dsimp only); omega) hl ⟨rfl, by (try dsimp only); omega⟩ hH
        · have ch201 := i_ne h201
          refine lv_iload_n hx hb dX12_eldestSession_43 rfl (lv_at hl 2 rfl) ?_
          refine lv_if_lt (tgt := 63) hx hb dX12_eldestSession_44 rfl (fun h203 => ?_) (fun h203 => ?_)
          · have ch203 := i_lt h203
            refine lv_iload_n hx hb dX12_eldestSession_63 rfl (lv_at hl 1 rfl) ?_
            refine lv_goto (tgt := 68) hx hb dX12_eldestSession_64 rfl ?_
            refine lv_istore_n (lv' := [(2, .int x183), (4, .int 0), (3, .int x183), (1, .int k), (0, .ref h0)]) hx hb dX12_eldestSession_68 rfl hl (by decide) rfl (fun ls hl => ?_)
            obtain ⟨z204, ez204⟩ : ∃ z : Int32, z = x183 + Int32.ofInt 1 := ⟨_, rfl⟩
            have hz204 := i_add ez204 (by rw [show (Int32.ofInt 1).toInt = 1 from rfl]; omega) (by rw [show (Int32.ofInt 1).toInt = 1 from rfl]; omega)
            rw [show (Int32.ofInt 1).toInt = 1 from rfl] at hz204
            refine lv_iinc (lv' := [(3, .int z204), (2, .int x183), (4, .int 0), (1, .int k), (0, .ref h0)]) (k := 2) (v := z204) hx hb dX12_eldestSession_69 hl rfl ez204.symm (by decide) rfl (fun ls hl => ?_)
            refine lv_goto (tgt := 4) hx hb dX12_eldestSession_72 rfl ?_
            have hl : lv_has ls 5 [(3, .int z204), (2, .int x183), (1, .int k), (0, .ref h0)] := lv_sub hl [0, 1, 3, 4] rfl
            exact ih (z204, x183) σ ls H locs (by (try dsimp only); omega) hl ⟨rfl, by (try dsimp only); omega⟩ hH
          · have ch203 := i_nlt h203
            refine lv_aload_n hx hb dX12_eldestSession_47 rfl (lv_at hl 4 rfl) ?_
            refine m_getA 34 hF hH fk_X12_118 dX12_eldestSession_48 (by decide) rfl ?_
            refine lv_iload_n hx hb dX12_eldestSession_51 rfl (lv_at hl 1 rfl) ?_
            refine m_lald 34 8 hF hH dX12_eldestSession_52 (by decide) rfl rfl (by omega) (by omega) (fun z205 ez205 => ?_)
            refine lv_aload_n hx hb dX12_eldestSession_53 rfl (lv_at hl 4 rfl) ?_
            refine m_getA 34 hF hH fk_X12_118 dX12_eldestSession_54 (by decide) rfl ?_
            refine lv_iload_n hx hb dX12_eldestSession_57 rfl (lv_at hl 2 rfl) ?_
            refine m_lald 34 8 hF hH dX12_eldestSession_58 (by decide) rfl rfl (by omega) (by omega) (fun z206 ez206 => ?_)
            refine W.lcmp hx hb dX12_eldestSession_59 ?_
            refine lv_topi (fun z207 ez207 => ?_)
            have hz207 := l_cmp ez207
            refine lv_if_ge (tgt := 67) hx hb dX12_eldestSession_60 rfl (fun h208 => ?_) (fun h208 => ?_)
            · have ch208 := i_le h208
              refine lv_iload_n hx hb dX12_eldestSession_67 rfl (lv_at hl 2 rfl) ?_
              refine lv_istore_n (lv' := [(2, .int x184), (4, .int 0), (3, .int x183), (1, .int k), (0, .ref h0)]) hx hb dX12_eldestSession_68 rfl hl (by decide) rfl (fun ls hl => ?_)
              obtain ⟨z209, ez209⟩ : ∃ z : Int32, z = x183 + Int32.ofInt 1 := ⟨_, rfl⟩
              have hz209 := i_add ez209 (by rw [show (Int32.ofInt 1).toInt = 1 from rfl]; omega) (by rw [show (Int32.ofInt 1).toInt = 1 from rfl]; omega)
              rw [show (Int32.ofInt 1).toInt = 1 from rfl] at hz209
              refine lv_iinc (lv' := [(3, .int z209), (2, .int x184), (4, .int 0), (1, .int k), (0, .ref h0)]) (k := 2) (v := z209) hx hb dX12_eldestSession_69 hl rfl ez209.symm (by decide) rfl (fun ls hl => ?_)
              refine lv_goto (tgt := 4) hx hb dX12_eldestSession_72 rfl ?_
              have hl : lv_has ls 5 [(3, .int z209), (2, .int x184), (1, .int k), (0, .ref h0)] := lv_sub hl [0, 1, 3, 4] rfl
              exact ih (z209, x184) σ ls H locs (by (try dsimp only); omega) hl ⟨rfl, by (try dsimp only); omega⟩ hH
            · have ch208 := i_nle h208
              refine lv_iload_n hx hb dX12_eldestSession_63 rfl (lv_at hl 1 rfl) ?_
              refine lv_goto (tgt := 68) hx hb dX12_eldestSession_64 rfl ?_
              refine lv_istore_n (lv' := [(2, .int x183), (4, .int 0), (3, .int x183), (1, .int k), (0, .ref h0)]) hx hb dX12_eldestSession_68 rfl hl (by decide) rfl (fun ls hl => ?_)
              obtain ⟨z210, ez210⟩ : ∃ z : Int32, z = x183 + Int32.ofInt 1 := ⟨_, rfl⟩
              have hz210 := i_add ez210 (by rw [show (Int32.ofInt 1).toInt = 1 from rfl]; omega) (by rw [show (Int32.ofInt 1).toInt = 1 from rfl]; omega)
              rw [show (Int32.ofInt 1).toInt = 1 from rfl] at hz210
              refine lv_iinc (lv' := [(3, .int z210), (2, .int x183), (4, .int 0), (1, .int k), (0, .ref h0)]) (k := 2) (v := z210) hx hb dX12_eldestSession_69 hl rfl ez210.symm (by decide) rfl (fun ls hl => ?_)
              refine lv_goto (tgt := 4) hx hb dX12_eldestSession_72 rfl ?_
              have hl : lv_has ls 5 [(3, .int z210), (2, .int x183), (1, .int k), (0, .ref h0)] := lv_sub hl [0, 1, 3, 4] rfl
              exact ih (z210, x183) σ ls H locs (by (try dsimp only); omega) hl ⟨rfl, by (try dsimp only); omega⟩ hH
      · have ch200 := i_eq h200
        refine lv_iconst (v := 1) hx hb dX12_eldestSession_31 (by decide) ?_
        refine lv_goto (tgt := 36) hx hb dX12_eldestSession_32 rfl ?_
        refine lv_istore (lv' := [(4, .int 1), (3, .int x183), (2, .int x184), (1, .int k), (0, .ref h0)]) hx hb dX12_eldestSession_36 hl (by decide) rfl (fun ls hl => ?_)
        refine lv_iload hx hb dX12_eldestSession_38 (lv_at hl 0 rfl) ?_
        refine lv_if_eq (tgt := 67) hx hb dX12_eldestSession_40 rfl (fun h211 => ?_) (fun h211 => ?_)
        · have ch211 := i_eq h211
          refine lv_iload_n hx hb dX12_eldestSession_67 rfl (lv_at hl 2 rfl) ?_
          refine lv_istore_n (lv' := [(2, .int x184), (4, .int 1), (3, .int x183), (1, .int k), (0, .ref h0)]) hx hb dX12_eldestSession_68 rfl hl (by decide) rfl (fun ls hl => ?_)
          obtain ⟨z212, ez212⟩ : ∃ z : Int32, z = x183 + Int32.ofInt 1 := ⟨_, rfl⟩
          have hz212 := i_add ez212 (by rw [show (Int32.ofInt 1).toInt = 1 from rfl]; omega) (by rw [show (Int32.ofInt 1).toInt = 1 from rfl]; omega)
          rw [show (Int32.ofInt 1).toInt = 1 from rfl] at hz212
          refine lv_iinc (lv' := [(3, .int z212), (2, .int x184), (4, .int 1), (1, .int k), (0, .ref h0)]) (k := 2) (v := z212) hx hb dX12_eldestSession_69 hl rfl ez212.symm (by decide) rfl (fun ls hl => ?_)
          refine lv_goto (tgt := 4) hx hb dX12_eldestSession_72 rfl ?_
          have hl : lv_has ls 5 [(3, .int z212), (2, .int x184), (1, .int k), (0, .ref h0)] := lv_sub hl [0, 1, 3, 4] rfl
          exact ih (z212, x184) σ ls H locs (by (try dsimp only); omega) hl ⟨rfl, by (try dsimp only); omega⟩ hH
        · have ch211 := i_ne h211
          refine lv_iload_n hx hb dX12_eldestSession_43 rfl (lv_at hl 2 rfl) ?_
          refine lv_if_lt (tgt := 63) hx hb dX12_eldestSession_44 rfl (fun h213 => ?_) (fun h213 => ?_)
          · have ch213 := i_lt h213
            refine lv_iload_n hx hb dX12_eldestSession_63 rfl (lv_at hl 1 rfl) ?_
            refine lv_goto (tgt := 68) hx hb dX12_eldestSession_64 rfl ?_
            refine lv_istore_n (lv' := [(2, .int x183), (4, .int 1), (3, .int x183), (1, .int k), (0, .ref h0)]) hx hb dX12_eldestSession_68 rfl hl (by decide) rfl (fun ls hl => ?_)
            obtain ⟨z214, ez214⟩ : ∃ z : Int32, z = x183 + Int32.ofInt 1 := ⟨_, rfl⟩
            have hz214 := i_add ez214 (by rw [show (Int32.ofInt 1).toInt = 1 from rfl]; omega) (by rw [show (Int32.ofInt 1).toInt = 1 from rfl]; omega)
            rw [show (Int32.ofInt 1).toInt = 1 from rfl] at hz214
            refine lv_iinc (lv' := [(3, .int z214), (2, .int x183), (4, .int 1), (1, .int k), (0, .ref h0)]) (k := 2) (v := z214) hx hb dX12_eldestSession_69 hl rfl ez214.symm (by decide) rfl (fun ls hl => ?_)
            refine lv_goto (tgt := 4) hx hb dX12_eldestSession_72 rfl ?_
            have hl : lv_has ls 5 [(3, .int z214), (2, .int x183), (1, .int k), (0, .ref h0)] := lv_sub hl [0, 1, 3, 4] rfl
            exact ih (z214, x183) σ ls H locs (by (try dsimp only); omega) hl ⟨rfl, by (try dsimp only); omega⟩ hH
          · have ch213 := i_nlt h213
            refine lv_aload_n hx hb dX12_eldestSession_47 rfl (lv_at hl 4 rfl) ?_
            refine m_getA 34 hF hH fk_X12_118 dX12_eldestSession_48 (by decide) rfl ?_
            refine lv_iload_n hx hb dX12_eldestSession_51 rfl (lv_at hl 1 rfl) ?_
            refine m_lald 34 8 hF hH dX12_eldestSession_52 (by decide) rfl rfl (by omega) (by omega) (fun z215 ez215 => ?_)
            refine lv_aload_n hx hb dX12_eldestSession_53 rfl (lv_at hl 4 rfl) ?_
            refine m_getA 34 hF hH fk_X12_118 dX12_eldestSession_54 (by decide) rfl ?_
            refine lv_iload_n hx hb dX12_eldestSession_57 rfl (lv_at hl 2 rfl) ?_
            refine m_lald 34 8 hF hH dX12_eldestSession_58 (by decide) rfl rfl (by omega) (by omega) (fun z216 ez216 => ?_)
            refine W.lcmp hx hb dX12_eldestSession_59 ?_
            refine lv_topi (fun z217 ez217 => ?_)
            have hz217 := l_cmp ez217
            refine lv_if_ge (tgt := 67) hx hb dX12_eldestSession_60 rfl (fun h218 => ?_) (fun h218 => ?_)
            · have ch218 := i_le h218
              refine lv_iload_n hx hb dX12_eldestSession_67 rfl (lv_at hl 2 rfl) ?_
              refine lv_istore_n (lv' := [(2, .int x184), (4, .int 1), (3, .int x183), (1, .int k), (0, .ref h0)]) hx hb dX12_eldestSession_68 rfl hl (by decide) rfl (fun ls hl => ?_)
              obtain ⟨z219, ez219⟩ : ∃ z : Int32, z = x183 + Int32.ofInt 1 := ⟨_, rfl⟩
              have hz219 := i_add ez219 (by rw [show (Int32.ofInt 1).toInt = 1 from rfl]; omega) (by rw [show (Int32.ofInt 1).toInt = 1 from rfl]; omega)
              rw [show (Int32.ofInt 1).toInt = 1 from rfl] at hz219
              refine lv_iinc (lv' := [(3, .int z219), (2, .int x184), (4, .int 1), (1, .int k), (0, .ref h0)]) (k := 2) (v := z219) hx hb dX12_eldestSession_69 hl rfl ez219.symm (by decide) rfl (fun ls hl => ?_)
              refine lv_goto (tgt := 4) hx hb dX12_eldestSession_72 rfl ?_
              have hl : lv_has ls 5 [(3, .int z219), (2, .int x184), (1, .int k), (0, .ref h0)] := lv_sub hl [0, 1, 3, 4] rfl
              exact ih (z219, x184) σ ls H locs (by (try dsimp only); omega) hl ⟨rfl, by (try dsimp only); omega⟩ hH
            · have ch218 := i_nle h218
              refine lv_iload_n hx hb dX12_eldestSession_63 rfl (lv_at hl 1 rfl) ?_
              refine lv_goto (tgt := 68) hx hb dX12_eldestSession_64 rfl ?_
              refine lv_istore_n (lv' := [(2, .int x183), (4, .int 1), (3, .int x183), (1, .int k), (0, .ref h0)]) hx hb dX12_eldestSession_68 rfl hl (by decide) rfl (fun ls hl => ?_)
              obtain ⟨z220, ez220⟩ : ∃ z : Int32, z = x183 + Int32.ofInt 1 := ⟨_, rfl⟩
              have hz220 := i_add ez220 (by rw [show (Int32.ofInt 1).toInt = 1 from rfl]; omega) (by rw [show (Int32.ofInt 1).toInt = 1 from rfl]; omega)
              rw [show (Int32.ofInt 1).toInt = 1 from rfl] at hz220
              refine lv_iinc (lv' := [(3, .int z220), (2, .int x183), (4, .int 1), (1, .int k), (0, .ref h0)]) (k := 2) (v := z220) hx hb dX12_eldestSession_69 hl rfl ez220.symm (by decide) rfl (fun ls hl => ?_)
              refine lv_goto (tgt := 4) hx hb dX12_eldestSession_72 rfl ?_
              have hl : lv_has ls 5 [(3, .int z220), (2, .int x183), (1, .int k), (0, .ref h0)] := lv_sub hl [0, 1, 3, 4] rfl
              exact ih (z220, x183) σ ls H locs (by (try dsimp only); omega) hl ⟨rfl, by (try dsimp only); omega⟩ hH
theorem dX12_eldestTree_0 : decode cX12_eldestTree 0 = .ok (.iconst (-1), 1) := by decide +kernel
theorem dX12_eldestTree_1 : decode cX12_eldestTree 1 = .ok (.istore_n 2, 1) := by decide +kernel
theorem dX12_eldestTree_2 : decode cX12_eldestTree 2 = .ok (.iconst 0, 1) := by decide +kernel
theorem dX12_eldestTree_3 : decode cX12_eldestTree 3 = .ok (.istore_n 3, 1) := by decide +kernel
theorem dX12_eldestTree_4 : decode cX12_eldestTree 4 = .ok (.iload_n 3, 1) := by decide +kernel
theorem dX12_eldestTree_5 : decode cX12_eldestTree 5 = .ok (.bipush 16, 2) := by decide +kernel
theorem dX12_eldestTree_7 : decode cX12_eldestTree 7 = .ok (.if_icmp .ge 68, 3) := by decide +kernel
theorem dX12_eldestTree_10 : decode cX12_eldestTree 10 = .ok (.aload_n 0, 1) := by decide +kernel
theorem dX12_eldestTree_11 : decode cX12_eldestTree 11 = .ok (.getfield 130, 3) := by decide +kernel
theorem dX12_eldestTree_14 : decode cX12_eldestTree 14 = .ok (.iload_n 3, 1) := by decide +kernel
theorem dX12_eldestTree_15 : decode cX12_eldestTree 15 = .ok (.laload, 1) := by decide +kernel
theorem dX12_eldestTree_16 : decode cX12_eldestTree 16 = .ok (.lconst 0, 1) := by decide +kernel
theorem dX12_eldestTree_17 : decode cX12_eldestTree 17 = .ok (.lcmp, 1) := by decide +kernel
theorem dX12_eldestTree_18 : decode cX12_eldestTree 18 = .ok (.ifCond .le 17, 3) := by decide +kernel
theorem dX12_eldestTree_21 : decode cX12_eldestTree 21 = .ok (.aload_n 0, 1) := by decide +kernel
theorem dX12_eldestTree_22 : decode cX12_eldestTree 22 = .ok (.getfield 133, 3) := by decide +kernel
theorem dX12_eldestTree_25 : decode cX12_eldestTree 25 = .ok (.iload_n 3, 1) := by decide +kernel
theorem dX12_eldestTree_26 : decode cX12_eldestTree 26 = .ok (.iaload, 1) := by decide +kernel
theorem dX12_eldestTree_27 : decode cX12_eldestTree 27 = .ok (.iload_n 1, 1) := by decide +kernel
theorem dX12_eldestTree_28 : decode cX12_eldestTree 28 = .ok (.if_icmp .ne 7, 3) := by decide +kernel
theorem dX12_eldestTree_31 : decode cX12_eldestTree 31 = .ok (.iconst 1, 1) := by decide +kernel
theorem dX12_eldestTree_32 : decode cX12_eldestTree 32 = .ok (.goto 4, 3) := by decide +kernel
theorem dX12_eldestTree_35 : decode cX12_eldestTree 35 = .ok (.iconst 0, 1) := by decide +kernel
theorem dX12_eldestTree_36 : decode cX12_eldestTree 36 = .ok (.istore 4, 2) := by decide +kernel
theorem dX12_eldestTree_38 : decode cX12_eldestTree 38 = .ok (.iload 4, 2) := by decide +kernel
theorem dX12_eldestTree_40 : decode cX12_eldestTree 40 = .ok (.ifCond .eq 27, 3) := by decide +kernel
theorem dX12_eldestTree_43 : decode cX12_eldestTree 43 = .ok (.iload_n 2, 1) := by decide +kernel
theorem dX12_eldestTree_44 : decode cX12_eldestTree 44 = .ok (.ifCond .lt 19, 3) := by decide +kernel
theorem dX12_eldestTree_47 : decode cX12_eldestTree 47 = .ok (.aload_n 0, 1) := by decide +kernel
theorem dX12_eldestTree_48 : decode cX12_eldestTree 48 = .ok (.getfield 130, 3) := by decide +kernel
theorem dX12_eldestTree_51 : decode cX12_eldestTree 51 = .ok (.iload_n 3, 1) := by decide +kernel
theorem dX12_eldestTree_52 : decode cX12_eldestTree 52 = .ok (.laload, 1) := by decide +kernel
theorem dX12_eldestTree_53 : decode cX12_eldestTree 53 = .ok (.aload_n 0, 1) := by decide +kernel
theorem dX12_eldestTree_54 : decode cX12_eldestTree 54 = .ok (.getfield 130, 3) := by decide +kernel
theorem dX12_eldestTree_57 : decode cX12_eldestTree 57 = .ok (.iload_n 2, 1) := by decide +kernel
theorem dX12_eldestTree_58 : decode cX12_eldestTree 58 = .ok (.laload, 1) := by decide +kernel
theorem dX12_eldestTree_59 : decode cX12_eldestTree 59 = .ok (.lcmp, 1) := by decide +kernel
theorem dX12_eldestTree_60 : decode cX12_eldestTree 60 = .ok (.ifCond .ge 7, 3) := by decide +kernel
theorem dX12_eldestTree_63 : decode cX12_eldestTree 63 = .ok (.iload_n 3, 1) := by decide +kernel
theorem dX12_eldestTree_64 : decode cX12_eldestTree 64 = .ok (.goto 4, 3) := by decide +kernel
theorem dX12_eldestTree_67 : decode cX12_eldestTree 67 = .ok (.iload_n 2, 1) := by decide +kernel
theorem dX12_eldestTree_68 : decode cX12_eldestTree 68 = .ok (.istore_n 2, 1) := by decide +kernel
theorem dX12_eldestTree_69 : decode cX12_eldestTree 69 = .ok (.iinc 3 1, 3) := by decide +kernel
theorem dX12_eldestTree_72 : decode cX12_eldestTree 72 = .ok (.goto (-68), 3) := by decide +kernel
theorem dX12_eldestTree_75 : decode cX12_eldestTree 75 = .ok (.iload_n 2, 1) := by decide +kernel
theorem dX12_eldestTree_76 : decode cX12_eldestTree 76 = .ok (.ireturn, 1) := by decide +kernel
set_option maxRecDepth 100000 in
set_option maxHeartbeats 4000000 in
theorem c_X12_eldestTree (l : Launch) (D : va_G) (t : Nat → ClassId) (h0 : Nat) (L : Nat → Nat) (σ : HS) (hO : OK ph τ0 σ) (hM : MdI h0 L σ) (k : Int32) (sz : Nat) : HMi ph τ0 l D t yX12_eldestTree cX12_eldestTree 5 (some .int) ({ frames := 0, cells := 0, slots := 0, locals := 0 }) σ sz [.ref h0, .int k] 0 0 (fun r σ' => MdI h0 L σ' ∧ σ' = σ ∧ (-1 ≤ r.toInt ∧ r.toInt ≤ 15)) := by
  refine h_go hO (by decide) (Nat.le_of_ble_eq_true rfl) ?_
  intro p e s m below meth c ls A hF hr hlk hAe hH0 hA hl
  unfold hB
  rw [hAe]
  clear hAe
  have hF : FX p m c cX12_eldestTree 5 s _ RX12 D t := hF
  have hx := hF.1.1
  have hb := hF.1.2.1
  have hH : MT D t A s.heap h0 L σ s.heap [] := ⟨hH0, hM⟩
  have hle : HLe σ σ := HLe.rf
  have kl_0 : (0 : Int64).toInt = 0 := rfl
  have k_m1 : ((-1) : Int32).toInt = (-1) := rfl
  have k_0 : (0 : Int32).toInt = 0 := rfl
  have k_1 : (1 : Int32).toInt = 1 := rfl
  have k_16 : (16 : Int32).toInt = 16 := rfl
  have rg_1 := i_range k
  have hl : lv_has ls 5 [(0, .ref h0), (1, .int k)] := hl
  refine lv_iconst (v := (-1)) hx hb dX12_eldestTree_0 (by decide) ?_
  refine lv_istore_n (lv' := [(2, .int (-1)), (0, .ref h0), (1, .int k)]) hx hb dX12_eldestTree_1 rfl hl (by decide) rfl (fun ls hl => ?_)
  refine lv_iconst (v := 0) hx hb dX12_eldestTree_2 (by decide) ?_
  refine lv_istore_n (lv' := [(3, .int 0), (2, .int (-1)), (0, .ref h0), (1, .int k)]) hx hb dX12_eldestTree_3 rfl hl (by decide) rfl (fun ls hl => ?_)
  have hl : lv_has ls 5 [(3, .int 0), (2, .int (-1)), (1, .int k), (0, .ref h0)] := lv_sub hl [0, 1, 3, 2] rfl
  refine m_loop (β := Int32 × Int32) (L0 := fun x => [(3, .int x.1), (2, .int x.2), (1, .int k), (0, .ref h0)]) (I := fun x σ2 => σ = σ2 ∧ (0 ≤ x.1.toInt ∧ x.1.toInt ≤ 16 ∧ -1 ≤ x.2.toInt ∧ x.2.toInt ≤ 15)) (fun x σ2 => (16 - x.1.toInt).toNat) (0, (-1)) hl ⟨rfl, by (try dsimp only); omega⟩ hH (fun x σL ls H locs hl hI hH ih => ?_)
  obtain ⟨x221, x222⟩ := x
  obtain ⟨hsL, hI⟩ := hI
  subst hsL
  have hl : lv_has ls 5 [(3, .int x221), (2, .int x222), (1, .int k), (0, .ref h0)] := hl
  have hI : 0 ≤ x221.toInt ∧ x221.toInt ≤ 16 ∧ -1 ≤ x222.toInt ∧ x222.toInt ≤ 15 := hI
  have rg_x221 := i_range x221
  have rg_x222 := i_range x222
  refine lv_iload_n hx hb dX12_eldestTree_4 rfl (lv_at hl 0 rfl) ?_
  refine lv_bipush (v := 16) hx hb dX12_eldestTree_5 (by decide) ?_
  refine lv_icmp_ge (tgt := 75) hx hb dX12_eldestTree_7 rfl (fun h223 => ?_) (fun h223 => ?_)
  · have ch223 := i_le h223
    refine lv_iload_n hx hb dX12_eldestTree_75 rfl (lv_at hl 1 rfl) ?_
    exact h_reti hF hr hlk rfl dX12_eldestTree_76 hH.1 hle ⟨hH.2, rfl, by (try dsimp only); omega⟩
  · have ch223 := i_nle h223
    refine lv_aload_n hx hb dX12_eldestTree_10 rfl (lv_at hl 3 rfl) ?_
    refine m_getA 38 hF hH fk_X12_130 dX12_eldestTree_11 (by decide) rfl ?_
    refine lv_iload_n hx hb dX12_eldestTree_14 rfl (lv_at hl 0 rfl) ?_
    refine m_lald 38 16 hF hH dX12_eldestTree_15 (by decide) rfl rfl (by omega) (by omega) (fun z224 ez224 => ?_)
    refine lv_lconst (v := 0) hx hb dX12_eldestTree_16 (by decide) ?_
    refine W.lcmp hx hb dX12_eldestTree_17 ?_
    refine lv_topi (fun z225 ez225 => ?_)
    have hz225 := l_cmp ez225
    refine lv_if_le (tgt := 35) hx hb dX12_eldestTree_18 rfl (fun h226 => ?_) (fun h226 => ?_)
    · have ch226 := i_le h226
      refine lv_iconst (v := 0) hx hb dX12_eldestTree_35 (by decide) ?_
      refine lv_istore (lv' := [(4, .int 0), (3, .int x221), (2, .int x222), (1, .int k), (0, .ref h0)]) hx hb dX12_eldestTree_36 hl (by decide) rfl (fun ls hl => ?_)
      refine lv_iload hx hb dX12_eldestTree_38 (lv_at hl 0 rfl) ?_
      refine lv_if_eq (tgt := 67) hx hb dX12_eldestTree_40 rfl (fun h227 => ?_) (fun h227 => ?_)
      · have ch227 := i_eq h227
        refine lv_iload_n hx hb dX12_eldestTree_67 rfl (lv_at hl 2 rfl) ?_
        refine lv_istore_n (lv' := [(2, .int x222), (4, .int 0), (3, .int x221), (1, .int k), (0, .ref h0)]) hx hb dX12_eldestTree_68 rfl hl (by decide) rfl (fun ls hl => ?_)
        obtain ⟨z228, ez228⟩ : ∃ z : Int32, z = x221 + Int32.ofInt 1 := ⟨_, rfl⟩
        have hz228 := i_add ez228 (by rw [show (Int32.ofInt 1).toInt = 1 from rfl]; omega) (by rw [show (Int32.ofInt 1).toInt = 1 from rfl]; omega)
        rw [show (Int32.ofInt 1).toInt = 1 from rfl] at hz228
        refine lv_iinc (lv' := [(3, .int z228), (2, .int x222), (4, .int 0), (1, .int k), (0, .ref h0)]) (k := 2) (v := z228) hx hb dX12_eldestTree_69 hl rfl ez228.symm (by decide) rfl (fun ls hl => ?_)
        refine lv_goto (tgt := 4) hx hb dX12_eldestTree_72 rfl ?_
        have hl : lv_has ls 5 [(3, .int z228), (2, .int x222), (1, .int k), (0, .ref h0)] := lv_sub hl [0, 1, 3, 4] rfl
        exact ih (z228, x222) σ ls H locs (by (try dsimp only); omega) hl ⟨rfl, by (try dsimp only); omega⟩ hH
      · have ch227 := i_ne h227
        refine lv_iload_n hx hb dX12_eldestTree_43 rfl (lv_at hl 2 rfl) ?_
        refine lv_if_lt (tgt := 63) hx hb dX12_eldestTree_44 rfl (fun h229 => ?_) (fun h229 => ?_)
        · have ch229 := i_lt h229
          refine lv_iload_n hx hb dX12_eldestTree_63 rfl (lv_at hl 1 rfl) ?_
          refine lv_goto (tgt := 68) hx hb dX12_eldestTree_64 rfl ?_
          refine lv_istore_n (lv' := [(2, .int x221), (4, .int 0), (3, .int x221), (1, .int k), (0, .ref h0)]) hx hb dX12_eldestTree_68 rfl hl (by decide) rfl (fun ls hl => ?_)
          obtain ⟨z230, ez230⟩ : ∃ z : Int32, z = x221 + Int32.ofInt 1 := ⟨_, rfl⟩
          have hz230 := i_add ez230 (by rw [show (Int32.ofInt 1).toInt = 1 from rfl]; omega) (by rw [show (Int32.ofInt 1).toInt = 1 from rfl]; omega)
          rw [show (Int32.ofInt 1).toInt = 1 from rfl] at hz230
          refine lv_iinc (lv' := [(3, .int z230), (2, .int x221), (4, .int 0), (1, .int k), (0, .ref h0)]) (k := 2) (v := z230) hx hb dX12_eldestTree_69 hl rfl ez230.symm (by decide) rfl (fun ls hl => ?_)
          refine lv_goto (tgt := 4) hx hb dX12_eldestTree_72 rfl ?_
          have hl : lv_has ls 5 [(3, .int z230), (2, .int x221), (1, .int k), (0, .ref h0)] := lv_sub hl [0, 1, 3, 4] rfl
          exact ih (z230, x221) σ ls H locs (by (try dsimp only); omega) hl ⟨rfl, by (try dsimp only); omega⟩ hH
        · have ch229 := i_nlt h229
          refine lv_aload_n hx hb dX12_eldestTree_47 rfl (lv_at hl 4 rfl) ?_
          refine m_getA 38 hF hH fk_X12_130 dX12_eldestTree_48 (by decide) rfl ?_
          refine lv_iload_n hx hb dX12_eldestTree_51 rfl (lv_at hl 1 rfl) ?_
          refine m_lald 38 16 hF hH dX12_eldestTree_52 (by decide) rfl rfl (by omega) (by omega) (fun z231 ez231 => ?_)
          refine lv_aload_n hx hb dX12_eldestTree_53 rfl (lv_at hl 4 rfl) ?_
          refine m_getA 38 hF hH fk_X12_130 dX12_eldestTree_54 (by decide) rfl ?_
          refine lv_iload_n hx hb dX12_eldestTree_57 rfl (lv_at hl 2 rfl) ?_
          refine m_lald 38 16 hF hH dX12_eldestTree_58 (by decide) rfl rfl (by omega) (by omega) (fun z232 ez232 => ?_)
          refine W.lcmp hx hb dX12_eldestTree_59 ?_
          refine lv_topi (fun z233 ez233 => ?_)
          have hz233 := l_cmp ez233
          refine lv_if_ge (tgt := 67) hx hb dX12_eldestTree_60 rfl (fun h234 => ?_) (fun h234 => ?_)
          · have ch234 := i_le h234
            refine lv_iload_n hx hb dX12_eldestTree_67 rfl (lv_at hl 2 rfl) ?_
            refine lv_istore_n (lv' := [(2, .int x222), (4, .int 0), (3, .int x221), (1, .int k), (0, .ref h0)]) hx hb dX12_eldestTree_68 rfl hl (by decide) rfl (fun ls hl => ?_)
            obtain ⟨z235, ez235⟩ : ∃ z : Int32, z = x221 + Int32.ofInt 1 := ⟨_, rfl⟩
            have hz235 := i_add ez235 (by rw [show (Int32.ofInt 1).toInt = 1 from rfl]; omega) (by rw [show (Int32.ofInt 1).toInt = 1 from rfl]; omega)
            rw [show (Int32.ofInt 1).toInt = 1 from rfl] at hz235
            refine lv_iinc (lv' := [(3, .int z235), (2, .int x222), (4, .int 0), (1, .int k), (0, .ref h0)]) (k := 2) (v := z235) hx hb dX12_eldestTree_69 hl rfl ez235.symm (by decide) rfl (fun ls hl => ?_)
            refine lv_goto (tgt := 4) hx hb dX12_eldestTree_72 rfl ?_
            have hl : lv_has ls 5 [(3, .int z235), (2, .int x222), (1, .int k), (0, .ref h0)] := lv_sub hl [0, 1, 3, 4] rfl
            exact ih (z235, x222) σ ls H locs (by (try dsimp only); omega) hl ⟨rfl, by (try dsimp only); omega⟩ hH
          · have ch234 := i_nle h234
            refine lv_iload_n hx hb dX12_eldestTree_63 rfl (lv_at hl 1 rfl) ?_
            refine lv_goto (tgt := 68) hx hb dX12_eldestTree_64 rfl ?_
            refine lv_istore_n (lv' := [(2, .int x221), (4, .int 0), (3, .int x221), (1, .int k), (0, .ref h0)]) hx hb dX12_eldestTree_68 rfl hl (by decide) rfl (fun ls hl => ?_)
            obtain ⟨z236, ez236⟩ : ∃ z : Int32, z = x221 + Int32.ofInt 1 := ⟨_, rfl⟩
            have hz236 := i_add ez236 (by rw [show (Int32.ofInt 1).toInt = 1 from rfl]; omega) (by rw [show (Int32.ofInt 1).toInt = 1 from rfl]; omega)
            rw [show (Int32.ofInt 1).toInt = 1 from rfl] at hz236
            refine lv_iinc (lv' := [(3, .int z236), (2, .int x221), (4, .int 0), (1, .int k), (0, .ref h0)]) (k := 2) (v := z236) hx hb dX12_eldestTree_69 hl rfl ez236.symm (by decide) rfl (fun ls hl => ?_)
            refine lv_goto (tgt := 4) hx hb dX12_eldestTree_72 rfl ?_
            have hl : lv_has ls 5 [(3, .int z236), (2, .int x221), (1, .int k), (0, .ref h0)] := lv_sub hl [0, 1, 3, 4] rfl
            exact ih (z236, x221) σ ls H locs (by (try dsimp only); omega) hl ⟨rfl, by (try dsimp only); omega⟩ hH
    · have ch226 := i_nle h226
      refine lv_aload_n hx hb dX12_eldestTree_21 rfl (lv_at hl 3 rfl) ?_
      refine m_getA 39 hF hH fk_X12_133 dX12_eldestTree_22 (by decide) rfl ?_
      refine lv_iload_n hx hb dX12_eldestTree_25 rfl (lv_at hl 0 rfl) ?_
      refine m_iald 39 16 hF hH dX12_eldestTree_26 (by decide) rfl rfl 0 7 rfl rfl (by omega) (by omega) (fun z237 ez237 vz237 => ?_)
      have wz237 := i_eq ez237
      refine lv_iload_n hx hb dX12_eldestTree_27 rfl (lv_at hl 2 rfl) ?_
      refine lv_icmp_ne (tgt := 35) hx hb dX12_eldestTree_28 rfl (fun h238 => ?_) (fun h238 => ?_)
      · have ch238 := i_ne h238
        refine lv_iconst (v := 0) hx hb dX12_eldestTree_35 (by decide) ?_
        refine lv_istore (lv' := [(4, .int 0), (3, .int x221), (2, .int x222), (1, .int k), (0, .ref h0)]) hx hb dX12_eldestTree_36 hl (by decide) rfl (fun ls hl => ?_)
        refine lv_iload hx hb dX12_eldestTree_38 (lv_at hl 0 rfl) ?_
        refine lv_if_eq (tgt := 67) hx hb dX12_eldestTree_40 rfl (fun h239 => ?_) (fun h239 => ?_)
        · have ch239 := i_eq h239
          refine lv_iload_n hx hb dX12_eldestTree_67 rfl (lv_at hl 2 rfl) ?_
          refine lv_istore_n (lv' := [(2, .int x222), (4, .int 0), (3, .int x221), (1, .int k), (0, .ref h0)]) hx hb dX12_eldestTree_68 rfl hl (by decide) rfl (fun ls hl => ?_)
          obtain ⟨z240, ez240⟩ : ∃ z : Int32, z = x221 + Int32.ofInt 1 := ⟨_, rfl⟩
          have hz240 := i_add ez240 (by rw [show (Int32.ofInt 1).toInt = 1 from rfl]; omega) (by rw [show (Int32.ofInt 1).toInt = 1 from rfl]; omega)
          rw [show (Int32.ofInt 1).toInt = 1 from rfl] at hz240
          refine lv_iinc (lv' := [(3, .int z240), (2, .int x222), (4, .int 0), (1, .int k), (0, .ref h0)]) (k := 2) (v := z240) hx hb dX12_eldestTree_69 hl rfl ez240.symm (by decide) rfl (fun ls hl => ?_)
          refine lv_goto (tgt := 4) hx hb dX12_eldestTree_72 rfl ?_
          have hl : lv_has ls 5 [(3, .int z240), (2, .int x222), (1, .int k), (0, .ref h0)] := lv_sub hl [0, 1, 3, 4] rfl
          exact ih (z240, x222) σ ls H locs (by (try dsimp only); omega) hl ⟨rfl, by (try dsimp only); omega⟩ hH
        · have ch239 := i_ne h239
          refine lv_iload_n hx hb dX12_eldestTree_43 rfl (lv_at hl 2 rfl) ?_
          refine lv_if_lt (tgt := 63) hx hb dX12_eldestTree_44 rfl (fun h241 => ?_) (fun h241 => ?_)
          · have ch241 := i_lt h241
            refine lv_iload_n hx hb dX12_eldestTree_63 rfl (lv_at hl 1 rfl) ?_
            refine lv_goto (tgt := 68) hx hb dX12_eldestTree_64 rfl ?_
            refine lv_istore_n (lv' := [(2, .int x221), (4, .int 0), (3, .int x221), (1, .int k), (0, .ref h0)]) hx hb dX12_eldestTree_68 rfl hl (by decide) rfl (fun ls hl => ?_)
            obtain ⟨z242, ez242⟩ : ∃ z : Int32, z = x221 + Int32.ofInt 1 := ⟨_, rfl⟩
            have hz242 := i_add ez242 (by rw [show (Int32.ofInt 1).toInt = 1 from rfl]; omega) (by rw [show (Int32.ofInt 1).toInt = 1 from rfl]; omega)
            rw [show (Int32.ofInt 1).toInt = 1 from rfl] at hz242
            refine lv_iinc (lv' := [(3, .int z242), (2, .int x221), (4, .int 0), (1, .int k), (0, .ref h0)]) (k := 2) (v := z242) hx hb dX12_eldestTree_69 hl rfl ez242.symm (by decide) rfl (fun ls hl => ?_)
            refine lv_goto (tgt := 4) hx hb dX12_eldestTree_72 rfl ?_
            have hl : lv_has ls 5 [(3, .int z242), (2, .int x221), (1, .int k), (0, .ref h0)] := lv_sub hl [0, 1, 3, 4] rfl
            exact ih (z242, x221) σ ls H locs (by (try dsimp only); omega) hl ⟨rfl, by (try dsimp only); omega⟩ hH
          · have ch241 := i_nlt h241
            refine lv_aload_n hx hb dX12_eldestTree_47 rfl (lv_at hl 4 rfl) ?_
            refine m_getA 38 hF hH fk_X12_130 dX12_eldestTree_48 (by decide) rfl ?_
            refine lv_iload_n hx hb dX12_eldestTree_51 rfl (lv_at hl 1 rfl) ?_
            refine m_lald 38 16 hF hH dX12_eldestTree_52 (by decide) rfl rfl (by omega) (by omega) (fun z243 ez243 => ?_)
            refine lv_aload_n hx hb dX12_eldestTree_53 rfl (lv_at hl 4 rfl) ?_
            refine m_getA 38 hF hH fk_X12_130 dX12_eldestTree_54 (by decide) rfl ?_
            refine lv_iload_n hx hb dX12_eldestTree_57 rfl (lv_at hl 2 rfl) ?_
            refine m_lald 38 16 hF hH dX12_eldestTree_58 (by decide) rfl rfl (by omega) (by omega) (fun z244 ez244 => ?_)
            refine W.lcmp hx hb dX12_eldestTree_59 ?_
            refine lv_topi (fun z245 ez245 => ?_)
            have hz245 := l_cmp ez245
            refine lv_if_ge (tgt := 67) hx hb dX12_eldestTree_60 rfl (fun h246 => ?_) (fun h246 => ?_)
            · have ch246 := i_le h246
              refine lv_iload_n hx hb dX12_eldestTree_67 rfl (lv_at hl 2 rfl) ?_
              refine lv_istore_n (lv' := [(2, .int x222), (4, .int 0), (3, .int x221), (1, .int k), (0, .ref h0)]) hx hb dX12_eldestTree_68 rfl hl (by decide) rfl (fun ls hl => ?_)
              obtain ⟨z247, ez247⟩ : ∃ z : Int32, z = x221 + Int32.ofInt 1 := ⟨_, rfl⟩
              have hz247 := i_add ez247 (by rw [show (Int32.ofInt 1).toInt = 1 from rfl]; omega) (by rw [show (Int32.ofInt 1).toInt = 1 from rfl]; omega)
              rw [show (Int32.ofInt 1).toInt = 1 from rfl] at hz247
              refine lv_iinc (lv' := [(3, .int z247), (2, .int x222), (4, .int 0), (1, .int k), (0, .ref h0)]) (k := 2) (v := z247) hx hb dX12_eldestTree_69 hl rfl ez247.symm (by decide) rfl (fun ls hl => ?_)
              refine lv_goto (tgt := 4) hx hb dX12_eldestTree_72 rfl ?_
              have hl : lv_has ls 5 [(3, .int z247), (2, .int x222), (1, .int k), (0, .ref h0)] := lv_sub hl [0, 1, 3, 4] rfl
              exact ih (z247, x222) σ ls H locs (by (try dsimp only); omega) hl ⟨rfl, by (try dsimp only); omega⟩ hH
            · have ch246 := i_nle h246
              refine lv_iload_n hx hb dX12_eldestTree_63 rfl (lv_at hl 1 rfl) ?_
              refine lv_goto (tgt := 68) hx hb dX12_eldestTree_64 rfl ?_
              refine lv_istore_n (lv' := [(2, .int x221), (4, .int 0), (3, .int x221), (1, .int k), (0, .ref h0)]) hx hb dX12_eldestTree_68 rfl hl (by decide) rfl (fun ls hl => ?_)
              obtain ⟨z248, ez248⟩ : ∃ z : Int32, z = x221 + Int32.ofInt 1 := ⟨_, rfl⟩
              have hz248 := i_add ez248 (by rw [show (Int32.ofInt 1).toInt = 1 from rfl]; omega) (by rw [show (Int32.ofInt 1).toInt = 1 from rfl]; omega)
              rw [show (Int32.ofInt 1).toInt = 1 from rfl] at hz248
              refine lv_iinc (lv' := [(3, .int z248), (2, .int x221), (4, .int 0), (1, .int k), (0, .ref h0)]) (k := 2) (v := z248) hx hb dX12_eldestTree_69 hl rfl ez248.symm (by decide) rfl (fun ls hl => ?_)
              refine lv_goto (tgt := 4) hx hb dX12_eldestTree_72 rfl ?_
              have hl : lv_has ls 5 [(3, .int z248), (2, .int x221), (1, .int k), (0, .ref h0)] := lv_sub hl [0, 1, 3, 4] rfl
              exact ih (z248, x221) σ ls H locs (by (try dsimp only); omega) hl ⟨rfl, by (try dsimp only); omega⟩ hH
      · have ch238 := i_eq h238
        refine lv_iconst (v := 1) hx hb dX12_eldestTree_31 (by decide) ?_
        refine lv_goto (tgt := 36) hx hb dX12_eldestTree_32 rfl ?_
        refine lv_istore (lv' := [(4, .int 1), (3, .int x221), (2, .int x222), (1, .int k), (0, .ref h0)]) hx hb dX12_eldestTree_36 hl (by decide) rfl (fun ls hl => ?_)
        refine lv_iload hx hb dX12_eldestTree_38 (lv_at hl 0 rfl) ?_
        refine lv_if_eq (tgt := 67) hx hb dX12_eldestTree_40 rfl (fun h249 => ?_) (fun h249 => ?_)
        · have ch249 := i_eq h249
          refine lv_iload_n hx hb dX12_eldestTree_67 rfl (lv_at hl 2 rfl) ?_
          refine lv_istore_n (lv' := [(2, .int x222), (4, .int 1), (3, .int x221), (1, .int k), (0, .ref h0)]) hx hb dX12_eldestTree_68 rfl hl (by decide) rfl (fun ls hl => ?_)
          obtain ⟨z250, ez250⟩ : ∃ z : Int32, z = x221 + Int32.ofInt 1 := ⟨_, rfl⟩
          have hz250 := i_add ez250 (by rw [show (Int32.ofInt 1).toInt = 1 from rfl]; omega) (by rw [show (Int32.ofInt 1).toInt = 1 from rfl]; omega)
          rw [show (Int32.ofInt 1).toInt = 1 from rfl] at hz250
          refine lv_iinc (lv' := [(3, .int z250), (2, .int x222), (4, .int 1), (1, .int k), (0, .ref h0)]) (k := 2) (v := z250) hx hb dX12_eldestTree_69 hl rfl ez250.symm (by decide) rfl (fun ls hl => ?_)
          refine lv_goto (tgt := 4) hx hb dX12_eldestTree_72 rfl ?_
          have hl : lv_has ls 5 [(3, .int z250), (2, .int x222), (1, .int k), (0, .ref h0)] := lv_sub hl [0, 1, 3, 4] rfl
          exact ih (z250, x222) σ ls H locs (by (try dsimp only); omega) hl ⟨rfl, by (try dsimp only); omega⟩ hH
        · have ch249 := i_ne h249
          refine lv_iload_n hx hb dX12_eldestTree_43 rfl (lv_at hl 2 rfl) ?_
          refine lv_if_lt (tgt := 63) hx hb dX12_eldestTree_44 rfl (fun h251 => ?_) (fun h251 => ?_)
          · have ch251 := i_lt h251
            refine lv_iload_n hx hb dX12_eldestTree_63 rfl (lv_at hl 1 rfl) ?_
            refine lv_goto (tgt := 68) hx hb dX12_eldestTree_64 rfl ?_
            refine lv_istore_n (lv' := [(2, .int x221), (4, .int 1), (3, .int x221), (1, .int k), (0, .ref h0)]) hx hb dX12_eldestTree_68 rfl hl (by decide) rfl (fun ls hl => ?_)
            obtain ⟨z252, ez252⟩ : ∃ z : Int32, z = x221 + Int32.ofInt 1 := ⟨_, rfl⟩
            have hz252 := i_add ez252 (by rw [show (Int32.ofInt 1).toInt = 1 from rfl]; omega) (by rw [show (Int32.ofInt 1).toInt = 1 from rfl]; omega)
            rw [show (Int32.ofInt 1).toInt = 1 from rfl] at hz252
            refine lv_iinc (lv' := [(3, .int z252), (2, .int x221), (4, .int 1), (1, .int k), (0, .ref h0)]) (k := 2) (v := z252) hx hb dX12_eldestTree_69 hl rfl ez252.symm (by decide) rfl (fun ls hl => ?_)
            refine lv_goto (tgt := 4) hx hb dX12_eldestTree_72 rfl ?_
            have hl : lv_has ls 5 [(3, .int z252), (2, .int x221), (1, .int k), (0, .ref h0)] := lv_sub hl [0, 1, 3, 4] rfl
            exact ih (z252, x221) σ ls H locs (by (try dsimp only); omega) hl ⟨rfl, by (try dsimp only); omega⟩ hH
          · have ch251 := i_nlt h251
            refine lv_aload_n hx hb dX12_eldestTree_47 rfl (lv_at hl 4 rfl) ?_
            refine m_getA 38 hF hH fk_X12_130 dX12_eldestTree_48 (by decide) rfl ?_
            refine lv_iload_n hx hb dX12_eldestTree_51 rfl (lv_at hl 1 rfl) ?_
            refine m_lald 38 16 hF hH dX12_eldestTree_52 (by decide) rfl rfl (by omega) (by omega) (fun z253 ez253 => ?_)
            refine lv_aload_n hx hb dX12_eldestTree_53 rfl (lv_at hl 4 rfl) ?_
            refine m_getA 38 hF hH fk_X12_130 dX12_eldestTree_54 (by decide) rfl ?_
            refine lv_iload_n hx hb dX12_eldestTree_57 rfl (lv_at hl 2 rfl) ?_
            refine m_lald 38 16 hF hH dX12_eldestTree_58 (by decide) rfl rfl (by omega) (by omega) (fun z254 ez254 => ?_)
            refine W.lcmp hx hb dX12_eldestTree_59 ?_
            refine lv_topi (fun z255 ez255 => ?_)
            have hz255 := l_cmp ez255
            refine lv_if_ge (tgt := 67) hx hb dX12_eldestTree_60 rfl (fun h256 => ?_) (fun h256 => ?_)
            · have ch256 := i_le h256
              refine lv_iload_n hx hb dX12_eldestTree_67 rfl (lv_at hl 2 rfl) ?_
              refine lv_istore_n (lv' := [(2, .int x222), (4, .int 1), (3, .int x221), (1, .int k), (0, .ref h0)]) hx hb dX12_eldestTree_68 rfl hl (by decide) rfl (fun ls hl => ?_)
              obtain ⟨z257, ez257⟩ : ∃ z : Int32, z = x221 + Int32.ofInt 1 := ⟨_, rfl⟩
              have hz257 := i_add ez257 (by rw [show (Int32.ofInt 1).toInt = 1 from rfl]; omega) (by rw [show (Int32.ofInt 1).toInt = 1 from rfl]; omega)
              rw [show (Int32.ofInt 1).toInt = 1 from rfl] at hz257
              refine lv_iinc (lv' := [(3, .int z257), (2, .int x222), (4, .int 1), (1, .int k), (0, .ref h0)]) (k := 2) (v := z257) hx hb dX12_eldestTree_69 hl rfl ez257.symm (by decide) rfl (fun ls hl => ?_)
              refine lv_goto (tgt := 4) hx hb dX12_eldestTree_72 rfl ?_
              have hl : lv_has ls 5 [(3, .int z257), (2, .int x222), (1, .int k), (0, .ref h0)] := lv_sub hl [0, 1, 3, 4] rfl
              exact ih (z257, x222) σ ls H locs (by (try dsimp only); omega) hl ⟨rfl, by (try dsimp only); omega⟩ hH
            · have ch256 := i_nle h256
              refine lv_iload_n hx hb dX12_eldestTree_63 rfl (lv_at hl 1 rfl) ?_
              refine lv_goto (tgt := 68) hx hb dX12_eldestTree_64 rfl ?_
              refine lv_istore_n (lv' := [(2, .int x221), (4, .int 1), (3, .int x221), (1, .int k), (0, .ref h0)]) hx hb dX12_eldestTree_68 rfl hl (by decide) rfl (fun ls hl => ?_)
              obtain ⟨z258, ez258⟩ : ∃ z : Int32, z = x221 + Int32.ofInt 1 := ⟨_, rfl⟩
              have hz258 := i_add ez258 (by rw [show (Int32.ofInt 1).toInt = 1 from rfl]; omega) (by rw [show (Int32.ofInt 1).toInt = 1 from rfl]; omega)
              rw [show (Int32.ofInt 1).toInt = 1 from rfl] at hz258
              refine lv_iinc (lv' := [(3, .int z258), (2, .int x221), (4, .int 1), (1, .int k), (0, .ref h0)]) (k := 2) (v := z258) hx hb dX12_eldestTree_69 hl rfl ez258.symm (by decide) rfl (fun ls hl => ?_)
              refine lv_goto (tgt := 4) hx hb dX12_eldestTree_72 rfl ?_
              have hl : lv_has ls 5 [(3, .int z258), (2, .int x221), (1, .int k), (0, .ref h0)] := lv_sub hl [0, 1, 3, 4] rfl
              exact ih (z258, x221) σ ls H locs (by (try dsimp only); omega) hl ⟨rfl, by (try dsimp only); omega⟩ hH
theorem dX12_eldestOpen_0 : decode cX12_eldestOpen 0 = .ok (.iconst (-1), 1) := by decide +kernel
theorem dX12_eldestOpen_1 : decode cX12_eldestOpen 1 = .ok (.istore_n 2, 1) := by decide +kernel
theorem dX12_eldestOpen_2 : decode cX12_eldestOpen 2 = .ok (.iconst 0, 1) := by decide +kernel
theorem dX12_eldestOpen_3 : decode cX12_eldestOpen 3 = .ok (.istore_n 3, 1) := by decide +kernel
theorem dX12_eldestOpen_4 : decode cX12_eldestOpen 4 = .ok (.iload_n 3, 1) := by decide +kernel
theorem dX12_eldestOpen_5 : decode cX12_eldestOpen 5 = .ok (.bipush 40, 2) := by decide +kernel
theorem dX12_eldestOpen_7 : decode cX12_eldestOpen 7 = .ok (.if_icmp .ge 68, 3) := by decide +kernel
theorem dX12_eldestOpen_10 : decode cX12_eldestOpen 10 = .ok (.aload_n 0, 1) := by decide +kernel
theorem dX12_eldestOpen_11 : decode cX12_eldestOpen 11 = .ok (.getfield 139, 3) := by decide +kernel
theorem dX12_eldestOpen_14 : decode cX12_eldestOpen 14 = .ok (.iload_n 3, 1) := by decide +kernel
theorem dX12_eldestOpen_15 : decode cX12_eldestOpen 15 = .ok (.laload, 1) := by decide +kernel
theorem dX12_eldestOpen_16 : decode cX12_eldestOpen 16 = .ok (.lconst 0, 1) := by decide +kernel
theorem dX12_eldestOpen_17 : decode cX12_eldestOpen 17 = .ok (.lcmp, 1) := by decide +kernel
theorem dX12_eldestOpen_18 : decode cX12_eldestOpen 18 = .ok (.ifCond .le 17, 3) := by decide +kernel
theorem dX12_eldestOpen_21 : decode cX12_eldestOpen 21 = .ok (.aload_n 0, 1) := by decide +kernel
theorem dX12_eldestOpen_22 : decode cX12_eldestOpen 22 = .ok (.getfield 142, 3) := by decide +kernel
theorem dX12_eldestOpen_25 : decode cX12_eldestOpen 25 = .ok (.iload_n 3, 1) := by decide +kernel
theorem dX12_eldestOpen_26 : decode cX12_eldestOpen 26 = .ok (.iaload, 1) := by decide +kernel
theorem dX12_eldestOpen_27 : decode cX12_eldestOpen 27 = .ok (.iload_n 1, 1) := by decide +kernel
theorem dX12_eldestOpen_28 : decode cX12_eldestOpen 28 = .ok (.if_icmp .ne 7, 3) := by decide +kernel
theorem dX12_eldestOpen_31 : decode cX12_eldestOpen 31 = .ok (.iconst 1, 1) := by decide +kernel
theorem dX12_eldestOpen_32 : decode cX12_eldestOpen 32 = .ok (.goto 4, 3) := by decide +kernel
theorem dX12_eldestOpen_35 : decode cX12_eldestOpen 35 = .ok (.iconst 0, 1) := by decide +kernel
theorem dX12_eldestOpen_36 : decode cX12_eldestOpen 36 = .ok (.istore 4, 2) := by decide +kernel
theorem dX12_eldestOpen_38 : decode cX12_eldestOpen 38 = .ok (.iload 4, 2) := by decide +kernel
theorem dX12_eldestOpen_40 : decode cX12_eldestOpen 40 = .ok (.ifCond .eq 27, 3) := by decide +kernel
theorem dX12_eldestOpen_43 : decode cX12_eldestOpen 43 = .ok (.iload_n 2, 1) := by decide +kernel
theorem dX12_eldestOpen_44 : decode cX12_eldestOpen 44 = .ok (.ifCond .lt 19, 3) := by decide +kernel
theorem dX12_eldestOpen_47 : decode cX12_eldestOpen 47 = .ok (.aload_n 0, 1) := by decide +kernel
theorem dX12_eldestOpen_48 : decode cX12_eldestOpen 48 = .ok (.getfield 139, 3) := by decide +kernel
theorem dX12_eldestOpen_51 : decode cX12_eldestOpen 51 = .ok (.iload_n 3, 1) := by decide +kernel
theorem dX12_eldestOpen_52 : decode cX12_eldestOpen 52 = .ok (.laload, 1) := by decide +kernel
theorem dX12_eldestOpen_53 : decode cX12_eldestOpen 53 = .ok (.aload_n 0, 1) := by decide +kernel
theorem dX12_eldestOpen_54 : decode cX12_eldestOpen 54 = .ok (.getfield 139, 3) := by decide +kernel
theorem dX12_eldestOpen_57 : decode cX12_eldestOpen 57 = .ok (.iload_n 2, 1) := by decide +kernel
theorem dX12_eldestOpen_58 : decode cX12_eldestOpen 58 = .ok (.laload, 1) := by decide +kernel
theorem dX12_eldestOpen_59 : decode cX12_eldestOpen 59 = .ok (.lcmp, 1) := by decide +kernel
theorem dX12_eldestOpen_60 : decode cX12_eldestOpen 60 = .ok (.ifCond .ge 7, 3) := by decide +kernel
theorem dX12_eldestOpen_63 : decode cX12_eldestOpen 63 = .ok (.iload_n 3, 1) := by decide +kernel
theorem dX12_eldestOpen_64 : decode cX12_eldestOpen 64 = .ok (.goto 4, 3) := by decide +kernel
theorem dX12_eldestOpen_67 : decode cX12_eldestOpen 67 = .ok (.iload_n 2, 1) := by decide +kernel
theorem dX12_eldestOpen_68 : decode cX12_eldestOpen 68 = .ok (.istore_n 2, 1) := by decide +kernel
theorem dX12_eldestOpen_69 : decode cX12_eldestOpen 69 = .ok (.iinc 3 1, 3) := by decide +kernel
theorem dX12_eldestOpen_72 : decode cX12_eldestOpen 72 = .ok (.goto (-68), 3) := by decide +kernel
theorem dX12_eldestOpen_75 : decode cX12_eldestOpen 75 = .ok (.iload_n 2, 1) := by decide +kernel
theorem dX12_eldestOpen_76 : decode cX12_eldestOpen 76 = .ok (.ireturn, 1) := by decide +kernel
set_option maxRecDepth 100000 in
set_option maxHeartbeats 4000000 in
theorem c_X12_eldestOpen (l : Launch) (D : va_G) (t : Nat → ClassId) (h0 : Nat) (L : Nat → Nat) (σ : HS) (hO : OK ph τ0 σ) (hM : MdI h0 L σ) (k : Int32) (sz : Nat) : HMi ph τ0 l D t yX12_eldestOpen cX12_eldestOpen 5 (some .int) ({ frames := 0, cells := 0, slots := 0, locals := 0 }) σ sz [.ref h0, .int k] 0 0 (fun r σ' => MdI h0 L σ' ∧ σ' = σ ∧ (-1 ≤ r.toInt ∧ r.toInt ≤ 39)) := by
  refine h_go hO (by decide) (Nat.le_of_ble_eq_true rfl) ?_
  intro p e s m below meth c ls A hF hr hlk hAe hH0 hA hl
  unfold hB
  rw [hAe]
  clear hAe
  have hF : FX p m c cX12_eldestOpen 5 s _ RX12 D t := hF
  have hx := hF.1.1
  have hb := hF.1.2.1
  have hH : MT D t A s.heap h0 L σ s.heap [] := ⟨hH0, hM⟩
  have hle : HLe σ σ := HLe.rf
  have kl_0 : (0 : Int64).toInt = 0 := rfl
  have k_m1 : ((-1) : Int32).toInt = (-1) := rfl
  have k_0 : (0 : Int32).toInt = 0 := rfl
  have k_1 : (1 : Int32).toInt = 1 := rfl
  have k_40 : (40 : Int32).toInt = 40 := rfl
  have rg_1 := i_range k
  have hl : lv_has ls 5 [(0, .ref h0), (1, .int k)] := hl
  refine lv_iconst (v := (-1)) hx hb dX12_eldestOpen_0 (by decide) ?_
  refine lv_istore_n (lv' := [(2, .int (-1)), (0, .ref h0), (1, .int k)]) hx hb dX12_eldestOpen_1 rfl hl (by decide) rfl (fun ls hl => ?_)
  refine lv_iconst (v := 0) hx hb dX12_eldestOpen_2 (by decide) ?_
  refine lv_istore_n (lv' := [(3, .int 0), (2, .int (-1)), (0, .ref h0), (1, .int k)]) hx hb dX12_eldestOpen_3 rfl hl (by decide) rfl (fun ls hl => ?_)
  have hl : lv_has ls 5 [(3, .int 0), (2, .int (-1)), (1, .int k), (0, .ref h0)] := lv_sub hl [0, 1, 3, 2] rfl
  refine m_loop (β := Int32 × Int32) (L0 := fun x => [(3, .int x.1), (2, .int x.2), (1, .int k), (0, .ref h0)]) (I := fun x σ2 => σ = σ2 ∧ (0 ≤ x.1.toInt ∧ x.1.toInt ≤ 40 ∧ -1 ≤ x.2.toInt ∧ x.2.toInt ≤ 39)) (fun x σ2 => (40 - x.1.toInt).toNat) (0, (-1)) hl ⟨rfl, by (try dsimp only); omega⟩ hH (fun x σL ls H locs hl hI hH ih => ?_)
  obtain ⟨x259, x260⟩ := x
  obtain ⟨hsL, hI⟩ := hI
  subst hsL
  have hl : lv_has ls 5 [(3, .int x259), (2, .int x260), (1, .int k), (0, .ref h0)] := hl
  have hI : 0 ≤ x259.toInt ∧ x259.toInt ≤ 40 ∧ -1 ≤ x260.toInt ∧ x260.toInt ≤ 39 := hI
  have rg_x259 := i_range x259
  have rg_x260 := i_range x260
  refine lv_iload_n hx hb dX12_eldestOpen_4 rfl (lv_at hl 0 rfl) ?_
  refine lv_bipush (v := 40) hx hb dX12_eldestOpen_5 (by decide) ?_
  refine lv_icmp_ge (tgt := 75) hx hb dX12_eldestOpen_7 rfl (fun h261 => ?_) (fun h261 => ?_)
  · have ch261 := i_le h261
    refine lv_iload_n hx hb dX12_eldestOpen_75 rfl (lv_at hl 1 rfl) ?_
    exact h_reti hF hr hlk rfl dX12_eldestOpen_76 hH.1 hle ⟨hH.2, rfl, by (try dsimp only); omega⟩
  · have ch261 := i_nle h261
    refine lv_aload_n hx hb dX12_eldestOpen_10 rfl (lv_at hl 3 rfl) ?_
    refine m_getA 41 hF hH fk_X12_139 dX12_eldestOpen_11 (by decide) rfl ?_
    refine lv_iload_n hx hb dX12_eldestOpen_14 rfl (lv_at hl 0 rfl) ?_
    refine m_lald 41 40 hF hH dX12_eldestOpen_15 (by decide) rfl rfl (by omega) (by omega) (fun z262 ez262 => ?_)
    refine lv_lconst (v := 0) hx hb dX12_eldestOpen_16 (by decide) ?_
    refine W.lcmp hx hb dX12_eldestOpen_17 ?_
    refine lv_topi (fun z263 ez263 => ?_)
    have hz263 := l_cmp ez263
    refine lv_if_le (tgt := 35) hx hb dX12_eldestOpen_18 rfl (fun h264 => ?_) (fun h264 => ?_)
    · have ch264 := i_le h264
      refine lv_iconst (v := 0) hx hb dX12_eldestOpen_35 (by decide) ?_
      refine lv_istore (lv' := [(4, .int 0), (3, .int x259), (2, .int x260), (1, .int k), (0, .ref h0)]) hx hb dX12_eldestOpen_36 hl (by decide) rfl (fun ls hl => ?_)
      refine lv_iload hx hb dX12_eldestOpen_38 (lv_at hl 0 rfl) ?_
      refine lv_if_eq (tgt := 67) hx hb dX12_eldestOpen_40 rfl (fun h265 => ?_) (fun h265 => ?_)
      · have ch265 := i_eq h265
        refine lv_iload_n hx hb dX12_eldestOpen_67 rfl (lv_at hl 2 rfl) ?_
        refine lv_istore_n (lv' := [(2, .int x260), (4, .int 0), (3, .int x259), (1, .int k), (0, .ref h0)]) hx hb dX12_eldestOpen_68 rfl hl (by decide) rfl (fun ls hl => ?_)
        obtain ⟨z266, ez266⟩ : ∃ z : Int32, z = x259 + Int32.ofInt 1 := ⟨_, rfl⟩
        have hz266 := i_add ez266 (by rw [show (Int32.ofInt 1).toInt = 1 from rfl]; omega) (by rw [show (Int32.ofInt 1).toInt = 1 from rfl]; omega)
        rw [show (Int32.ofInt 1).toInt = 1 from rfl] at hz266
        refine lv_iinc (lv' := [(3, .int z266), (2, .int x260), (4, .int 0), (1, .int k), (0, .ref h0)]) (k := 2) (v := z266) hx hb dX12_eldestOpen_69 hl rfl ez266.symm (by decide) rfl (fun ls hl => ?_)
        refine lv_goto (tgt := 4) hx hb dX12_eldestOpen_72 rfl ?_
        have hl : lv_has ls 5 [(3, .int z266), (2, .int x260), (1, .int k), (0, .ref h0)] := lv_sub hl [0, 1, 3, 4] rfl
        exact ih (z266, x260) σ ls H locs (by (try dsimp only); omega) hl ⟨rfl, by (try dsimp only); omega⟩ hH
      · have ch265 := i_ne h265
        refine lv_iload_n hx hb dX12_eldestOpen_43 rfl (lv_at hl 2 rfl) ?_
        refine lv_if_lt (tgt := 63) hx hb dX12_eldestOpen_44 rfl (fun h267 => ?_) (fun h267 => ?_)
        · have ch267 := i_lt h267
          refine lv_iload_n hx hb dX12_eldestOpen_63 rfl (lv_at hl 1 rfl) ?_
          refine lv_goto (tgt := 68) hx hb dX12_eldestOpen_64 rfl ?_
          refine lv_istore_n (lv' := [(2, .int x259), (4, .int 0), (3, .int x259), (1, .int k), (0, .ref h0)]) hx hb dX12_eldestOpen_68 rfl hl (by decide) rfl (fun ls hl => ?_)
          obtain ⟨z268, ez268⟩ : ∃ z : Int32, z = x259 + Int32.ofInt 1 := ⟨_, rfl⟩
          have hz268 := i_add ez268 (by rw [show (Int32.ofInt 1).toInt = 1 from rfl]; omega) (by rw [show (Int32.ofInt 1).toInt = 1 from rfl]; omega)
          rw [show (Int32.ofInt 1).toInt = 1 from rfl] at hz268
          refine lv_iinc (lv' := [(3, .int z268), (2, .int x259), (4, .int 0), (1, .int k), (0, .ref h0)]) (k := 2) (v := z268) hx hb dX12_eldestOpen_69 hl rfl ez268.symm (by decide) rfl (fun ls hl => ?_)
          refine lv_goto (tgt := 4) hx hb dX12_eldestOpen_72 rfl ?_
          have hl : lv_has ls 5 [(3, .int z268), (2, .int x259), (1, .int k), (0, .ref h0)] := lv_sub hl [0, 1, 3, 4] rfl
          exact ih (z268, x259) σ ls H locs (by (try dsimp only); omega) hl ⟨rfl, by (try dsimp only); omega⟩ hH
        · have ch267 := i_nlt h267
          refine lv_aload_n hx hb dX12_eldestOpen_47 rfl (lv_at hl 4 rfl) ?_
          refine m_getA 41 hF hH fk_X12_139 dX12_eldestOpen_48 (by decide) rfl ?_
          refine lv_iload_n hx hb dX12_eldestOpen_51 rfl (lv_at hl 1 rfl) ?_
          refine m_lald 41 40 hF hH dX12_eldestOpen_52 (by decide) rfl rfl (by omega) (by omega) (fun z269 ez269 => ?_)
          refine lv_aload_n hx hb dX12_eldestOpen_53 rfl (lv_at hl 4 rfl) ?_
          refine m_getA 41 hF hH fk_X12_139 dX12_eldestOpen_54 (by decide) rfl ?_
          refine lv_iload_n hx hb dX12_eldestOpen_57 rfl (lv_at hl 2 rfl) ?_
          refine m_lald 41 40 hF hH dX12_eldestOpen_58 (by decide) rfl rfl (by omega) (by omega) (fun z270 ez270 => ?_)
          refine W.lcmp hx hb dX12_eldestOpen_59 ?_
          refine lv_topi (fun z271 ez271 => ?_)
          have hz271 := l_cmp ez271
          refine lv_if_ge (tgt := 67) hx hb dX12_eldestOpen_60 rfl (fun h272 => ?_) (fun h272 => ?_)
          · have ch272 := i_le h272
            refine lv_iload_n hx hb dX12_eldestOpen_67 rfl (lv_at hl 2 rfl) ?_
            refine lv_istore_n (lv' := [(2, .int x260), (4, .int 0), (3, .int x259), (1, .int k), (0, .ref h0)]) hx hb dX12_eldestOpen_68 rfl hl (by decide) rfl (fun ls hl => ?_)
            obtain ⟨z273, ez273⟩ : ∃ z : Int32, z = x259 + Int32.ofInt 1 := ⟨_, rfl⟩
            have hz273 := i_add ez273 (by rw [show (Int32.ofInt 1).toInt = 1 from rfl]; omega) (by rw [show (Int32.ofInt 1).toInt = 1 from rfl]; omega)
            rw [show (Int32.ofInt 1).toInt = 1 from rfl] at hz273
            refine lv_iinc (lv' := [(3, .int z273), (2, .int x260), (4, .int 0), (1, .int k), (0, .ref h0)]) (k := 2) (v := z273) hx hb dX12_eldestOpen_69 hl rfl ez273.symm (by decide) rfl (fun ls hl => ?_)
            refine lv_goto (tgt := 4) hx hb dX12_eldestOpen_72 rfl ?_
            have hl : lv_has ls 5 [(3, .int z273), (2, .int x260), (1, .int k), (0, .ref h0)] := lv_sub hl [0, 1, 3, 4] rfl
            exact ih (z273, x260) σ ls H locs (by (try dsimp only); omega) hl ⟨rfl, by (try dsimp only); omega⟩ hH
          · have ch272 := i_nle h272
            refine lv_iload_n hx hb dX12_eldestOpen_63 rfl (lv_at hl 1 rfl) ?_
            refine lv_goto (tgt := 68) hx hb dX12_eldestOpen_64 rfl ?_
            refine lv_istore_n (lv' := [(2, .int x259), (4, .int 0), (3, .int x259), (1, .int k), (0, .ref h0)]) hx hb dX12_eldestOpen_68 rfl hl (by decide) rfl (fun ls hl => ?_)
            obtain ⟨z274, ez274⟩ : ∃ z : Int32, z = x259 + Int32.ofInt 1 := ⟨_, rfl⟩
            have hz274 := i_add ez274 (by rw [show (Int32.ofInt 1).toInt = 1 from rfl]; omega) (by rw [show (Int32.ofInt 1).toInt = 1 from rfl]; omega)
            rw [show (Int32.ofInt 1).toInt = 1 from rfl] at hz274
            refine lv_iinc (lv' := [(3, .int z274), (2, .int x259), (4, .int 0), (1, .int k), (0, .ref h0)]) (k := 2) (v := z274) hx hb dX12_eldestOpen_69 hl rfl ez274.symm (by decide) rfl (fun ls hl => ?_)
            refine lv_goto (tgt := 4) hx hb dX12_eldestOpen_72 rfl ?_
            have hl : lv_has ls 5 [(3, .int z274), (2, .int x259), (1, .int k), (0, .ref h0)] := lv_sub hl [0, 1, 3, 4] rfl
            exact ih (z274, x259) σ ls H locs (by (try dsimp only); omega) hl ⟨rfl, by (try dsimp only); omega⟩ hH
    · have ch264 := i_nle h264
      refine lv_aload_n hx hb dX12_eldestOpen_21 rfl (lv_at hl 3 rfl) ?_
      refine m_getA 42 hF hH fk_X12_142 dX12_eldestOpen_22 (by decide) rfl ?_
      refine lv_iload_n hx hb dX12_eldestOpen_25 rfl (lv_at hl 0 rfl) ?_
      refine m_iald 42 40 hF hH dX12_eldestOpen_26 (by decide) rfl rfl 0 15 rfl rfl (by omega) (by omega) (fun z275 ez275 vz275 => ?_)
      have wz275 := i_eq ez275
      refine lv_iload_n hx hb dX12_eldestOpen_27 rfl (lv_at hl 2 rfl) ?_
      refine lv_icmp_ne (tgt := 35) hx hb dX12_eldestOpen_28 rfl (fun h276 => ?_) (fun h276 => ?_)
      · have ch276 := i_ne h276
        refine lv_iconst (v := 0) hx hb dX12_eldestOpen_35 (by decide) ?_
        refine lv_istore (lv' := [(4, .int 0), (3, .int x259), (2, .int x260), (1, .int k), (0, .ref h0)]) hx hb dX12_eldestOpen_36 hl (by decide) rfl (fun ls hl => ?_)
        refine lv_iload hx hb dX12_eldestOpen_38 (lv_at hl 0 rfl) ?_
        refine lv_if_eq (tgt := 67) hx hb dX12_eldestOpen_40 rfl (fun h277 => ?_) (fun h277 => ?_)
        · have ch277 := i_eq h277
          refine lv_iload_n hx hb dX12_eldestOpen_67 rfl (lv_at hl 2 rfl) ?_
          refine lv_istore_n (lv' := [(2, .int x260), (4, .int 0), (3, .int x259), (1, .int k), (0, .ref h0)]) hx hb dX12_eldestOpen_68 rfl hl (by decide) rfl (fun ls hl => ?_)
          obtain ⟨z278, ez278⟩ : ∃ z : Int32, z = x259 + Int32.ofInt 1 := ⟨_, rfl⟩
          have hz278 := i_add ez278 (by rw [show (Int32.ofInt 1).toInt = 1 from rfl]; omega) (by rw [show (Int32.ofInt 1).toInt = 1 from rfl]; omega)
          rw [show (Int32.ofInt 1).toInt = 1 from rfl] at hz278
          refine lv_iinc (lv' := [(3, .int z278), (2, .int x260), (4, .int 0), (1, .int k), (0, .ref h0)]) (k := 2) (v := z278) hx hb dX12_eldestOpen_69 hl rfl ez278.symm (by decide) rfl (fun ls hl => ?_)
          refine lv_goto (tgt := 4) hx hb dX12_eldestOpen_72 rfl ?_
          have hl : lv_has ls 5 [(3, .int z278), (2, .int x260), (1, .int k), (0, .ref h0)] := lv_sub hl [0, 1, 3, 4] rfl
          exact ih (z278, x260) σ ls H locs (by (try dsimp only); omega) hl ⟨rfl, by (try dsimp only); omega⟩ hH
        · have ch277 := i_ne h277
          refine lv_iload_n hx hb dX12_eldestOpen_43 rfl (lv_at hl 2 rfl) ?_
          refine lv_if_lt (tgt := 63) hx hb dX12_eldestOpen_44 rfl (fun h279 => ?_) (fun h279 => ?_)
          · have ch279 := i_lt h279
            refine lv_iload_n hx hb dX12_eldestOpen_63 rfl (lv_at hl 1 rfl) ?_
            refine lv_goto (tgt := 68) hx hb dX12_eldestOpen_64 rfl ?_
            refine lv_istore_n (lv' := [(2, .int x259), (4, .int 0), (3, .int x259), (1, .int k), (0, .ref h0)]) hx hb dX12_eldestOpen_68 rfl hl (by decide) rfl (fun ls hl => ?_)
            obtain ⟨z280, ez280⟩ : ∃ z : Int32, z = x259 + Int32.ofInt 1 := ⟨_, rfl⟩
            have hz280 := i_add ez280 (by rw [show (Int32.ofInt 1).toInt = 1 from rfl]; omega) (by rw [show (Int32.ofInt 1).toInt = 1 from rfl]; omega)
            rw [show (Int32.ofInt 1).toInt = 1 from rfl] at hz280
            refine lv_iinc (lv' := [(3, .int z280), (2, .int x259), (4, .int 0), (1, .int k), (0, .ref h0)]) (k := 2) (v := z280) hx hb dX12_eldestOpen_69 hl rfl ez280.symm (by decide) rfl (fun ls hl => ?_)
            refine lv_goto (tgt := 4) hx hb dX12_eldestOpen_72 rfl ?_
            have hl : lv_has ls 5 [(3, .int z280), (2, .int x259), (1, .int k), (0, .ref h0)] := lv_sub hl [0, 1, 3, 4] rfl
            exact ih (z280, x259) σ ls H locs (by (try dsimp only); omega) hl ⟨rfl, by (try dsimp only); omega⟩ hH
          · have ch279 := i_nlt h279
            refine lv_aload_n hx hb dX12_eldestOpen_47 rfl (lv_at hl 4 rfl) ?_
            refine m_getA 41 hF hH fk_X12_139 dX12_eldestOpen_48 (by decide) rfl ?_
            refine lv_iload_n hx hb dX12_eldestOpen_51 rfl (lv_at hl 1 rfl) ?_
            refine m_lald 41 40 hF hH dX12_eldestOpen_52 (by decide) rfl rfl (by omega) (by omega) (fun z281 ez281 => ?_)
            refine lv_aload_n hx hb dX12_eldestOpen_53 rfl (lv_at hl 4 rfl) ?_
            refine m_getA 41 hF hH fk_X12_139 dX12_eldestOpen_54 (by decide) rfl ?_
            refine lv_iload_n hx hb dX12_eldestOpen_57 rfl (lv_at hl 2 rfl) ?_
            refine m_lald 41 40 hF hH dX12_eldestOpen_58 (by decide) rfl rfl (by omega) (by omega) (fun z282 ez282 => ?_)
            refine W.lcmp hx hb dX12_eldestOpen_59 ?_
            refine lv_topi (fun z283 ez283 => ?_)
            have hz283 := l_cmp ez283
            refine lv_if_ge (tgt := 67) hx hb dX12_eldestOpen_60 rfl (fun h284 => ?_) (fun h284 => ?_)
            · have ch284 := i_le h284
              refine lv_iload_n hx hb dX12_eldestOpen_67 rfl (lv_at hl 2 rfl) ?_
              refine lv_istore_n (lv' := [(2, .int x260), (4, .int 0), (3, .int x259), (1, .int k), (0, .ref h0)]) hx hb dX12_eldestOpen_68 rfl hl (by decide) rfl (fun ls hl => ?_)
              obtain ⟨z285, ez285⟩ : ∃ z : Int32, z = x259 + Int32.ofInt 1 := ⟨_, rfl⟩
              have hz285 := i_add ez285 (by rw [show (Int32.ofInt 1).toInt = 1 from rfl]; omega) (by rw [show (Int32.ofInt 1).toInt = 1 from rfl]; omega)
              rw [show (Int32.ofInt 1).toInt = 1 from rfl] at hz285
              refine lv_iinc (lv' := [(3, .int z285), (2, .int x260), (4, .int 0), (1, .int k), (0, .ref h0)]) (k := 2) (v := z285) hx hb dX12_eldestOpen_69 hl rfl ez285.symm (by decide) rfl (fun ls hl => ?_)
              refine lv_goto (tgt := 4) hx hb dX12_eldestOpen_72 rfl ?_
              have hl : lv_has ls 5 [(3, .int z285), (2, .int x260), (1, .int k), (0, .ref h0)] := lv_sub hl [0, 1, 3, 4] rfl
              exact ih (z285, x260) σ ls H locs (by (try dsimp only); omega) hl ⟨rfl, by (try dsimp only); omega⟩ hH
            · have ch284 := i_nle h284
              refine lv_iload_n hx hb dX12_eldestOpen_63 rfl (lv_at hl 1 rfl) ?_
              refine lv_goto (tgt := 68) hx hb dX12_eldestOpen_64 rfl ?_
              refine lv_istore_n (lv' := [(2, .int x259), (4, .int 0), (3, .int x259), (1, .int k), (0, .ref h0)]) hx hb dX12_eldestOpen_68 rfl hl (by decide) rfl (fun ls hl => ?_)
              obtain ⟨z286, ez286⟩ : ∃ z : Int32, z = x259 + Int32.ofInt 1 := ⟨_, rfl⟩
              have hz286 := i_add ez286 (by rw [show (Int32.ofInt 1).toInt = 1 from rfl]; omega) (by rw [show (Int32.ofInt 1).toInt = 1 from rfl]; omega)
              rw [show (Int32.ofInt 1).toInt = 1 from rfl] at hz286
              refine lv_iinc (lv' := [(3, .int z286), (2, .int x259), (4, .int 0), (1, .int k), (0, .ref h0)]) (k := 2) (v := z286) hx hb dX12_eldestOpen_69 hl rfl ez286.symm (by decide) rfl (fun ls hl => ?_)
              refine lv_goto (tgt := 4) hx hb dX12_eldestOpen_72 rfl ?_
              have hl : lv_has ls 5 [(3, .int z286), (2, .int x259), (1, .int k), (0, .ref h0)] := lv_sub hl [0, 1, 3, 4] rfl
              exact ih (z286, x259) σ ls H locs (by (try dsimp only); omega) hl ⟨rfl, by (try dsimp only); omega⟩ hH
      · have ch276 := i_eq h276
        refine lv_iconst (v := 1) hx hb dX12_eldestOpen_31 (by decide) ?_
        refine lv_goto (tgt := 36) hx hb dX12_eldestOpen_32 rfl ?_
        refine lv_istore (lv' := [(4, .int 1), (3, .int x259), (2, .int x260), (1, .int k), (0, .ref h0)]) hx hb dX12_eldestOpen_36 hl (by decide) rfl (fun ls hl => ?_)
        refine lv_iload hx hb dX12_eldestOpen_38 (lv_at hl 0 rfl) ?_
        refine lv_if_eq (tgt := 67) hx hb dX12_eldestOpen_40 rfl (fun h287 => ?_) (fun h287 => ?_)
        · have ch287 := i_eq h287
          refine lv_iload_n hx hb dX12_eldestOpen_67 rfl (lv_at hl 2 rfl) ?_
          refine lv_istore_n (lv' := [(2, .int x260), (4, .int 1), (3, .int x259), (1, .int k), (0, .ref h0)]) hx hb dX12_eldestOpen_68 rfl hl (by decide) rfl (fun ls hl => ?_)
          obtain ⟨z288, ez288⟩ : ∃ z : Int32, z = x259 + Int32.ofInt 1 := ⟨_, rfl⟩
          have hz288 := i_add ez288 (by rw [show (Int32.ofInt 1).toInt = 1 from rfl]; omega) (by rw [show (Int32.ofInt 1).toInt = 1 from rfl]; omega)
          rw [show (Int32.ofInt 1).toInt = 1 from rfl] at hz288
          refine lv_iinc (lv' := [(3, .int z288), (2, .int x260), (4, .int 1), (1, .int k), (0, .ref h0)]) (k := 2) (v := z288) hx hb dX12_eldestOpen_69 hl rfl ez288.symm (by decide) rfl (fun ls hl => ?_)
          refine lv_goto (tgt := 4) hx hb dX12_eldestOpen_72 rfl ?_
          have hl : lv_has ls 5 [(3, .int z288), (2, .int x260), (1, .int k), (0, .ref h0)] := lv_sub hl [0, 1, 3, 4] rfl
          exact ih (z288, x260) σ ls H locs (by (try dsimp only); omega) hl ⟨rfl, by (try dsimp only); omega⟩ hH
        · have ch287 := i_ne h287
          refine lv_iload_n hx hb dX12_eldestOpen_43 rfl (lv_at hl 2 rfl) ?_
          refine lv_if_lt (tgt := 63) hx hb dX12_eldestOpen_44 rfl (fun h289 => ?_) (fun h289 => ?_)
          · have ch289 := i_lt h289
            refine lv_iload_n hx hb dX12_eldestOpen_63 rfl (lv_at hl 1 rfl) ?_
            refine lv_goto (tgt := 68) hx hb dX12_eldestOpen_64 rfl ?_
            refine lv_istore_n (lv' := [(2, .int x259), (4, .int 1), (3, .int x259), (1, .int k), (0, .ref h0)]) hx hb dX12_eldestOpen_68 rfl hl (by decide) rfl (fun ls hl => ?_)
            obtain ⟨z290, ez290⟩ : ∃ z : Int32, z = x259 + Int32.ofInt 1 := ⟨_, rfl⟩
            have hz290 := i_add ez290 (by rw [show (Int32.ofInt 1).toInt = 1 from rfl]; omega) (by rw [show (Int32.ofInt 1).toInt = 1 from rfl]; omega)
            rw [show (Int32.ofInt 1).toInt = 1 from rfl] at hz290
            refine lv_iinc (lv' := [(3, .int z290), (2, .int x259), (4, .int 1), (1, .int k), (0, .ref h0)]) (k := 2) (v := z290) hx hb dX12_eldestOpen_69 hl rfl ez290.symm (by decide) rfl (fun ls hl => ?_)
            refine lv_goto (tgt := 4) hx hb dX12_eldestOpen_72 rfl ?_
            have hl : lv_has ls 5 [(3, .int z290), (2, .int x259), (1, .int k), (0, .ref h0)] := lv_sub hl [0, 1, 3, 4] rfl
            exact ih (z290, x259) σ ls H locs (by (try dsimp only); omega) hl ⟨rfl, by (try dsimp only); omega⟩ hH
          · have ch289 := i_nlt h289
            refine lv_aload_n hx hb dX12_eldestOpen_47 rfl (lv_at hl 4 rfl) ?_
            refine m_getA 41 hF hH fk_X12_139 dX12_eldestOpen_48 (by decide) rfl ?_
            refine lv_iload_n hx hb dX12_eldestOpen_51 rfl (lv_at hl 1 rfl) ?_
            refine m_lald 41 40 hF hH dX12_eldestOpen_52 (by decide) rfl rfl (by omega) (by omega) (fun z291 ez291 => ?_)
            refine lv_aload_n hx hb dX12_eldestOpen_53 rfl (lv_at hl 4 rfl) ?_
            refine m_getA 41 hF hH fk_X12_139 dX12_eldestOpen_54 (by decide) rfl ?_
            refine lv_iload_n hx hb dX12_eldestOpen_57 rfl (lv_at hl 2 rfl) ?_
            refine m_lald 41 40 hF hH dX12_eldestOpen_58 (by decide) rfl rfl (by omega) (by omega) (fun z292 ez292 => ?_)
            refine W.lcmp hx hb dX12_eldestOpen_59 ?_
            refine lv_topi (fun z293 ez293 => ?_)
            have hz293 := l_cmp ez293
            refine lv_if_ge (tgt := 67) hx hb dX12_eldestOpen_60 rfl (fun h294 => ?_) (fun h294 => ?_)
            · have ch294 := i_le h294
              refine lv_iload_n hx hb dX12_eldestOpen_67 rfl (lv_at hl 2 rfl) ?_
              refine lv_istore_n (lv' := [(2, .int x260), (4, .int 1), (3, .int x259), (1, .int k), (0, .ref h0)]) hx hb dX12_eldestOpen_68 rfl hl (by decide) rfl (fun ls hl => ?_)
              obtain ⟨z295, ez295⟩ : ∃ z : Int32, z = x259 + Int32.ofInt 1 := ⟨_, rfl⟩
              have hz295 := i_add ez295 (by rw [show (Int32.ofInt 1).toInt = 1 from rfl]; omega) (by rw [show (Int32.ofInt 1).toInt = 1 from rfl]; omega)
              rw [show (Int32.ofInt 1).toInt = 1 from rfl] at hz295
              refine lv_iinc (lv' := [(3, .int z295), (2, .int x260), (4, .int 1), (1, .int k), (0, .ref h0)]) (k := 2) (v := z295) hx hb dX12_eldestOpen_69 hl rfl ez295.symm (by decide) rfl (fun ls hl => ?_)
              refine lv_goto (tgt := 4) hx hb dX12_eldestOpen_72 rfl ?_
              have hl : lv_has ls 5 [(3, .int z295), (2, .int x260), (1, .int k), (0, .ref h0)] := lv_sub hl [0, 1, 3, 4] rfl
              exact ih (z295, x260) σ ls H locs (by (try dsimp only); omega) hl ⟨rfl, by (try dsimp only); omega⟩ hH
            · have ch294 := i_nle h294
              refine lv_iload_n hx hb dX12_eldestOpen_63 rfl (lv_at hl 1 rfl) ?_
              refine lv_goto (tgt := 68) hx hb dX12_eldestOpen_64 rfl ?_
              refine lv_istore_n (lv' := [(2, .int x259), (4, .int 1), (3, .int x259), (1, .int k), (0, .ref h0)]) hx hb dX12_eldestOpen_68 rfl hl (by decide) rfl (fun ls hl => ?_)
              obtain ⟨z296, ez296⟩ : ∃ z : Int32, z = x259 + Int32.ofInt 1 := ⟨_, rfl⟩
              have hz296 := i_add ez296 (by rw [show (Int32.ofInt 1).toInt = 1 from rfl]; omega) (by rw [show (Int32.ofInt 1).toInt = 1 from rfl]; omega)
              rw [show (Int32.ofInt 1).toInt = 1 from rfl] at hz296
              refine lv_iinc (lv' := [(3, .int z296), (2, .int x259), (4, .int 1), (1, .int k), (0, .ref h0)]) (k := 2) (v := z296) hx hb dX12_eldestOpen_69 hl rfl ez296.symm (by decide) rfl (fun ls hl => ?_)
              refine lv_goto (tgt := 4) hx hb dX12_eldestOpen_72 rfl ?_
              have hl : lv_has ls 5 [(3, .int z296), (2, .int x259), (1, .int k), (0, .ref h0)] := lv_sub hl [0, 1, 3, 4] rfl
              exact ih (z296, x259) σ ls H locs (by (try dsimp only); omega) hl ⟨rfl, by (try dsimp only); omega⟩ hH
theorem dX12_isOpened_0 : decode cX12_isOpened 0 = .ok (.iconst 0, 1) := by decide +kernel
theorem dX12_isOpened_1 : decode cX12_isOpened 1 = .ok (.istore_n 2, 1) := by decide +kernel
theorem dX12_isOpened_2 : decode cX12_isOpened 2 = .ok (.iconst 0, 1) := by decide +kernel
theorem dX12_isOpened_3 : decode cX12_isOpened 3 = .ok (.istore_n 3, 1) := by decide +kernel
theorem dX12_isOpened_4 : decode cX12_isOpened 4 = .ok (.iload_n 3, 1) := by decide +kernel
theorem dX12_isOpened_5 : decode cX12_isOpened 5 = .ok (.bipush 40, 2) := by decide +kernel
theorem dX12_isOpened_7 : decode cX12_isOpened 7 = .ok (.if_icmp .ge 38, 3) := by decide +kernel
theorem dX12_isOpened_10 : decode cX12_isOpened 10 = .ok (.iload_n 2, 1) := by decide +kernel
theorem dX12_isOpened_11 : decode cX12_isOpened 11 = .ok (.aload_n 0, 1) := by decide +kernel
theorem dX12_isOpened_12 : decode cX12_isOpened 12 = .ok (.getfield 139, 3) := by decide +kernel
theorem dX12_isOpened_15 : decode cX12_isOpened 15 = .ok (.iload_n 3, 1) := by decide +kernel
theorem dX12_isOpened_16 : decode cX12_isOpened 16 = .ok (.laload, 1) := by decide +kernel
theorem dX12_isOpened_17 : decode cX12_isOpened 17 = .ok (.lconst 0, 1) := by decide +kernel
theorem dX12_isOpened_18 : decode cX12_isOpened 18 = .ok (.lcmp, 1) := by decide +kernel
theorem dX12_isOpened_19 : decode cX12_isOpened 19 = .ok (.ifCond .le 17, 3) := by decide +kernel
theorem dX12_isOpened_22 : decode cX12_isOpened 22 = .ok (.aload_n 0, 1) := by decide +kernel
theorem dX12_isOpened_23 : decode cX12_isOpened 23 = .ok (.getfield 145, 3) := by decide +kernel
theorem dX12_isOpened_26 : decode cX12_isOpened 26 = .ok (.iload_n 3, 1) := by decide +kernel
theorem dX12_isOpened_27 : decode cX12_isOpened 27 = .ok (.iaload, 1) := by decide +kernel
theorem dX12_isOpened_28 : decode cX12_isOpened 28 = .ok (.iload_n 1, 1) := by decide +kernel
theorem dX12_isOpened_29 : decode cX12_isOpened 29 = .ok (.if_icmp .ne 7, 3) := by decide +kernel
theorem dX12_isOpened_32 : decode cX12_isOpened 32 = .ok (.iconst 1, 1) := by decide +kernel
theorem dX12_isOpened_33 : decode cX12_isOpened 33 = .ok (.goto 4, 3) := by decide +kernel
theorem dX12_isOpened_36 : decode cX12_isOpened 36 = .ok (.iconst 0, 1) := by decide +kernel
theorem dX12_isOpened_37 : decode cX12_isOpened 37 = .ok (.ior, 1) := by decide +kernel
theorem dX12_isOpened_38 : decode cX12_isOpened 38 = .ok (.istore_n 2, 1) := by decide +kernel
theorem dX12_isOpened_39 : decode cX12_isOpened 39 = .ok (.iinc 3 1, 3) := by decide +kernel
theorem dX12_isOpened_42 : decode cX12_isOpened 42 = .ok (.goto (-38), 3) := by decide +kernel
theorem dX12_isOpened_45 : decode cX12_isOpened 45 = .ok (.iload_n 2, 1) := by decide +kernel
theorem dX12_isOpened_46 : decode cX12_isOpened 46 = .ok (.ireturn, 1) := by decide +kernel
set_option maxRecDepth 100000 in
set_option maxHeartbeats 4000000 in
theorem c_X12_isOpened (l : Launch) (D : va_G) (t : Nat → ClassId) (h0 : Nat) (L : Nat → Nat) (σ : HS) (hO : OK ph τ0 σ) (hM : MdI h0 L σ) (k : Int32) (sz : Nat) : HMi ph τ0 l D t yX12_isOpened cX12_isOpened 4 (some .boolean) ({ frames := 0, cells := 0, slots := 0, locals := 0 }) σ sz [.ref h0, .int k] 0 0 (fun r σ' => MdI h0 L σ' ∧ σ' = σ ∧ (0 ≤ r.toInt ∧ r.toInt ≤ 1)) := by
  refine h_go hO (by decide) (Nat.le_of_ble_eq_true rfl) ?_
  intro p e s m below meth c ls A hF hr hlk hAe hH0 hA hl
  unfold hB
  rw [hAe]
  clear hAe
  have hF : FX p m c cX12_isOpened 4 s _ RX12 D t := hF
  have hx := hF.1.1
  have hb := hF.1.2.1
  have hH : MT D t A s.heap h0 L σ s.heap [] := ⟨hH0, hM⟩
  have hle : HLe σ σ := HLe.rf
  have kl_0 : (0 : Int64).toInt = 0 := rfl
  have k_0 : (0 : Int32).toInt = 0 := rfl
  have k_1 : (1 : Int32).toInt = 1 := rfl
  have k_40 : (40 : Int32).toInt = 40 := rfl
  have rg_1 := i_range k
  have hl : lv_has ls 4 [(0, .ref h0), (1, .int k)] := hl
  refine lv_iconst (v := 0) hx hb dX12_isOpened_0 (by decide) ?_
  refine lv_istore_n (lv' := [(2, .int 0), (0, .ref h0), (1, .int k)]) hx hb dX12_isOpened_1 rfl hl (by decide) rfl (fun ls hl => ?_)
  refine lv_iconst (v := 0) hx hb dX12_isOpened_2 (by decide) ?_
  refine lv_istore_n (lv' := [(3, .int 0), (2, .int 0), (0, .ref h0), (1, .int k)]) hx hb dX12_isOpened_3 rfl hl (by decide) rfl (fun ls hl => ?_)
  have hl : lv_has ls 4 [(3, .int 0), (2, .int 0), (1, .int k), (0, .ref h0)] := lv_sub hl [0, 1, 3, 2] rfl
  refine m_loop (β := Int32 × Int32) (L0 := fun x => [(3, .int x.1), (2, .int x.2), (1, .int k), (0, .ref h0)]) (I := fun x σ2 => σ = σ2 ∧ (0 ≤ x.1.toInt ∧ x.1.toInt ≤ 40 ∧ 0 ≤ x.2.toInt ∧ x.2.toInt ≤ 1)) (fun x σ2 => (40 - x.1.toInt).toNat) (0, 0) hl ⟨rfl, by (try dsimp only); omega⟩ hH (fun x σL ls H locs hl hI hH ih => ?_)
  obtain ⟨x297, x298⟩ := x
  obtain ⟨hsL, hI⟩ := hI
  subst hsL
  have hl : lv_has ls 4 [(3, .int x297), (2, .int x298), (1, .int k), (0, .ref h0)] := hl
  have hI : 0 ≤ x297.toInt ∧ x297.toInt ≤ 40 ∧ 0 ≤ x298.toInt ∧ x298.toInt ≤ 1 := hI
  have rg_x297 := i_range x297
  have rg_x298 := i_range x298
  refine lv_iload_n hx hb dX12_isOpened_4 rfl (lv_at hl 0 rfl) ?_
  refine lv_bipush (v := 40) hx hb dX12_isOpened_5 (by decide) ?_
  refine lv_icmp_ge (tgt := 45) hx hb dX12_isOpened_7 rfl (fun h299 => ?_) (fun h299 => ?_)
  · have ch299 := i_le h299
    refine lv_iload_n hx hb dX12_isOpened_45 rfl (lv_at hl 1 rfl) ?_
    exact h_reti hF hr hlk (i_01 (by omega)).1 dX12_isOpened_46 hH.1 hle ⟨hH.2, rfl, by (try dsimp only); omega⟩
  · have ch299 := i_nle h299
    refine lv_iload_n hx hb dX12_isOpened_10 rfl (lv_at hl 1 rfl) ?_
    refine lv_aload_n hx hb dX12_isOpened_11 rfl (lv_at hl 3 rfl) ?_
    refine m_getA 41 hF hH fk_X12_139 dX12_isOpened_12 (by decide) rfl ?_
    refine lv_iload_n hx hb dX12_isOpened_15 rfl (lv_at hl 0 rfl) ?_
    refine m_lald 41 40 hF hH dX12_isOpened_16 (by decide) rfl rfl (by omega) (by omega) (fun z300 ez300 => ?_)
    refine lv_lconst (v := 0) hx hb dX12_isOpened_17 (by decide) ?_
    refine W.lcmp hx hb dX12_isOpened_18 ?_
    refine lv_topi (fun z301 ez301 => ?_)
    have hz301 := l_cmp ez301
    refine lv_if_le (tgt := 36) hx hb dX12_isOpened_19 rfl (fun h302 => ?_) (fun h302 => ?_)
    · have ch302 := i_le h302
      refine lv_iconst (v := 0) hx hb dX12_isOpened_36 (by decide) ?_
      refine lv_ior hx hb dX12_isOpened_37 ?_
      refine lv_topi (fun z303 ez303 => ?_)
      try have hz303 := i_or01 ez303 (by omega) (by omega)
      try have h2z303 := i_or ez303 (by omega) (by omega)
      refine lv_istore_n (lv' := [(2, .int z303), (3, .int x297), (1, .int k), (0, .ref h0)]) hx hb dX12_isOpened_38 rfl hl (by decide) rfl (fun ls hl => ?_)
      obtain ⟨z304, ez304⟩ : ∃ z : Int32, z = x297 + Int32.ofInt 1 := ⟨_, rfl⟩
      have hz304 := i_add ez304 (by rw [show (Int32.ofInt 1).toInt = 1 from rfl]; omega) (by rw [show (Int32.ofInt 1).toInt = 1 from rfl]; omega)
      rw [show (Int32.ofInt 1).toInt = 1 from rfl] at hz304
      refine lv_iinc (lv' := [(3, .int z304), (2, .int z303), (1, .int k), (0, .ref h0)]) (k := 1) (v := z304) hx hb dX12_isOpened_39 hl rfl ez304.symm (by decide) rfl (fun ls hl => ?_)
      refine lv_goto (tgt := 4) hx hb dX12_isOpened_42 rfl ?_
      have hl : lv_has ls 4 [(3, .int z304), (2, .int z303), (1, .int k), (0, .ref h0)] := lv_sub hl [0, 1, 2, 3] rfl
      exact ih (z304, z303) σ ls H locs (by (try dsimp only); omega) hl ⟨rfl, by (try dsimp only); omega⟩ hH
    · have ch302 := i_nle h302
      refine lv_aload_n hx hb dX12_isOpened_22 rfl (lv_at hl 3 rfl) ?_
      refine m_getA 43 hF hH fk_X12_145 dX12_isOpened_23 (by decide) rfl ?_
      refine lv_iload_n hx hb dX12_isOpened_26 rfl (lv_at hl 0 rfl) ?_
      refine m_iald 43 40 hF hH dX12_isOpened_27 (by decide) rfl rfl 0 79 rfl rfl (by omega) (by omega) (fun z305 ez305 vz305 => ?_)
      have wz305 := i_eq ez305
      refine lv_iload_n hx hb dX12_isOpened_28 rfl (lv_at hl 2 rfl) ?_
      refine lv_icmp_ne (tgt := 36) hx hb dX12_isOpened_29 rfl (fun h306 => ?_) (fun h306 => ?_)
      · have ch306 := i_ne h306
        refine lv_iconst (v := 0) hx hb dX12_isOpened_36 (by decide) ?_
        refine lv_ior hx hb dX12_isOpened_37 ?_
        refine lv_topi (fun z307 ez307 => ?_)
        try have hz307 := i_or01 ez307 (by omega) (by omega)
        try have h2z307 := i_or ez307 (by omega) (by omega)
        refine lv_istore_n (lv' := [(2, .int z307), (3, .int x297), (1, .int k), (0, .ref h0)]) hx hb dX12_isOpened_38 rfl hl (by decide) rfl (fun ls hl => ?_)
        obtain ⟨z308, ez308⟩ : ∃ z : Int32, z = x297 + Int32.ofInt 1 := ⟨_, rfl⟩
        have hz308 := i_add ez308 (by rw [show (Int32.ofInt 1).toInt = 1 from rfl]; omega) (by rw [show (Int32.ofInt 1).toInt = 1 from rfl]; omega)
        rw [show (Int32.ofInt 1).toInt = 1 from rfl] at hz308
        refine lv_iinc (lv' := [(3, .int z308), (2, .int z307), (1, .int k), (0, .ref h0)]) (k := 1) (v := z308) hx hb dX12_isOpened_39 hl rfl ez308.symm (by decide) rfl (fun ls hl => ?_)
        refine lv_goto (tgt := 4) hx hb dX12_isOpened_42 rfl ?_
        have hl : lv_has ls 4 [(3, .int z308), (2, .int z307), (1, .int k), (0, .ref h0)] := lv_sub hl [0, 1, 2, 3] rfl
        exact ih (z308, z307) σ ls H locs (by (try dsimp only); omega) hl ⟨rfl, by (try dsimp only); omega⟩ hH
      · have ch306 := i_eq h306
        refine lv_iconst (v := 1) hx hb dX12_isOpened_32 (by decide) ?_
        refine lv_goto (tgt := 37) hx hb dX12_isOpened_33 rfl ?_
        refine lv_ior hx hb dX12_isOpened_37 ?_
        refine lv_topi (fun z309 ez309 => ?_)
        try have hz309 := i_or01 ez309 (by omega) (by omega)
        try have h2z309 := i_or ez309 (by omega) (by omega)
        refine lv_istore_n (lv' := [(2, .int z309), (3, .int x297), (1, .int k), (0, .ref h0)]) hx hb dX12_isOpened_38 rfl hl (by decide) rfl (fun ls hl => ?_)
        obtain ⟨z310, ez310⟩ : ∃ z : Int32, z = x297 + Int32.ofInt 1 := ⟨_, rfl⟩
        have hz310 := i_add ez310 (by rw [show (Int32.ofInt 1).toInt = 1 from rfl]; omega) (by rw [show (Int32.ofInt 1).toInt = 1 from rfl]; omega)
        rw [show (Int32.ofInt 1).toInt = 1 from rfl] at hz310
        refine lv_iinc (lv' := [(3, .int z310), (2, .int z309), (1, .int k), (0, .ref h0)]) (k := 1) (v := z310) hx hb dX12_isOpened_39 hl rfl ez310.symm (by decide) rfl (fun ls hl => ?_)
        refine lv_goto (tgt := 4) hx hb dX12_isOpened_42 rfl ?_
        have hl : lv_has ls 4 [(3, .int z310), (2, .int z309), (1, .int k), (0, .ref h0)] := lv_sub hl [0, 1, 2, 3] rfl
        exact ih (z310, z309) σ ls H locs (by (try dsimp only); omega) hl ⟨rfl, by (try dsimp only); omega⟩ hH
theorem dX12_openWith_0 : decode cX12_openWith 0 = .ok (.iconst 0, 1) := by decide +kernel
theorem dX12_openWith_1 : decode cX12_openWith 1 = .ok (.istore_n 3, 1) := by decide +kernel
theorem dX12_openWith_2 : decode cX12_openWith 2 = .ok (.iload_n 3, 1) := by decide +kernel
theorem dX12_openWith_3 : decode cX12_openWith 3 = .ok (.bipush 40, 2) := by decide +kernel
theorem dX12_openWith_5 : decode cX12_openWith 5 = .ok (.if_icmp .ge 70, 3) := by decide +kernel
theorem dX12_openWith_8 : decode cX12_openWith 8 = .ok (.aload_n 0, 1) := by decide +kernel
theorem dX12_openWith_9 : decode cX12_openWith 9 = .ok (.getfield 139, 3) := by decide +kernel
theorem dX12_openWith_12 : decode cX12_openWith 12 = .ok (.iload_n 3, 1) := by decide +kernel
theorem dX12_openWith_13 : decode cX12_openWith 13 = .ok (.laload, 1) := by decide +kernel
theorem dX12_openWith_14 : decode cX12_openWith 14 = .ok (.lconst 0, 1) := by decide +kernel
theorem dX12_openWith_15 : decode cX12_openWith 15 = .ok (.lcmp, 1) := by decide +kernel
theorem dX12_openWith_16 : decode cX12_openWith 16 = .ok (.ifCond .le 17, 3) := by decide +kernel
theorem dX12_openWith_19 : decode cX12_openWith 19 = .ok (.aload_n 0, 1) := by decide +kernel
theorem dX12_openWith_20 : decode cX12_openWith 20 = .ok (.getfield 145, 3) := by decide +kernel
theorem dX12_openWith_23 : decode cX12_openWith 23 = .ok (.iload_n 3, 1) := by decide +kernel
theorem dX12_openWith_24 : decode cX12_openWith 24 = .ok (.iaload, 1) := by decide +kernel
theorem dX12_openWith_25 : decode cX12_openWith 25 = .ok (.iload_n 1, 1) := by decide +kernel
theorem dX12_openWith_26 : decode cX12_openWith 26 = .ok (.if_icmp .ne 7, 3) := by decide +kernel
theorem dX12_openWith_29 : decode cX12_openWith 29 = .ok (.iconst 1, 1) := by decide +kernel
theorem dX12_openWith_30 : decode cX12_openWith 30 = .ok (.goto 4, 3) := by decide +kernel
theorem dX12_openWith_33 : decode cX12_openWith 33 = .ok (.iconst 0, 1) := by decide +kernel
theorem dX12_openWith_34 : decode cX12_openWith 34 = .ok (.istore 4, 2) := by decide +kernel
theorem dX12_openWith_36 : decode cX12_openWith 36 = .ok (.iload 4, 2) := by decide +kernel
theorem dX12_openWith_38 : decode cX12_openWith 38 = .ok (.ifCond .eq 31, 3) := by decide +kernel
theorem dX12_openWith_41 : decode cX12_openWith 41 = .ok (.iload_n 2, 1) := by decide +kernel
theorem dX12_openWith_42 : decode cX12_openWith 42 = .ok (.ifCond .ge 15, 3) := by decide +kernel
theorem dX12_openWith_45 : decode cX12_openWith 45 = .ok (.aload_n 0, 1) := by decide +kernel
theorem dX12_openWith_46 : decode cX12_openWith 46 = .ok (.getfield 157, 3) := by decide +kernel
theorem dX12_openWith_49 : decode cX12_openWith 49 = .ok (.iload_n 3, 1) := by decide +kernel
theorem dX12_openWith_50 : decode cX12_openWith 50 = .ok (.baload, 1) := by decide +kernel
theorem dX12_openWith_51 : decode cX12_openWith 51 = .ok (.ifCond .eq 18, 3) := by decide +kernel
theorem dX12_openWith_54 : decode cX12_openWith 54 = .ok (.goto 13, 3) := by decide +kernel
theorem dX12_openWith_57 : decode cX12_openWith 57 = .ok (.aload_n 0, 1) := by decide +kernel
theorem dX12_openWith_58 : decode cX12_openWith 58 = .ok (.getfield 154, 3) := by decide +kernel
theorem dX12_openWith_61 : decode cX12_openWith 61 = .ok (.iload_n 3, 1) := by decide +kernel
theorem dX12_openWith_62 : decode cX12_openWith 62 = .ok (.iaload, 1) := by decide +kernel
theorem dX12_openWith_63 : decode cX12_openWith 63 = .ok (.iload_n 2, 1) := by decide +kernel
theorem dX12_openWith_64 : decode cX12_openWith 64 = .ok (.if_icmp .ne 5, 3) := by decide +kernel
theorem dX12_openWith_67 : decode cX12_openWith 67 = .ok (.iload_n 3, 1) := by decide +kernel
theorem dX12_openWith_68 : decode cX12_openWith 68 = .ok (.ireturn, 1) := by decide +kernel
theorem dX12_openWith_69 : decode cX12_openWith 69 = .ok (.iinc 3 1, 3) := by decide +kernel
theorem dX12_openWith_72 : decode cX12_openWith 72 = .ok (.goto (-70), 3) := by decide +kernel
theorem dX12_openWith_75 : decode cX12_openWith 75 = .ok (.iconst (-1), 1) := by decide +kernel
theorem dX12_openWith_76 : decode cX12_openWith 76 = .ok (.ireturn, 1) := by decide +kernel
set_option maxRecDepth 100000 in
set_option maxHeartbeats 4000000 in
theorem c_X12_openWith (l : Launch) (D : va_G) (t : Nat → ClassId) (h0 : Nat) (L : Nat → Nat) (σ : HS) (hO : OK ph τ0 σ) (hM : MdI h0 L σ) (k v : Int32) (sz : Nat) : HMi ph τ0 l D t yX12_openWith cX12_openWith 5 (some .int) ({ frames := 0, cells := 0, slots := 0, locals := 0 }) σ sz [.ref h0, .int k, .int v] 0 0 (fun r σ' => MdI h0 L σ' ∧ σ' = σ ∧ (-1 ≤ r.toInt ∧ r.toInt ≤ 39)) := by
  refine h_go hO (by decide) (Nat.le_of_ble_eq_true rfl) ?_
  intro p e s m below meth c ls A hF hr hlk hAe hH0 hA hl
  unfold hB
  rw [hAe]
  clear hAe
  have hF : FX p m c cX12_openWith 5 s _ RX12 D t := hF
  have hx := hF.1.1
  have hb := hF.1.2.1
  have hH : MT D t A s.heap h0 L σ s.heap [] := ⟨hH0, hM⟩
  have hle : HLe σ σ := HLe.rf
  have kl_0 : (0 : Int64).toInt = 0 := rfl
  have k_m1 : ((-1) : Int32).toInt = (-1) := rfl
  have k_0 : (0 : Int32).toInt = 0 := rfl
  have k_1 : (1 : Int32).toInt = 1 := rfl
  have k_40 : (40 : Int32).toInt = 40 := rfl
  have rg_1 := i_range k
  have rg_2 := i_range v
  have hl : lv_has ls 5 [(0, .ref h0), (1, .int k), (2, .int v)] := hl
  refine lv_iconst (v := 0) hx hb dX12_openWith_0 (by decide) ?_
  refine lv_istore_n (lv' := [(3, .int 0), (0, .ref h0), (1, .int k), (2, .int v)]) hx hb dX12_openWith_1 rfl hl (by decide) rfl (fun ls hl => ?_)
  have hl : lv_has ls 5 [(3, .int 0), (2, .int v), (1, .int k), (0, .ref h0)] := lv_sub hl [0, 3, 2, 1] rfl
  refine m_loop (β := Int32) (L0 := fun x => [(3, .int x), (2, .int v), (1, .int k), (0, .ref h0)]) (I := fun x σ2 => σ = σ2 ∧ (0 ≤ x.toInt ∧ x.toInt ≤ 40)) (fun x σ2 => (40 - x.toInt).toNat) (0) hl ⟨rfl, by (try dsimp only); omega⟩ hH (fun x σL ls H locs hl hI hH ih => ?_)
  obtain ⟨x311, hx1⟩ : ∃ y, y = x := ⟨_, rfl⟩
  subst hx1
  obtain ⟨hsL, hI⟩ := hI
  subst hsL
  have hl : lv_has ls 5 [(3, .int x311), (2, .int v), (1, .int k), (0, .ref h0)] := hl
  have hI : 0 ≤ x311.toInt ∧ x311.toInt ≤ 40 := hI
  have rg_x311 := i_range x311
  refine lv_iload_n hx hb dX12_openWith_2 rfl (lv_at hl 0 rfl) ?_
  refine lv_bipush (v := 40) hx hb dX12_openWith_3 (by decide) ?_
  refine lv_icmp_ge (tgt := 75) hx hb dX12_openWith_5 rfl (fun h312 => ?_) (fun h312 => ?_)
  · have ch312 := i_le h312
    refine lv_iconst (v := (-1)) hx hb dX12_openWith_75 (by decide) ?_
    exact h_reti hF hr hlk rfl dX12_openWith_76 hH.1 hle ⟨hH.2, rfl, by (try dsimp only); omega⟩
  · have ch312 := i_nle h312
    refine lv_aload_n hx hb dX12_openWith_8 rfl (lv_at hl 3 rfl) ?_
    refine m_getA 41 hF hH fk_X12_139 dX12_openWith_9 (by decide) rfl ?_
    refine lv_iload_n hx hb dX12_openWith_12 rfl (lv_at hl 0 rfl) ?_
    refine m_lald 41 40 hF hH dX12_openWith_13 (by decide) rfl rfl (by omega) (by omega) (fun z313 ez313 => ?_)
    refine lv_lconst (v := 0) hx hb dX12_openWith_14 (by decide) ?_
    refine W.lcmp hx hb dX12_openWith_15 ?_
    refine lv_topi (fun z314 ez314 => ?_)
    have hz314 := l_cmp ez314
    refine lv_if_le (tgt := 33) hx hb dX12_openWith_16 rfl (fun h315 => ?_) (fun h315 => ?_)
    · have ch315 := i_le h315
      refine lv_iconst (v := 0) hx hb dX12_openWith_33 (by decide) ?_
      refine lv_istore (lv' := [(4, .int 0), (3, .int x311), (2, .int v), (1, .int k), (0, .ref h0)]) hx hb dX12_openWith_34 hl (by decide) rfl (fun ls hl => ?_)
      refine lv_iload hx hb dX12_openWith_36 (lv_at hl 0 rfl) ?_
      refine lv_if_eq (tgt := 69) hx hb dX12_openWith_38 rfl (fun h316 => ?_) (fun h316 => ?_)
      · have ch316 := i_eq h316
        obtain ⟨z317, ez317⟩ : ∃ z : Int32, z = x311 + Int32.ofInt 1 := ⟨_, rfl⟩
        have hz317 := i_add ez317 (by rw [show (Int32.ofInt 1).toInt = 1 from rfl]; omega) (by rw [show (Int32.ofInt 1).toInt = 1 from rfl]; omega)
        rw [show (Int32.ofInt 1).toInt = 1 from rfl] at hz317
        refine lv_iinc (lv' := [(3, .int z317), (4, .int 0), (2, .int v), (1, .int k), (0, .ref h0)]) (k := 1) (v := z317) hx hb dX12_openWith_69 hl rfl ez317.symm (by decide) rfl (fun ls hl => ?_)
        refine lv_goto (tgt := 2) hx hb dX12_openWith_72 rfl ?_
        have hl : lv_has ls 5 [(3, .int z317), (2, .int v), (1, .int k), (0, .ref h0)] := lv_sub hl [0, 2, 3, 4] rfl
        exact ih (z317) σ ls H locs (by (try dsimp only); omega) hl ⟨rfl, by (try dsimp only); omega⟩ hH
      · have ch316 := i_ne h316
        refine lv_iload_n hx hb dX12_openWith_41 rfl (lv_at hl 2 rfl) ?_
        refine lv_if_ge (tgt := 57) hx hb dX12_openWith_42 rfl (fun h318 => ?_) (fun h318 => ?_)
        · have ch318 := i_le h318
          refine lv_aload_n hx hb dX12_openWith_57 rfl (lv_at hl 4 rfl) ?_
          refine m_getA 46 hF hH fk_X12_154 dX12_openWith_58 (by decide) rfl ?_
          refine lv_iload_n hx hb dX12_openWith_61 rfl (lv_at hl 1 rfl) ?_
          refine m_iald 46 40 hF hH dX12_openWith_62 (by decide) rfl rfl 0 255 rfl rfl (by omega) (by omega) (fun z319 ez319 vz319 => ?_)
          have wz319 := i_eq ez319
          refine lv_iload_n hx hb dX12_openWith_63 rfl (lv_at hl 2 rfl) ?_
          refine lv_icmp_ne (tgt := 69) hx hb dX12_openWith_64 rfl (fun h320 => ?_) (fun h320 => ?_)
          · have ch320 := i_ne h320
            obtain ⟨z321, ez321⟩ : ∃ z : Int32, z = x311 + Int32.ofInt 1 := ⟨_, rfl⟩
            have hz321 := i_add ez321 (by rw [show (Int32.ofInt 1).toInt = 1 from rfl]; omega) (by rw [show (Int32.ofInt 1).toInt = 1 from rfl]; omega)
            rw [show (Int32.ofInt 1).toInt = 1 from rfl] at hz321
            refine lv_iinc (lv' := [(3, .int z321), (4, .int 0), (2, .int v), (1, .int k), (0, .ref h0)]) (k := 1) (v := z321) hx hb dX12_openWith_69 hl rfl ez321.symm (by decide) rfl (fun ls hl => ?_)
            refine lv_goto (tgt := 2) hx hb dX12_openWith_72 rfl ?_
            have hl : lv_has ls 5 [(3, .int z321), (2, .int v), (1, .int k), (0, .ref h0)] := lv_sub hl [0, 2, 3, 4] rfl
            exact ih (z321) σ ls H locs (by (try dsimp only); omega) hl ⟨rfl, by (try dsimp only); omega⟩ hH
          · have ch320 := i_eq h320
            refine lv_iload_n hx hb dX12_openWith_67 rfl (lv_at hl 1 rfl) ?_
            exact h_reti hF hr hlk rfl dX12_openWith_68 hH.1 hle ⟨hH.2, rfl, by (try dsimp only); omega⟩
        · have ch318 := i_nle h318
          refine lv_aload_n hx hb dX12_openWith_45 rfl (lv_at hl 4 rfl) ?_
          refine m_getA 47 hF hH fk_X12_157 dX12_openWith_46 (by decide) rfl ?_
          refine lv_iload_n hx hb dX12_openWith_49 rfl (lv_at hl 1 rfl) ?_
          refine m_zald 47 40 hF hH dX12_openWith_50 (by decide) rfl rfl 0 1 rfl rfl (by omega) (by omega) (fun z322 ez322 vz322 => ?_)
          have wz322 := i_eq ez322
          refine lv_if_eq (tgt := 69) hx hb dX12_openWith_51 rfl (fun h323 => ?_) (fun h323 => ?_)
          · have ch323 := i_eq h323
            obtain ⟨z324, ez324⟩ : ∃ z : Int32, z = x311 + Int32.ofInt 1 := ⟨_, rfl⟩
            have hz324 := i_add ez324 (by rw [show (Int32.ofInt 1).toInt = 1 from rfl]; omega) (by rw [show (Int32.ofInt 1).toInt = 1 from rfl]; omega)
            rw [show (Int32.ofInt 1).toInt = 1 from rfl] at hz324
            refine lv_iinc (lv' := [(3, .int z324), (4, .int 0), (2, .int v), (1, .int k), (0, .ref h0)]) (k := 1) (v := z324) hx hb dX12_openWith_69 hl rfl ez324.symm (by decide) rfl (fun ls hl => ?_)
            refine lv_goto (tgt := 2) hx hb dX12_openWith_72 rfl ?_
            have hl : lv_has ls 5 [(3, .int z324), (2, .int v), (1, .int k), (0, .ref h0)] := lv_sub hl [0, 2, 3, 4] rfl
            exact ih (z324) σ ls H locs (by (try dsimp only); omega) hl ⟨rfl, by (try dsimp only); omega⟩ hH
          · have ch323 := i_ne h323
            refine lv_goto (tgt := 67) hx hb dX12_openWith_54 rfl ?_
            refine lv_iload_n hx hb dX12_openWith_67 rfl (lv_at hl 1 rfl) ?_
            exact h_reti hF hr hlk rfl dX12_openWith_68 hH.1 hle ⟨hH.2, rfl, by (try dsimp only); omega⟩
    · have ch315 := i_nle h315
      refine lv_aload_n hx hb dX12_openWith_19 rfl (lv_at hl 3 rfl) ?_
      refine m_getA 43 hF hH fk_X12_145 dX12_openWith_20 (by decide) rfl ?_
      refine lv_iload_n hx hb dX12_openWith_23 rfl (lv_at hl 0 rfl) ?_
      refine m_iald 43 40 hF hH dX12_openWith_24 (by decide) rfl rfl 0 79 rfl rfl (by omega) (by omega) (fun z325 ez325 vz325 => ?_)
      have wz325 := i_eq ez325
      refine lv_iload_n hx hb dX12_openWith_25 rfl (lv_at hl 2 rfl) ?_
      refine lv_icmp_ne (tgt := 33) hx hb dX12_openWith_26 rfl (fun h326 => ?_) (fun h326 => ?_)
      · have ch326 := i_ne h326
        refine lv_iconst (v := 0) hx hb dX12_openWith_33 (by decide) ?_
        refine lv_istore (lv' := [(4, .int 0), (3, .int x311), (2, .int v), (1, .int k), (0, .ref h0)]) hx hb dX12_openWith_34 hl (by decide) rfl (fun ls hl => ?_)
        refine lv_iload hx hb dX12_openWith_36 (lv_at hl 0 rfl) ?_
        refine lv_if_eq (tgt := 69) hx hb dX12_openWith_38 rfl (fun h327 => ?_) (fun h327 => ?_)
        · have ch327 := i_eq h327
          obtain ⟨z328, ez328⟩ : ∃ z : Int32, z = x311 + Int32.ofInt 1 := ⟨_, rfl⟩
          have hz328 := i_add ez328 (by rw [show (Int32.ofInt 1).toInt = 1 from rfl]; omega) (by rw [show (Int32.ofInt 1).toInt = 1 from rfl]; omega)
          rw [show (Int32.ofInt 1).toInt = 1 from rfl] at hz328
          refine lv_iinc (lv' := [(3, .int z328), (4, .int 0), (2, .int v), (1, .int k), (0, .ref h0)]) (k := 1) (v := z328) hx hb dX12_openWith_69 hl rfl ez328.symm (by decide) rfl (fun ls hl => ?_)
          refine lv_goto (tgt := 2) hx hb dX12_openWith_72 rfl ?_
          have hl : lv_has ls 5 [(3, .int z328), (2, .int v), (1, .int k), (0, .ref h0)] := lv_sub hl [0, 2, 3, 4] rfl
          exact ih (z328) σ ls H locs (by (try dsimp only); omega) hl ⟨rfl, by (try dsimp only); omega⟩ hH
        · have ch327 := i_ne h327
          refine lv_iload_n hx hb dX12_openWith_41 rfl (lv_at hl 2 rfl) ?_
          refine lv_if_ge (tgt := 57) hx hb dX12_openWith_42 rfl (fun h329 => ?_) (fun h329 => ?_)
          · have ch329 := i_le h329
            refine lv_aload_n hx hb dX12_openWith_57 rfl (lv_at hl 4 rfl) ?_
            refine m_getA 46 hF hH fk_X12_154 dX12_openWith_58 (by decide) rfl ?_
            refine lv_iload_n hx hb dX12_openWith_61 rfl (lv_at hl 1 rfl) ?_
            refine m_iald 46 40 hF hH dX12_openWith_62 (by decide) rfl rfl 0 255 rfl rfl (by omega) (by omega) (fun z330 ez330 vz330 => ?_)
            have wz330 := i_eq ez330
            refine lv_iload_n hx hb dX12_openWith_63 rfl (lv_at hl 2 rfl) ?_
            refine lv_icmp_ne (tgt := 69) hx hb dX12_openWith_64 rfl (fun h331 => ?_) (fun h331 => ?_)
            · have ch331 := i_ne h331
              obtain ⟨z332, ez332⟩ : ∃ z : Int32, z = x311 + Int32.ofInt 1 := ⟨_, rfl⟩
              have hz332 := i_add ez332 (by rw [show (Int32.ofInt 1).toInt = 1 from rfl]; omega) (by rw [show (Int32.ofInt 1).toInt = 1 from rfl]; omega)
              rw [show (Int32.ofInt 1).toInt = 1 from rfl] at hz332
              refine lv_iinc (lv' := [(3, .int z332), (4, .int 0), (2, .int v), (1, .int k), (0, .ref h0)]) (k := 1) (v := z332) hx hb dX12_openWith_69 hl rfl ez332.symm (by decide) rfl (fun ls hl => ?_)
              refine lv_goto (tgt := 2) hx hb dX12_openWith_72 rfl ?_
              have hl : lv_has ls 5 [(3, .int z332), (2, .int v), (1, .int k), (0, .ref h0)] := lv_sub hl [0, 2, 3, 4] rfl
              exact ih (z332) σ ls H locs (by (try dsimp only); omega) hl ⟨rfl, by (try dsimp only); omega⟩ hH
            · have ch331 := i_eq h331
              refine lv_iload_n hx hb dX12_openWith_67 rfl (lv_at hl 1 rfl) ?_
              exact h_reti hF hr hlk rfl dX12_openWith_68 hH.1 hle ⟨hH.2, rfl, by (try dsimp only); omega⟩
          · have ch329 := i_nle h329
            refine lv_aload_n hx hb dX12_openWith_45 rfl (lv_at hl 4 rfl) ?_
            refine m_getA 47 hF hH fk_X12_157 dX12_openWith_46 (by decide) rfl ?_
            refine lv_iload_n hx hb dX12_openWith_49 rfl (lv_at hl 1 rfl) ?_
            refine m_zald 47 40 hF hH dX12_openWith_50 (by decide) rfl rfl 0 1 rfl rfl (by omega) (by omega) (fun z333 ez333 vz333 => ?_)
            have wz333 := i_eq ez333
            refine lv_if_eq (tgt := 69) hx hb dX12_openWith_51 rfl (fun h334 => ?_) (fun h334 => ?_)
            · have ch334 := i_eq h334
              obtain ⟨z335, ez335⟩ : ∃ z : Int32, z = x311 + Int32.ofInt 1 := ⟨_, rfl⟩
              have hz335 := i_add ez335 (by rw [show (Int32.ofInt 1).toInt = 1 from rfl]; omega) (by rw [show (Int32.ofInt 1).toInt = 1 from rfl]; omega)
              rw [show (Int32.ofInt 1).toInt = 1 from rfl] at hz335
              refine lv_iinc (lv' := [(3, .int z335), (4, .int 0), (2, .int v), (1, .int k), (0, .ref h0)]) (k := 1) (v := z335) hx hb dX12_openWith_69 hl rfl ez335.symm (by decide) rfl (fun ls hl => ?_)
              refine lv_goto (tgt := 2) hx hb dX12_openWith_72 rfl ?_
              have hl : lv_has ls 5 [(3, .int z335), (2, .int v), (1, .int k), (0, .ref h0)] := lv_sub hl [0, 2, 3, 4] rfl
              exact ih (z335) σ ls H locs (by (try dsimp only); omega) hl ⟨rfl, by (try dsimp only); omega⟩ hH
            · have ch334 := i_ne h334
              refine lv_goto (tgt := 67) hx hb dX12_openWith_54 rfl ?_
              refine lv_iload_n hx hb dX12_openWith_67 rfl (lv_at hl 1 rfl) ?_
              exact h_reti hF hr hlk rfl dX12_openWith_68 hH.1 hle ⟨hH.2, rfl, by (try dsimp only); omega⟩
      · have ch326 := i_eq h326
        refine lv_iconst (v := 1) hx hb dX12_openWith_29 (by decide) ?_
        refine lv_goto (tgt := 34) hx hb dX12_openWith_30 rfl ?_
        refine lv_istore (lv' := [(4, .int 1), (3, .int x311), (2, .int v), (1, .int k), (0, .ref h0)]) hx hb dX12_openWith_34 hl (by decide) rfl (fun ls hl => ?_)
        refine lv_iload hx hb dX12_openWith_36 (lv_at hl 0 rfl) ?_
        refine lv_if_eq (tgt := 69) hx hb dX12_openWith_38 rfl (fun h336 => ?_) (fun h336 => ?_)
        · have ch336 := i_eq h336
          obtain ⟨z337, ez337⟩ : ∃ z : Int32, z = x311 + Int32.ofInt 1 := ⟨_, rfl⟩
          have hz337 := i_add ez337 (by rw [show (Int32.ofInt 1).toInt = 1 from rfl]; omega) (by rw [show (Int32.ofInt 1).toInt = 1 from rfl]; omega)
          rw [show (Int32.ofInt 1).toInt = 1 from rfl] at hz337
          refine lv_iinc (lv' := [(3, .int z337), (4, .int 1), (2, .int v), (1, .int k), (0, .ref h0)]) (k := 1) (v := z337) hx hb dX12_openWith_69 hl rfl ez337.symm (by decide) rfl (fun ls hl => ?_)
          refine lv_goto (tgt := 2) hx hb dX12_openWith_72 rfl ?_
          have hl : lv_has ls 5 [(3, .int z337), (2, .int v), (1, .int k), (0, .ref h0)] := lv_sub hl [0, 2, 3, 4] rfl
          exact ih (z337) σ ls H locs (by (try dsimp only); omega) hl ⟨rfl, by (try dsimp only); omega⟩ hH
        · have ch336 := i_ne h336
          refine lv_iload_n hx hb dX12_openWith_41 rfl (lv_at hl 2 rfl) ?_
          refine lv_if_ge (tgt := 57) hx hb dX12_openWith_42 rfl (fun h338 => ?_) (fun h338 => ?_)
          · have ch338 := i_le h338
            refine lv_aload_n hx hb dX12_openWith_57 rfl (lv_at hl 4 rfl) ?_
            refine m_getA 46 hF hH fk_X12_154 dX12_openWith_58 (by decide) rfl ?_
            refine lv_iload_n hx hb dX12_openWith_61 rfl (lv_at hl 1 rfl) ?_
            refine m_iald 46 40 hF hH dX12_openWith_62 (by decide) rfl rfl 0 255 rfl rfl (by omega) (by omega) (fun z339 ez339 vz339 => ?_)
            have wz339 := i_eq ez339
            refine lv_iload_n hx hb dX12_openWith_63 rfl (lv_at hl 2 rfl) ?_
            refine lv_icmp_ne (tgt := 69) hx hb dX12_openWith_64 rfl (fun h340 => ?_) (fun h340 => ?_)
            · have ch340 := i_ne h340
              obtain ⟨z341, ez341⟩ : ∃ z : Int32, z = x311 + Int32.ofInt 1 := ⟨_, rfl⟩
              have hz341 := i_add ez341 (by rw [show (Int32.ofInt 1).toInt = 1 from rfl]; omega) (by rw [show (Int32.ofInt 1).toInt = 1 from rfl]; omega)
              rw [show (Int32.ofInt 1).toInt = 1 from rfl] at hz341
              refine lv_iinc (lv' := [(3, .int z341), (4, .int 1), (2, .int v), (1, .int k), (0, .ref h0)]) (k := 1) (v := z341) hx hb dX12_openWith_69 hl rfl ez341.symm (by decide) rfl (fun ls hl => ?_)
              refine lv_goto (tgt := 2) hx hb dX12_openWith_72 rfl ?_
              have hl : lv_has ls 5 [(3, .int z341), (2, .int v), (1, .int k), (0, .ref h0)] := lv_sub hl [0, 2, 3, 4] rfl
              exact ih (z341) σ ls H locs (by (try dsimp only); omega) hl ⟨rfl, by (try dsimp only); omega⟩ hH
            · have ch340 := i_eq h340
              refine lv_iload_n hx hb dX12_openWith_67 rfl (lv_at hl 1 rfl) ?_
              exact h_reti hF hr hlk rfl dX12_openWith_68 hH.1 hle ⟨hH.2, rfl, by (try dsimp only); omega⟩
          · have ch338 := i_nle h338
            refine lv_aload_n hx hb dX12_openWith_45 rfl (lv_at hl 4 rfl) ?_
            refine m_getA 47 hF hH fk_X12_157 dX12_openWith_46 (by decide) rfl ?_
            refine lv_iload_n hx hb dX12_openWith_49 rfl (lv_at hl 1 rfl) ?_
            refine m_zald 47 40 hF hH dX12_openWith_50 (by decide) rfl rfl 0 1 rfl rfl (by omega) (by omega) (fun z342 ez342 vz342 => ?_)
            have wz342 := i_eq ez342
            refine lv_if_eq (tgt := 69) hx hb dX12_openWith_51 rfl (fun h343 => ?_) (fun h343 => ?_)
            · have ch343 := i_eq h343
              obtain ⟨z344, ez344⟩ : ∃ z : Int32, z = x311 + Int32.ofInt 1 := ⟨_, rfl⟩
              have hz344 := i_add ez344 (by rw [show (Int32.ofInt 1).toInt = 1 from rfl]; omega) (by rw [show (Int32.ofInt 1).toInt = 1 from rfl]; omega)
              rw [show (Int32.ofInt 1).toInt = 1 from rfl] at hz344
              refine lv_iinc (lv' := [(3, .int z344), (4, .int 1), (2, .int v), (1, .int k), (0, .ref h0)]) (k := 1) (v := z344) hx hb dX12_openWith_69 hl rfl ez344.symm (by decide) rfl (fun ls hl => ?_)
              refine lv_goto (tgt := 2) hx hb dX12_openWith_72 rfl ?_
              have hl : lv_has ls 5 [(3, .int z344), (2, .int v), (1, .int k), (0, .ref h0)] := lv_sub hl [0, 2, 3, 4] rfl
              exact ih (z344) σ ls H locs (by (try dsimp only); omega) hl ⟨rfl, by (try dsimp only); omega⟩ hH
            · have ch343 := i_ne h343
              refine lv_goto (tgt := 67) hx hb dX12_openWith_54 rfl ?_
              refine lv_iload_n hx hb dX12_openWith_67 rfl (lv_at hl 1 rfl) ?_
              exact h_reti hF hr hlk rfl dX12_openWith_68 hH.1 hle ⟨hH.2, rfl, by (try dsimp only); omega⟩

theorem i_mulr {x k z : Int32} (K : Int) (hk : k.toInt = K) (h : z = x * k) (h1 : -2147483648 ≤ K * x.toInt) (h2 : K * x.toInt ≤ 2147483647) : z.toInt = K * x.toInt := by
  rw [h, Int32.toInt_mul, hk, Int.mul_comm]
  exact bm h1 h2
theorem dX12_room_0 : decode cX12_room 0 = .ok (.aload_n 0, 1) := by decide +kernel
theorem dX12_room_1 : decode cX12_room 1 = .ok (.getfield 21, 3) := by decide +kernel
theorem dX12_room_4 : decode cX12_room 4 = .ok (.iload_n 1, 1) := by decide +kernel
theorem dX12_room_5 : decode cX12_room 5 = .ok (.baload, 1) := by decide +kernel
theorem dX12_room_6 : decode cX12_room 6 = .ok (.ifCond .eq 7, 3) := by decide +kernel
theorem dX12_room_9 : decode cX12_room 9 = .ok (.iconst 0, 1) := by decide +kernel
theorem dX12_room_10 : decode cX12_room 10 = .ok (.goto 21, 3) := by decide +kernel
theorem dX12_room_13 : decode cX12_room 13 = .ok (.aload_n 0, 1) := by decide +kernel
theorem dX12_room_14 : decode cX12_room 14 = .ok (.getfield 37, 3) := by decide +kernel
theorem dX12_room_17 : decode cX12_room 17 = .ok (.iload_n 1, 1) := by decide +kernel
theorem dX12_room_18 : decode cX12_room 18 = .ok (.iaload, 1) := by decide +kernel
theorem dX12_room_19 : decode cX12_room 19 = .ok (.sipush 511, 3) := by decide +kernel
theorem dX12_room_22 : decode cX12_room 22 = .ok (.iadd, 1) := by decide +kernel
theorem dX12_room_23 : decode cX12_room 23 = .ok (.sipush 512, 3) := by decide +kernel
theorem dX12_room_26 : decode cX12_room 26 = .ok (.idiv, 1) := by decide +kernel
theorem dX12_room_27 : decode cX12_room 27 = .ok (.sipush 512, 3) := by decide +kernel
theorem dX12_room_30 : decode cX12_room 30 = .ok (.imul, 1) := by decide +kernel
theorem dX12_room_31 : decode cX12_room 31 = .ok (.ireturn, 1) := by decide +kernel
set_option maxRecDepth 100000 in
set_option maxHeartbeats 4000000 in
theorem c_X12_room (l : Launch) (D : va_G) (t : Nat → ClassId) (h0 : Nat) (L : Nat → Nat) (σ : HS) (hO : OK ph τ0 σ) (hM : MdI h0 L σ) (n : Int32) (hz : 0 ≤ n.toInt ∧ n.toInt ≤ 79) (sz : Nat) : HMi ph τ0 l D t yX12_room cX12_room 2 (some .int) ({ frames := 0, cells := 0, slots := 0, locals := 0 }) σ sz [.ref h0, .int n] 0 0 (fun r σ' => MdI h0 L σ' ∧ σ' = σ ∧ (0 ≤ r.toInt ∧ r.toInt ≤ 5000)) := by
  refine h_go hO (by decide) (Nat.le_of_ble_eq_true rfl) ?_
  intro p e s m below meth c ls A hF hr hlk hAe hH0 hA hl
  unfold hB
  rw [hAe]
  clear hAe
  have hF : FX p m c cX12_room 2 s _ RX12 D t := hF
  have hx := hF.1.1
  have hb := hF.1.2.1
  have hH : MT D t A s.heap h0 L σ s.heap [] := ⟨hH0, hM⟩
  have hle : HLe σ σ := HLe.rf
  have k_0 : (0 : Int32).toInt = 0 := rfl
  have k_511 : (511 : Int32).toInt = 511 := rfl
  have k_512 : (512 : Int32).toInt = 512 := rfl
  have rg_1 := i_range n
  have hl : lv_has ls 2 [(0, .ref h0), (1, .int n)] := hl
  refine lv_aload_n hx hb dX12_room_0 rfl (lv_at hl 0 rfl) ?_
  refine m_getA 3 hF hH fk_X12_21 dX12_room_1 (by decide) rfl ?_
  refine lv_iload_n hx hb dX12_room_4 rfl (lv_at hl 1 rfl) ?_
  refine m_zald 3 160 hF hH dX12_room_5 (by decide) rfl rfl 0 1 rfl rfl (by omega) (by omega) (fun z829 ez829 vz829 => ?_)
  have wz829 := i_eq ez829
  refine lv_if_eq (tgt := 13) hx hb dX12_room_6 rfl (fun h830 => ?_) (fun h830 => ?_)
  · have ch830 := i_eq h830
    refine lv_aload_n hx hb dX12_room_13 rfl (lv_at hl 0 rfl) ?_
    refine m_getA 8 hF hH fk_X12_37 dX12_room_14 (by decide) rfl ?_
    refine lv_iload_n hx hb dX12_room_17 rfl (lv_at hl 1 rfl) ?_
    refine m_iald 8 160 hF hH dX12_room_18 (by decide) rfl rfl 0 4096 rfl rfl (by omega) (by omega) (fun z831 ez831 vz831 => ?_)
    have wz831 := i_eq ez831
    refine lv_sipush (v := 511) hx hb dX12_room_19 (by decide) ?_
    refine lv_iadd hx hb dX12_room_22 ?_
    refine lv_topi (fun z832 ez832 => ?_)
    try have hz832 := i_add ez832 (by omega) (by omega)
    refine lv_sipush (v := 512) hx hb dX12_room_23 (by decide) ?_
    refine lv_idiv hx hb dX12_room_26 (by decide) ?_
    refine lv_topi (fun z833 ez833 => ?_)
    try have hz833 := i_div 512 rfl ez833 (by omega) (by omega)
    refine lv_sipush (v := 512) hx hb dX12_room_27 (by decide) ?_
    refine lv_imul hx hb dX12_room_30 ?_
    refine lv_topi (fun z834 ez834 => ?_)
    try have hz834 := i_mulr 512 rfl ez834 (by omega) (by omega)
    exact h_reti hF hr hlk rfl dX12_room_31 hH.1 hle ⟨hH.2, rfl, by (try dsimp only); omega⟩
  · have ch830 := i_ne h830
    refine lv_iconst (v := 0) hx hb dX12_room_9 (by decide) ?_
    refine lv_goto (tgt := 31) hx hb dX12_room_10 rfl ?_
    exact h_reti hF hr hlk rfl dX12_room_31 hH.1 hle ⟨hH.2, rfl, by (try dsimp only); omega⟩
theorem dX12_shown_0 : decode cX12_shown 0 = .ok (.aload_n 0, 1) := by decide +kernel
theorem dX12_shown_1 : decode cX12_shown 1 = .ok (.getfield 30, 3) := by decide +kernel
theorem dX12_shown_4 : decode cX12_shown 4 = .ok (.iload_n 1, 1) := by decide +kernel
theorem dX12_shown_5 : decode cX12_shown 5 = .ok (.iaload, 1) := by decide +kernel
theorem dX12_shown_6 : decode cX12_shown 6 = .ok (.aload_n 0, 1) := by decide +kernel
theorem dX12_shown_7 : decode cX12_shown 7 = .ok (.getfield 21, 3) := by decide +kernel
theorem dX12_shown_10 : decode cX12_shown 10 = .ok (.iload_n 1, 1) := by decide +kernel
theorem dX12_shown_11 : decode cX12_shown 11 = .ok (.baload, 1) := by decide +kernel
theorem dX12_shown_12 : decode cX12_shown 12 = .ok (.ifCond .eq 8, 3) := by decide +kernel
theorem dX12_shown_15 : decode cX12_shown 15 = .ok (.bipush 16, 2) := by decide +kernel
theorem dX12_shown_17 : decode cX12_shown 17 = .ok (.goto 4, 3) := by decide +kernel
theorem dX12_shown_20 : decode cX12_shown 20 = .ok (.iconst 0, 1) := by decide +kernel
theorem dX12_shown_21 : decode cX12_shown 21 = .ok (.ior, 1) := by decide +kernel
theorem dX12_shown_22 : decode cX12_shown 22 = .ok (.istore_n 2, 1) := by decide +kernel
theorem dX12_shown_23 : decode cX12_shown 23 = .ok (.iload_n 2, 1) := by decide +kernel
theorem dX12_shown_24 : decode cX12_shown 24 = .ok (.ifCond .ne 9, 3) := by decide +kernel
theorem dX12_shown_27 : decode cX12_shown 27 = .ok (.sipush 128, 3) := by decide +kernel
theorem dX12_shown_30 : decode cX12_shown 30 = .ok (.goto 4, 3) := by decide +kernel
theorem dX12_shown_33 : decode cX12_shown 33 = .ok (.iload_n 2, 1) := by decide +kernel
theorem dX12_shown_34 : decode cX12_shown 34 = .ok (.ireturn, 1) := by decide +kernel
set_option maxRecDepth 100000 in
set_option maxHeartbeats 4000000 in
theorem c_X12_shown (l : Launch) (D : va_G) (t : Nat → ClassId) (h0 : Nat) (L : Nat → Nat) (σ : HS) (hO : OK ph τ0 σ) (hM : MdI h0 L σ) (n : Int32) (hz : 0 ≤ n.toInt ∧ n.toInt ≤ 79) (sz : Nat) : HMi ph τ0 l D t yX12_shown cX12_shown 3 (some .int) ({ frames := 0, cells := 0, slots := 0, locals := 0 }) σ sz [.ref h0, .int n] 0 0 (fun r σ' => MdI h0 L σ' ∧ σ' = σ ∧ (True)) := by
  refine h_go hO (by decide) (Nat.le_of_ble_eq_true rfl) ?_
  intro p e s m below meth c ls A hF hr hlk hAe hH0 hA hl
  unfold hB
  rw [hAe]
  clear hAe
  have hF : FX p m c cX12_shown 3 s _ RX12 D t := hF
  have hx := hF.1.1
  have hb := hF.1.2.1
  have hH : MT D t A s.heap h0 L σ s.heap [] := ⟨hH0, hM⟩
  have hle : HLe σ σ := HLe.rf
  have k_0 : (0 : Int32).toInt = 0 := rfl
  have k_16 : (16 : Int32).toInt = 16 := rfl
  have k_128 : (128 : Int32).toInt = 128 := rfl
  have rg_1 := i_range n
  have hl : lv_has ls 3 [(0, .ref h0), (1, .int n)] := hl
  refine lv_aload_n hx hb dX12_shown_0 rfl (lv_at hl 0 rfl) ?_
  refine m_getA 6 hF hH fk_X12_30 dX12_shown_1 (by decide) rfl ?_
  refine lv_iload_n hx hb dX12_shown_4 rfl (lv_at hl 1 rfl) ?_
  refine m_iald 6 160 hF hH dX12_shown_5 (by decide) rfl rfl (-2147483648) 2147483647 rfl rfl (by omega) (by omega) (fun z835 ez835 vz835 => ?_)
  have wz835 := i_eq ez835
  refine lv_aload_n hx hb dX12_shown_6 rfl (lv_at hl 0 rfl) ?_
  refine m_getA 3 hF hH fk_X12_21 dX12_shown_7 (by decide) rfl ?_
  refine lv_iload_n hx hb dX12_shown_10 rfl (lv_at hl 1 rfl) ?_
  refine m_zald 3 160 hF hH dX12_shown_11 (by decide) rfl rfl 0 1 rfl rfl (by omega) (by omega) (fun z836 ez836 vz836 => ?_)
  have wz836 := i_eq ez836
  refine m_join (β := Int32) 23 (L0 := fun x => [(2, .int x)]) (I := fun x σ2 => σ = σ2 ∧ ((True))) hl hH (fun x σJ838 ls H locs hl hI hH => ?_) (fun jn837 => ?_)
  · obtain ⟨x839, hx1⟩ : ∃ y, y = x := ⟨_, rfl⟩
    subst hx1
    obtain ⟨hsL, hI⟩ := hI
    subst hsL
    have hl : lv_has ls 3 [(2, .int x839)] := hl
    have hI : (True) := hI
    have rg_x839 := i_range x839
    refine lv_iload_n hx hb dX12_shown_23 rfl (lv_at hl 0 rfl) ?_
    refine lv_if_ne (tgt := 33) hx hb dX12_shown_24 rfl (fun h840 => ?_) (fun h840 => ?_)
    · have ch840 := i_ne h840
      refine lv_iload_n hx hb dX12_shown_33 rfl (lv_at hl 0 rfl) ?_
      exact h_reti hF hr hlk rfl dX12_shown_34 hH.1 hle ⟨hH.2, rfl, trivial⟩
    · have ch840 := i_eq h840
      refine lv_sipush (v := 128) hx hb dX12_shown_27 (by decide) ?_
      refine lv_goto (tgt := 34) hx hb dX12_shown_30 rfl ?_
      exact h_reti hF hr hlk rfl dX12_shown_34 hH.1 hle ⟨hH.2, rfl, trivial⟩
  · skip
    refine lv_if_eq (tgt := 20) hx hb dX12_shown_12 rfl (fun h841 => ?_) (fun h841 => ?_)
    · have ch841 := i_eq h841
      refine lv_iconst (v := 0) hx hb dX12_shown_20 (by decide) ?_
      refine lv_ior hx hb dX12_shown_21 ?_
      refine lv_topi (fun z842 ez842 => ?_)
      try have hz842 := i_or01 ez842 (by omega) (by omega)
      try have h2z842 := i_or ez842 (by omega) (by omega)
      refine lv_istore_n (lv' := [(2, .int z842), (0, .ref h0), (1, .int n)]) hx hb dX12_shown_22 rfl hl (by decide) rfl (fun ls hl => ?_)
      have hl : lv_has ls 3 [(2, .int z842)] := lv_sub hl [0] rfl
      exact jn837 (z842) σ ls _ _ hl ⟨rfl, trivial⟩ hH
    · have ch841 := i_ne h841
      refine lv_bipush (v := 16) hx hb dX12_shown_15 (by decide) ?_
      refine lv_goto (tgt := 21) hx hb dX12_shown_17 rfl ?_
      refine lv_ior hx hb dX12_shown_21 ?_
      refine lv_topi (fun z843 ez843 => ?_)
      try have hz843 := i_or01 ez843 (by omega) (by omega)
      try have h2z843 := i_or ez843 (by omega) (by omega)
      refine lv_istore_n (lv' := [(2, .int z843), (0, .ref h0), (1, .int n)]) hx hb dX12_shown_22 rfl hl (by decide) rfl (fun ls hl => ?_)
      have hl : lv_has ls 3 [(2, .int z843)] := lv_sub hl [0] rfl
      exact jn837 (z843) σ ls _ _ hl ⟨rfl, trivial⟩ hH
theorem dX12_setTimes_0 : decode cX12_setTimes 0 = .ok (.iconst 0, 1) := by decide +kernel
theorem dX12_setTimes_1 : decode cX12_setTimes 1 = .ok (.istore_n 3, 1) := by decide +kernel
theorem dX12_setTimes_2 : decode cX12_setTimes 2 = .ok (.iload_n 3, 1) := by decide +kernel
theorem dX12_setTimes_3 : decode cX12_setTimes 3 = .ok (.iconst 4, 1) := by decide +kernel
theorem dX12_setTimes_4 : decode cX12_setTimes 4 = .ok (.if_icmp .ge 31, 3) := by decide +kernel
theorem dX12_setTimes_7 : decode cX12_setTimes 7 = .ok (.aload_n 0, 1) := by decide +kernel
theorem dX12_setTimes_8 : decode cX12_setTimes 8 = .ok (.iload_n 1, 1) := by decide +kernel
theorem dX12_setTimes_9 : decode cX12_setTimes 9 = .ok (.bipush 8, 2) := by decide +kernel
theorem dX12_setTimes_11 : decode cX12_setTimes 11 = .ok (.iload_n 3, 1) := by decide +kernel
theorem dX12_setTimes_12 : decode cX12_setTimes 12 = .ok (.imul, 1) := by decide +kernel
theorem dX12_setTimes_13 : decode cX12_setTimes 13 = .ok (.iadd, 1) := by decide +kernel
theorem dX12_setTimes_14 : decode cX12_setTimes 14 = .ok (.bipush 8, 2) := by decide +kernel
theorem dX12_setTimes_16 : decode cX12_setTimes 16 = .ok (.aload_n 0, 1) := by decide +kernel
theorem dX12_setTimes_17 : decode cX12_setTimes 17 = .ok (.getfield 33, 3) := by decide +kernel
theorem dX12_setTimes_20 : decode cX12_setTimes 20 = .ok (.iconst 4, 1) := by decide +kernel
theorem dX12_setTimes_21 : decode cX12_setTimes 21 = .ok (.iload_n 2, 1) := by decide +kernel
theorem dX12_setTimes_22 : decode cX12_setTimes 22 = .ok (.imul, 1) := by decide +kernel
theorem dX12_setTimes_23 : decode cX12_setTimes 23 = .ok (.iload_n 3, 1) := by decide +kernel
theorem dX12_setTimes_24 : decode cX12_setTimes 24 = .ok (.iadd, 1) := by decide +kernel
theorem dX12_setTimes_25 : decode cX12_setTimes 25 = .ok (.laload, 1) := by decide +kernel
theorem dX12_setTimes_26 : decode cX12_setTimes 26 = .ok (.invokevirtual 376, 3) := by decide +kernel
theorem dX12_setTimes_29 : decode cX12_setTimes 29 = .ok (.iinc 3 1, 3) := by decide +kernel
theorem dX12_setTimes_32 : decode cX12_setTimes 32 = .ok (.goto (-30), 3) := by decide +kernel
theorem dX12_setTimes_35 : decode cX12_setTimes 35 = .ok (.return_, 1) := by decide +kernel
set_option maxRecDepth 100000 in
set_option maxHeartbeats 4000000 in
theorem c_X12_setTimes (l : Launch) (D : va_G) (t : Nat → ClassId) (h0 : Nat) (L : Nat → Nat) (σ : HS) (hO : OK ph τ0 σ) (hM : MdI h0 L σ) (a n : Int32) (hz : 0 ≤ a.toInt ∧ a.toInt ≤ 3000 ∧ 0 ≤ n.toInt ∧ n.toInt ≤ 79) (sz : Nat) : HMv ph τ0 l D t yX12_setTimes cX12_setTimes 4 ({ frames := 1, cells := 0, slots := 0, locals := 25 }) σ sz [.ref h0, .int a, .int n] 0 0 (fun σ' => MdI h0 L σ' ∧ Fr h0 L [] [76] σ σ' ∧ (True)) := by
  refine h_go hO (by decide) (Nat.le_of_ble_eq_true rfl) ?_
  intro p e s m below meth c ls A hF hr hlk hAe hH0 hA hl
  unfold hB
  rw [hAe]
  clear hAe
  have hF : FX p m c cX12_setTimes 4 s _ RX12 D t := hF
  have hx := hF.1.1
  have hb := hF.1.2.1
  have hH : MT D t A s.heap h0 L σ s.heap [] := ⟨hH0, hM⟩
  have hle : HLe σ σ := HLe.rf
  have hfr : Fr h0 L [] [76] σ σ := Fr.rf
  have k_0 : (0 : Int32).toInt = 0 := rfl
  have k_4 : (4 : Int32).toInt = 4 := rfl
  have k_8 : (8 : Int32).toInt = 8 := rfl
  have rg_1 := i_range a
  have rg_2 := i_range n
  have hl : lv_has ls 4 [(0, .ref h0), (1, .int a), (2, .int n)] := hl
  refine lv_iconst (v := 0) hx hb dX12_setTimes_0 (by decide) ?_
  refine lv_istore_n (lv' := [(3, .int 0), (0, .ref h0), (1, .int a), (2, .int n)]) hx hb dX12_setTimes_1 rfl hl (by decide) rfl (fun ls hl => ?_)
  have hl : lv_has ls 4 [(3, .int 0), (2, .int n), (1, .int a), (0, .ref h0)] := lv_sub hl [0, 3, 2, 1] rfl
  refine m_loop (β := Int32) (L0 := fun x => [(3, .int x), (2, .int n), (1, .int a), (0, .ref h0)]) (I := fun x σ2 => HLe σ σ2 ∧ Fr h0 L [] [76] σ σ2 ∧ ((0 ≤ x.toInt ∧ x.toInt ≤ 4))) (fun x σ2 => (4 - x.toInt).toNat) (0) hl ⟨hle, hfr, by (try dsimp only); omega⟩ hH (fun x σL ls H locs hl hI hH ih => ?_)
  obtain ⟨x844, hx1⟩ : ∃ y, y = x := ⟨_, rfl⟩
  subst hx1
  obtain ⟨hle, hfr, hI⟩ := hI
  have hl : lv_has ls 4 [(3, .int x844), (2, .int n), (1, .int a), (0, .ref h0)] := hl
  have hI : (0 ≤ x844.toInt ∧ x844.toInt ≤ 4) := hI
  have rg_x844 := i_range x844
  refine lv_iload_n hx hb dX12_setTimes_2 rfl (lv_at hl 0 rfl) ?_
  refine lv_iconst (v := 4) hx hb dX12_setTimes_3 (by decide) ?_
  refine lv_icmp_ge (tgt := 35) hx hb dX12_setTimes_4 rfl (fun h845 => ?_) (fun h845 => ?_)
  · have ch845 := i_le h845
    exact h_retv hF hr hlk dX12_setTimes_35 hH.1 hle ⟨hH.2, hfr, trivial⟩
  · have ch845 := i_nle h845
    refine lv_aload_n hx hb dX12_setTimes_7 rfl (lv_at hl 3 rfl) ?_
    refine lv_iload_n hx hb dX12_setTimes_8 rfl (lv_at hl 2 rfl) ?_
    refine lv_bipush (v := 8) hx hb dX12_setTimes_9 (by decide) ?_
    refine lv_iload_n hx hb dX12_setTimes_11 rfl (lv_at hl 0 rfl) ?_
    refine lv_imul hx hb dX12_setTimes_12 ?_
    refine lv_topi (fun z846 ez846 => ?_)
    try have hz846 := i_mulk 8 rfl ez846 (by omega) (by omega)
    refine lv_iadd hx hb dX12_setTimes_13 ?_
    refine lv_topi (fun z847 ez847 => ?_)
    try have hz847 := i_add ez847 (by omega) (by omega)
    refine lv_bipush (v := 8) hx hb dX12_setTimes_14 (by decide) ?_
    refine lv_aload_n hx hb dX12_setTimes_16 rfl (lv_at hl 3 rfl) ?_
    refine m_getA 7 hF hH fk_X12_33 dX12_setTimes_17 (by decide) rfl ?_
    refine lv_iconst (v := 4) hx hb dX12_setTimes_20 (by decide) ?_
    refine lv_iload_n hx hb dX12_setTimes_21 rfl (lv_at hl 1 rfl) ?_
    refine lv_imul hx hb dX12_setTimes_22 ?_
    refine lv_topi (fun z848 ez848 => ?_)
    try have hz848 := i_mulk 4 rfl ez848 (by omega) (by omega)
    refine lv_iload_n hx hb dX12_setTimes_23 rfl (lv_at hl 0 rfl) ?_
    refine lv_iadd hx hb dX12_setTimes_24 ?_
    refine lv_topi (fun z849 ez849 => ?_)
    try have hz849 := i_add ez849 (by omega) (by omega)
    refine m_lald 7 640 hF hH dX12_setTimes_25 (by decide) rfl rfl (by omega) (by omega) (fun z850 ez850 => ?_)
    refine m_cVv (As := [.int z847, .int 8, .long z850]) (rest := []) hF hH hA mv_X12_376 (fun sz => c_X12_set l D t h0 L _ hH.1.2.2.2 hH.2 z847 8 z850 (by omega) sz) dX12_setTimes_26 rfl rfl (by decide) rfl hl.1 (Nat.le_of_ble_eq_true rfl) (by decide) rfl (fun σ852 H locs lσ852 pz851 hH => ?_)
    obtain ⟨fz851, pz851⟩ := pz851
    have hle := hle.tr lσ852
    have hfr := hfr.tr fz851 (by decide) (by decide)
    obtain ⟨z853, ez853⟩ : ∃ z : Int32, z = x844 + Int32.ofInt 1 := ⟨_, rfl⟩
    have hz853 := i_add ez853 (by rw [show (Int32.ofInt 1).toInt = 1 from rfl]; omega) (by rw [show (Int32.ofInt 1).toInt = 1 from rfl]; omega)
    rw [show (Int32.ofInt 1).toInt = 1 from rfl] at hz853
    refine lv_iinc (lv' := [(3, .int z853), (2, .int n), (1, .int a), (0, .ref h0)]) (k := 0) (v := z853) hx hb dX12_setTimes_29 hl rfl ez853.symm (by decide) rfl (fun ls hl => ?_)
    refine lv_goto (tgt := 2) hx hb dX12_setTimes_32 rfl ?_
    have hl : lv_has ls 4 [(3, .int z853), (2, .int n), (1, .int a), (0, .ref h0)] := lv_sub hl [0, 1, 2, 3] rfl
    exact ih (z853) σ852 ls H locs (by (try dsimp only); omega) hl ⟨hle, hfr, by (try dsimp only); omega⟩ hH
theorem dX12_bodyOf_0 : decode cX12_bodyOf 0 = .ok (.iload_n 0, 1) := by decide +kernel
theorem dX12_bodyOf_1 : decode cX12_bodyOf 1 = .ok (.tableswitch 118 0 18 #[91, 94, 118, 97, 118, 100, 103, 103, 106, 106, 109, 118, 118, 118, 112, 118, 115, 112, 103], 91) := by decide +kernel
theorem dX12_bodyOf_92 : decode cX12_bodyOf 92 = .ok (.bipush 36, 2) := by decide +kernel
theorem dX12_bodyOf_94 : decode cX12_bodyOf 94 = .ok (.ireturn, 1) := by decide +kernel
theorem dX12_bodyOf_95 : decode cX12_bodyOf 95 = .ok (.bipush 25, 2) := by decide +kernel
theorem dX12_bodyOf_97 : decode cX12_bodyOf 97 = .ok (.ireturn, 1) := by decide +kernel
theorem dX12_bodyOf_98 : decode cX12_bodyOf 98 = .ok (.bipush 9, 2) := by decide +kernel
theorem dX12_bodyOf_100 : decode cX12_bodyOf 100 = .ok (.ireturn, 1) := by decide +kernel
theorem dX12_bodyOf_101 : decode cX12_bodyOf 101 = .ok (.bipush 57, 2) := by decide +kernel
theorem dX12_bodyOf_103 : decode cX12_bodyOf 103 = .ok (.ireturn, 1) := by decide +kernel
theorem dX12_bodyOf_104 : decode cX12_bodyOf 104 = .ok (.bipush 24, 2) := by decide +kernel
theorem dX12_bodyOf_106 : decode cX12_bodyOf 106 = .ok (.ireturn, 1) := by decide +kernel
theorem dX12_bodyOf_107 : decode cX12_bodyOf 107 = .ok (.bipush 49, 2) := by decide +kernel
theorem dX12_bodyOf_109 : decode cX12_bodyOf 109 = .ok (.ireturn, 1) := by decide +kernel
theorem dX12_bodyOf_110 : decode cX12_bodyOf 110 = .ok (.bipush 48, 2) := by decide +kernel
theorem dX12_bodyOf_112 : decode cX12_bodyOf 112 = .ok (.ireturn, 1) := by decide +kernel
theorem dX12_bodyOf_113 : decode cX12_bodyOf 113 = .ok (.bipush 33, 2) := by decide +kernel
theorem dX12_bodyOf_115 : decode cX12_bodyOf 115 = .ok (.ireturn, 1) := by decide +kernel
theorem dX12_bodyOf_116 : decode cX12_bodyOf 116 = .ok (.bipush 41, 2) := by decide +kernel
theorem dX12_bodyOf_118 : decode cX12_bodyOf 118 = .ok (.ireturn, 1) := by decide +kernel
theorem dX12_bodyOf_119 : decode cX12_bodyOf 119 = .ok (.iconst 4, 1) := by decide +kernel
theorem dX12_bodyOf_120 : decode cX12_bodyOf 120 = .ok (.ireturn, 1) := by decide +kernel
set_option maxRecDepth 100000 in
set_option maxHeartbeats 4000000 in
theorem c_X12_bodyOf (l : Launch) (D : va_G) (t : Nat → ClassId) (h0 : Nat) (L : Nat → Nat) (σ : HS) (hO : OK ph τ0 σ) (hM : MdI h0 L σ) (k : Int32) (sz : Nat) : HMi ph τ0 l D t yX12_bodyOf cX12_bodyOf 1 (some .int) ({ frames := 0, cells := 0, slots := 0, locals := 0 }) σ sz [.int k] 0 0 (fun r σ' => σ' = σ ∧ ((4 ≤ r.toInt ∧ r.toInt ≤ 57) ∧ (k.toInt = 0 → r.toInt = 36) ∧ (k.toInt = 1 → r.toInt = 25) ∧ (k.toInt = 3 → r.toInt = 9) ∧ (k.toInt = 5 → r.toInt = 57) ∧ (k.toInt = 6 ∨ k.toInt = 7 ∨ k.toInt = 18 → r.toInt = 24) ∧ (k.toInt = 8 ∨ k.toInt = 9 → r.toInt = 49) ∧ (k.toInt = 10 → r.toInt = 48) ∧ (k.toInt = 14 ∨ k.toInt = 17 → r.toInt = 33) ∧ (k.toInt = 16 → r.toInt = 41))) := by
  refine h_go hO (by decide) (Nat.le_of_ble_eq_true rfl) ?_
  intro p e s m below meth c ls A hF hr hlk hAe hH0 hA hl
  unfold hB
  rw [hAe]
  clear hAe
  have hF : FX p m c cX12_bodyOf 1 s _ RX12 D t := hF
  have hx := hF.1.1
  have hb := hF.1.2.1
  have hH : MT D t A s.heap h0 L σ s.heap [] := ⟨hH0, hM⟩
  have hle : HLe σ σ := HLe.rf
  have k_0 : (0 : Int32).toInt = 0 := rfl
  have k_4 : (4 : Int32).toInt = 4 := rfl
  have k_9 : (9 : Int32).toInt = 9 := rfl
  have k_24 : (24 : Int32).toInt = 24 := rfl
  have k_25 : (25 : Int32).toInt = 25 := rfl
  have k_33 : (33 : Int32).toInt = 33 := rfl
  have k_36 : (36 : Int32).toInt = 36 := rfl
  have k_41 : (41 : Int32).toInt = 41 := rfl
  have k_48 : (48 : Int32).toInt = 48 := rfl
  have k_49 : (49 : Int32).toInt = 49 := rfl
  have k_57 : (57 : Int32).toInt = 57 := rfl
  have rg_0 := i_range k
  have hl : lv_has ls 1 [(0, .int k)] := hl
  refine lv_iload_n hx hb dX12_bodyOf_0 rfl (lv_at hl 0 rfl) ?_
  by_cases hlo : k.toInt < 0
  · refine lv_tableOut (tgt := 119) hx hb dX12_bodyOf_1 (Or.inl hlo) rfl ?_
    refine lv_iconst (v := 4) hx hb dX12_bodyOf_119 (by decide) ?_
    exact h_reti hF hr hlk rfl dX12_bodyOf_120 hH.1 hle ⟨rfl, ⟨by (try dsimp only); omega, by (try dsimp only); omega, by (try dsimp only); omega, by (try dsimp only); omega, by (try dsimp only); omega, by (try dsimp only); omega, by (try dsimp only); omega, by (try dsimp only); omega, by (try dsimp only); omega, by (try dsimp only); omega⟩⟩
  · by_cases hhi : 18 < k.toInt
    · refine lv_tableOut (tgt := 119) hx hb dX12_bodyOf_1 (Or.inr hhi) rfl ?_
      refine lv_iconst (v := 4) hx hb dX12_bodyOf_119 (by decide) ?_
      exact h_reti hF hr hlk rfl dX12_bodyOf_120 hH.1 hle ⟨rfl, ⟨by (try dsimp only); omega, by (try dsimp only); omega, by (try dsimp only); omega, by (try dsimp only); omega, by (try dsimp only); omega, by (try dsimp only); omega, by (try dsimp only); omega, by (try dsimp only); omega, by (try dsimp only); omega, by (try dsimp only); omega⟩⟩
    · rcases (show k.toInt = 0 ∨ k.toInt = 1 ∨ k.toInt = 2 ∨ k.toInt = 3 ∨ k.toInt = 4 ∨ k.toInt = 5 ∨ k.toInt = 6 ∨ k.toInt = 7 ∨ k.toInt = 8 ∨ k.toInt = 9 ∨ k.toInt = 10 ∨ k.toInt = 11 ∨ k.toInt = 12 ∨ k.toInt = 13 ∨ k.toInt = 14 ∨ k.toInt = 15 ∨ k.toInt = 16 ∨ k.toInt = 17 ∨ k.toInt = 18 by omega) with zt | zt | zt | zt | zt | zt | zt | zt | zt | zt | zt | zt | zt | zt | zt | zt | zt | zt | zt
      · have hoff : (#[91, 94, 118, 97, 118, 100, 103, 103, 106, 106, 109, 118, 118, 118, 112, 118, 115, 112, 103] : Array Int)[(k.toInt - 0).toNat]? = some 91 := by rw [zt]; rfl
        refine lv_tableIn (off := 91) (tgt := 92) hx hb dX12_bodyOf_1 hlo hhi hoff rfl ?_
        refine lv_bipush (v := 36) hx hb dX12_bodyOf_92 (by decide) ?_
        exact h_reti hF hr hlk rfl dX12_bodyOf_94 hH.1 hle ⟨rfl, ⟨by (try dsimp only); omega, by (try dsimp only); omega, by (try dsimp only); omega, by (try dsimp only); omega, by (try dsimp only); omega, by (try dsimp only); omega, by (try dsimp only); omega, by (try dsimp only); omega, by (try dsimp only); omega, by (try dsimp only); omega⟩⟩
      · have hoff : (#[91, 94, 118, 97, 118, 100, 103, 103, 106, 106, 109, 118, 118, 118, 112, 118, 115, 112, 103] : Array Int)[(k.toInt - 0).toNat]? = some 94 := by rw [zt]; rfl
        refine lv_tableIn (off := 94) (tgt := 95) hx hb dX12_bodyOf_1 hlo hhi hoff rfl ?_
        refine lv_bipush (v := 25) hx hb dX12_bodyOf_95 (by decide) ?_
        exact h_reti hF hr hlk rfl dX12_bodyOf_97 hH.1 hle ⟨rfl, ⟨by (try dsimp only); omega, by (try dsimp only); omega, by (try dsimp only); omega, by (try dsimp only); omega, by (try dsimp only); omega, by (try dsimp only); omega, by (try dsimp only); omega, by (try dsimp only); omega, by (try dsimp only); omega, by (try dsimp only); omega⟩⟩
      · have hoff : (#[91, 94, 118, 97, 118, 100, 103, 103, 106, 106, 109, 118, 118, 118, 112, 118, 115, 112, 103] : Array Int)[(k.toInt - 0).toNat]? = some 118 := by rw [zt]; rfl
        refine lv_tableIn (off := 118) (tgt := 119) hx hb dX12_bodyOf_1 hlo hhi hoff rfl ?_
        refine lv_iconst (v := 4) hx hb dX12_bodyOf_119 (by decide) ?_
        exact h_reti hF hr hlk rfl dX12_bodyOf_120 hH.1 hle ⟨rfl, ⟨by (try dsimp only); omega, by (try dsimp only); omega, by (try dsimp only); omega, by (try dsimp only); omega, by (try dsimp only); omega, by (try dsimp only); omega, by (try dsimp only); omega, by (try dsimp only); omega, by (try dsimp only); omega, by (try dsimp only); omega⟩⟩
      · have hoff : (#[91, 94, 118, 97, 118, 100, 103, 103, 106, 106, 109, 118, 118, 118, 112, 118, 115, 112, 103] : Array Int)[(k.toInt - 0).toNat]? = some 97 := by rw [zt]; rfl
        refine lv_tableIn (off := 97) (tgt := 98) hx hb dX12_bodyOf_1 hlo hhi hoff rfl ?_
        refine lv_bipush (v := 9) hx hb dX12_bodyOf_98 (by decide) ?_
        exact h_reti hF hr hlk rfl dX12_bodyOf_100 hH.1 hle ⟨rfl, ⟨by (try dsimp only); omega, by (try dsimp only); omega, by (try dsimp only); omega, by (try dsimp only); omega, by (try dsimp only); omega, by (try dsimp only); omega, by (try dsimp only); omega, by (try dsimp only); omega, by (try dsimp only); omega, by (try dsimp only); omega⟩⟩
      · have hoff : (#[91, 94, 118, 97, 118, 100, 103, 103, 106, 106, 109, 118, 118, 118, 112, 118, 115, 112, 103] : Array Int)[(k.toInt - 0).toNat]? = some 118 := by rw [zt]; rfl
        refine lv_tableIn (off := 118) (tgt := 119) hx hb dX12_bodyOf_1 hlo hhi hoff rfl ?_
        refine lv_iconst (v := 4) hx hb dX12_bodyOf_119 (by decide) ?_
        exact h_reti hF hr hlk rfl dX12_bodyOf_120 hH.1 hle ⟨rfl, ⟨by (try dsimp only); omega, by (try dsimp only); omega, by (try dsimp only); omega, by (try dsimp only); omega, by (try dsimp only); omega, by (try dsimp only); omega, by (try dsimp only); omega, by (try dsimp only); omega, by (try dsimp only); omega, by (try dsimp only); omega⟩⟩
      · have hoff : (#[91, 94, 118, 97, 118, 100, 103, 103, 106, 106, 109, 118, 118, 118, 112, 118, 115, 112, 103] : Array Int)[(k.toInt - 0).toNat]? = some 100 := by rw [zt]; rfl
        refine lv_tableIn (off := 100) (tgt := 101) hx hb dX12_bodyOf_1 hlo hhi hoff rfl ?_
        refine lv_bipush (v := 57) hx hb dX12_bodyOf_101 (by decide) ?_
        exact h_reti hF hr hlk rfl dX12_bodyOf_103 hH.1 hle ⟨rfl, ⟨by (try dsimp only); omega, by (try dsimp only); omega, by (try dsimp only); omega, by (try dsimp only); omega, by (try dsimp only); omega, by (try dsimp only); omega, by (try dsimp only); omega, by (try dsimp only); omega, by (try dsimp only); omega, by (try dsimp only); omega⟩⟩
      · have hoff : (#[91, 94, 118, 97, 118, 100, 103, 103, 106, 106, 109, 118, 118, 118, 112, 118, 115, 112, 103] : Array Int)[(k.toInt - 0).toNat]? = some 103 := by rw [zt]; rfl
        refine lv_tableIn (off := 103) (tgt := 104) hx hb dX12_bodyOf_1 hlo hhi hoff rfl ?_
        refine lv_bipush (v := 24) hx hb dX12_bodyOf_104 (by decide) ?_
        exact h_reti hF hr hlk rfl dX12_bodyOf_106 hH.1 hle ⟨rfl, ⟨by (try dsimp only); omega, by (try dsimp only); omega, by (try dsimp only); omega, by (try dsimp only); omega, by (try dsimp only); omega, by (try dsimp only); omega, by (try dsimp only); omega, by (try dsimp only); omega, by (try dsimp only); omega, by (try dsimp only); omega⟩⟩
      · have hoff : (#[91, 94, 118, 97, 118, 100, 103, 103, 106, 106, 109, 118, 118, 118, 112, 118, 115, 112, 103] : Array Int)[(k.toInt - 0).toNat]? = some 103 := by rw [zt]; rfl
        refine lv_tableIn (off := 103) (tgt := 104) hx hb dX12_bodyOf_1 hlo hhi hoff rfl ?_
        refine lv_bipush (v := 24) hx hb dX12_bodyOf_104 (by decide) ?_
        exact h_reti hF hr hlk rfl dX12_bodyOf_106 hH.1 hle ⟨rfl, ⟨by (try dsimp only); omega, by (try dsimp only); omega, by (try dsimp only); omega, by (try dsimp only); omega, by (try dsimp only); omega, by (try dsimp only); omega, by (try dsimp only); omega, by (try dsimp only); omega, by (try dsimp only); omega, by (try dsimp only); omega⟩⟩
      · have hoff : (#[91, 94, 118, 97, 118, 100, 103, 103, 106, 106, 109, 118, 118, 118, 112, 118, 115, 112, 103] : Array Int)[(k.toInt - 0).toNat]? = some 106 := by rw [zt]; rfl
        refine lv_tableIn (off := 106) (tgt := 107) hx hb dX12_bodyOf_1 hlo hhi hoff rfl ?_
        refine lv_bipush (v := 49) hx hb dX12_bodyOf_107 (by decide) ?_
        exact h_reti hF hr hlk rfl dX12_bodyOf_109 hH.1 hle ⟨rfl, ⟨by (try dsimp only); omega, by (try dsimp only); omega, by (try dsimp only); omega, by (try dsimp only); omega, by (try dsimp only); omega, by (try dsimp only); omega, by (try dsimp only); omega, by (try dsimp only); omega, by (try dsimp only); omega, by (try dsimp only); omega⟩⟩
      · have hoff : (#[91, 94, 118, 97, 118, 100, 103, 103, 106, 106, 109, 118, 118, 118, 112, 118, 115, 112, 103] : Array Int)[(k.toInt - 0).toNat]? = some 106 := by rw [zt]; rfl
        refine lv_tableIn (off := 106) (tgt := 107) hx hb dX12_bodyOf_1 hlo hhi hoff rfl ?_
        refine lv_bipush (v := 49) hx hb dX12_bodyOf_107 (by decide) ?_
        exact h_reti hF hr hlk rfl dX12_bodyOf_109 hH.1 hle ⟨rfl, ⟨by (try dsimp only); omega, by (try dsimp only); omega, by (try dsimp only); omega, by (try dsimp only); omega, by (try dsimp only); omega, by (try dsimp only); omega, by (try dsimp only); omega, by (try dsimp only); omega, by (try dsimp only); omega, by (try dsimp only); omega⟩⟩
      · have hoff : (#[91, 94, 118, 97, 118, 100, 103, 103, 106, 106, 109, 118, 118, 118, 112, 118, 115, 112, 103] : Array Int)[(k.toInt - 0).toNat]? = some 109 := by rw [zt]; rfl
        refine lv_tableIn (off := 109) (tgt := 110) hx hb dX12_bodyOf_1 hlo hhi hoff rfl ?_
        refine lv_bipush (v := 48) hx hb dX12_bodyOf_110 (by decide) ?_
        exact h_reti hF hr hlk rfl dX12_bodyOf_112 hH.1 hle ⟨rfl, ⟨by (try dsimp only); omega, by (try dsimp only); omega, by (try dsimp only); omega, by (try dsimp only); omega, by (try dsimp only); omega, by (try dsimp only); omega, by (try dsimp only); omega, by (try dsimp only); omega, by (try dsimp only); omega, by (try dsimp only); omega⟩⟩
      · have hoff : (#[91, 94, 118, 97, 118, 100, 103, 103, 106, 106, 109, 118, 118, 118, 112, 118, 115, 112, 103] : Array Int)[(k.toInt - 0).toNat]? = some 118 := by rw [zt]; rfl
        refine lv_tableIn (off := 118) (tgt := 119) hx hb dX12_bodyOf_1 hlo hhi hoff rfl ?_
        refine lv_iconst (v := 4) hx hb dX12_bodyOf_119 (by decide) ?_
        exact h_reti hF hr hlk rfl dX12_bodyOf_120 hH.1 hle ⟨rfl, ⟨by (try dsimp only); omega, by (try dsimp only); omega, by (try dsimp only); omega, by (try dsimp only); omega, by (try dsimp only); omega, by (try dsimp only); omega, by (try dsimp only); omega, by (try dsimp only); omega, by (try dsimp only); omega, by (try dsimp only); omega⟩⟩
      · have hoff : (#[91, 94, 118, 97, 118, 100, 103, 103, 106, 106, 109, 118, 118, 118, 112, 118, 115, 112, 103] : Array Int)[(k.toInt - 0).toNat]? = some 118 := by rw [zt]; rfl
        refine lv_tableIn (off := 118) (tgt := 119) hx hb dX12_bodyOf_1 hlo hhi hoff rfl ?_
        refine lv_iconst (v := 4) hx hb dX12_bodyOf_119 (by decide) ?_
        exact h_reti hF hr hlk rfl dX12_bodyOf_120 hH.1 hle ⟨rfl, ⟨by (try dsimp only); omega, by (try dsimp only); omega, by (try dsimp only); omega, by (try dsimp only); omega, by (try dsimp only); omega, by (try dsimp only); omega, by (try dsimp only); omega, by (try dsimp only); omega, by (try dsimp only); omega, by (try dsimp only); omega⟩⟩
      · have hoff : (#[91, 94, 118, 97, 118, 100, 103, 103, 106, 106, 109, 118, 118, 118, 112, 118, 115, 112, 103] : Array Int)[(k.toInt - 0).toNat]? = some 118 := by rw [zt]; rfl
        refine lv_tableIn (off := 118) (tgt := 119) hx hb dX12_bodyOf_1 hlo hhi hoff rfl ?_
        refine lv_iconst (v := 4) hx hb dX12_bodyOf_119 (by decide) ?_
        exact h_reti hF hr hlk rfl dX12_bodyOf_120 hH.1 hle ⟨rfl, ⟨by (try dsimp only); omega, by (try dsimp only); omega, by (try dsimp only); omega, by (try dsimp only); omega, by (try dsimp only); omega, by (try dsimp only); omega, by (try dsimp only); omega, by (try dsimp only); omega, by (try dsimp only); omega, by (try dsimp only); omega⟩⟩
      · have hoff : (#[91, 94, 118, 97, 118, 100, 103, 103, 106, 106, 109, 118, 118, 118, 112, 118, 115, 112, 103] : Array Int)[(k.toInt - 0).toNat]? = some 112 := by rw [zt]; rfl
        refine lv_tableIn (off := 112) (tgt := 113) hx hb dX12_bodyOf_1 hlo hhi hoff rfl ?_
        refine lv_bipush (v := 33) hx hb dX12_bodyOf_113 (by decide) ?_
        exact h_reti hF hr hlk rfl dX12_bodyOf_115 hH.1 hle ⟨rfl, ⟨by (try dsimp only); omega, by (try dsimp only); omega, by (try dsimp only); omega, by (try dsimp only); omega, by (try dsimp only); omega, by (try dsimp only); omega, by (try dsimp only); omega, by (try dsimp only); omega, by (try dsimp only); omega, by (try dsimp only); omega⟩⟩
      · have hoff : (#[91, 94, 118, 97, 118, 100, 103, 103, 106, 106, 109, 118, 118, 118, 112, 118, 115, 112, 103] : Array Int)[(k.toInt - 0).toNat]? = some 118 := by rw [zt]; rfl
        refine lv_tableIn (off := 118) (tgt := 119) hx hb dX12_bodyOf_1 hlo hhi hoff rfl ?_
        refine lv_iconst (v := 4) hx hb dX12_bodyOf_119 (by decide) ?_
        exact h_reti hF hr hlk rfl dX12_bodyOf_120 hH.1 hle ⟨rfl, ⟨by (try dsimp only); omega, by (try dsimp only); omega, by (try dsimp only); omega, by (try dsimp only); omega, by (try dsimp only); omega, by (try dsimp only); omega, by (try dsimp only); omega, by (try dsimp only); omega, by (try dsimp only); omega, by (try dsimp only); omega⟩⟩
      · have hoff : (#[91, 94, 118, 97, 118, 100, 103, 103, 106, 106, 109, 118, 118, 118, 112, 118, 115, 112, 103] : Array Int)[(k.toInt - 0).toNat]? = some 115 := by rw [zt]; rfl
        refine lv_tableIn (off := 115) (tgt := 116) hx hb dX12_bodyOf_1 hlo hhi hoff rfl ?_
        refine lv_bipush (v := 41) hx hb dX12_bodyOf_116 (by decide) ?_
        exact h_reti hF hr hlk rfl dX12_bodyOf_118 hH.1 hle ⟨rfl, ⟨by (try dsimp only); omega, by (try dsimp only); omega, by (try dsimp only); omega, by (try dsimp only); omega, by (try dsimp only); omega, by (try dsimp only); omega, by (try dsimp only); omega, by (try dsimp only); omega, by (try dsimp only); omega, by (try dsimp only); omega⟩⟩
      · have hoff : (#[91, 94, 118, 97, 118, 100, 103, 103, 106, 106, 109, 118, 118, 118, 112, 118, 115, 112, 103] : Array Int)[(k.toInt - 0).toNat]? = some 112 := by rw [zt]; rfl
        refine lv_tableIn (off := 112) (tgt := 113) hx hb dX12_bodyOf_1 hlo hhi hoff rfl ?_
        refine lv_bipush (v := 33) hx hb dX12_bodyOf_113 (by decide) ?_
        exact h_reti hF hr hlk rfl dX12_bodyOf_115 hH.1 hle ⟨rfl, ⟨by (try dsimp only); omega, by (try dsimp only); omega, by (try dsimp only); omega, by (try dsimp only); omega, by (try dsimp only); omega, by (try dsimp only); omega, by (try dsimp only); omega, by (try dsimp only); omega, by (try dsimp only); omega, by (try dsimp only); omega⟩⟩
      · have hoff : (#[91, 94, 118, 97, 118, 100, 103, 103, 106, 106, 109, 118, 118, 118, 112, 118, 115, 112, 103] : Array Int)[(k.toInt - 0).toNat]? = some 103 := by rw [zt]; rfl
        refine lv_tableIn (off := 103) (tgt := 104) hx hb dX12_bodyOf_1 hlo hhi hoff rfl ?_
        refine lv_bipush (v := 24) hx hb dX12_bodyOf_104 (by decide) ?_
        exact h_reti hF hr hlk rfl dX12_bodyOf_106 hH.1 hle ⟨rfl, ⟨by (try dsimp only); omega, by (try dsimp only); omega, by (try dsimp only); omega, by (try dsimp only); omega, by (try dsimp only); omega, by (try dsimp only); omega, by (try dsimp only); omega, by (try dsimp only); omega, by (try dsimp only); omega, by (try dsimp only); omega⟩⟩
theorem dX12_fileOf_0 : decode cX12_fileOf 0 = .ok (.iload_n 0, 1) := by decide +kernel
theorem dX12_fileOf_1 : decode cX12_fileOf 1 = .ok (.tableswitch 76 6 18 #[67, 67, 70, 70, 67, 76, 76, 76, 67, 76, 73, 70, 67], 67) := by decide +kernel
theorem dX12_fileOf_68 : decode cX12_fileOf 68 = .ok (.bipush 72, 2) := by decide +kernel
theorem dX12_fileOf_70 : decode cX12_fileOf 70 = .ok (.ireturn, 1) := by decide +kernel
theorem dX12_fileOf_71 : decode cX12_fileOf 71 = .ok (.bipush 80, 2) := by decide +kernel
theorem dX12_fileOf_73 : decode cX12_fileOf 73 = .ok (.ireturn, 1) := by decide +kernel
theorem dX12_fileOf_74 : decode cX12_fileOf 74 = .ok (.bipush 88, 2) := by decide +kernel
theorem dX12_fileOf_76 : decode cX12_fileOf 76 = .ok (.ireturn, 1) := by decide +kernel
theorem dX12_fileOf_77 : decode cX12_fileOf 77 = .ok (.iconst 0, 1) := by decide +kernel
theorem dX12_fileOf_78 : decode cX12_fileOf 78 = .ok (.ireturn, 1) := by decide +kernel
set_option maxRecDepth 100000 in
set_option maxHeartbeats 4000000 in
theorem c_X12_fileOf (l : Launch) (D : va_G) (t : Nat → ClassId) (h0 : Nat) (L : Nat → Nat) (σ : HS) (hO : OK ph τ0 σ) (hM : MdI h0 L σ) (k : Int32) (sz : Nat) : HMi ph τ0 l D t yX12_fileOf cX12_fileOf 1 (some .int) ({ frames := 0, cells := 0, slots := 0, locals := 0 }) σ sz [.int k] 0 0 (fun r σ' => σ' = σ ∧ (r.toInt = 0 ∨ (r.toInt = 72 ∧ (k.toInt = 6 ∨ k.toInt = 7 ∨ k.toInt = 10 ∨ k.toInt = 14 ∨ k.toInt = 18)) ∨ (r.toInt = 80 ∧ (k.toInt = 8 ∨ k.toInt = 9 ∨ k.toInt = 17)) ∨ (r.toInt = 88 ∧ k.toInt = 16))) := by
  refine h_go hO (by decide) (Nat.le_of_ble_eq_true rfl) ?_
  intro p e s m below meth c ls A hF hr hlk hAe hH0 hA hl
  unfold hB
  rw [hAe]
  clear hAe
  have hF : FX p m c cX12_fileOf 1 s _ RX12 D t := hF
  have hx := hF.1.1
  have hb := hF.1.2.1
  have hH : MT D t A s.heap h0 L σ s.heap [] := ⟨hH0, hM⟩
  have hle : HLe σ σ := HLe.rf
  have k_0 : (0 : Int32).toInt = 0 := rfl
  have k_72 : (72 : Int32).toInt = 72 := rfl
  have k_80 : (80 : Int32).toInt = 80 := rfl
  have k_88 : (88 : Int32).toInt = 88 := rfl
  have rg_0 := i_range k
  have hl : lv_has ls 1 [(0, .int k)] := hl
  refine lv_iload_n hx hb dX12_fileOf_0 rfl (lv_at hl 0 rfl) ?_
  by_cases hlo : k.toInt < 6
  · refine lv_tableOut (tgt := 77) hx hb dX12_fileOf_1 (Or.inl hlo) rfl ?_
    refine lv_iconst (v := 0) hx hb dX12_fileOf_77 (by decide) ?_
    exact h_reti hF hr hlk rfl dX12_fileOf_78 hH.1 hle ⟨rfl, by (try dsimp only); omega⟩
  · by_cases hhi : 18 < k.toInt
    · refine lv_tableOut (tgt := 77) hx hb dX12_fileOf_1 (Or.inr hhi) rfl ?_
      refine lv_iconst (v := 0) hx hb dX12_fileOf_77 (by decide) ?_
      exact h_reti hF hr hlk rfl dX12_fileOf_78 hH.1 hle ⟨rfl, by (try dsimp only); omega⟩
    · rcases (show k.toInt = 6 ∨ k.toInt = 7 ∨ k.toInt = 8 ∨ k.toInt = 9 ∨ k.toInt = 10 ∨ k.toInt = 11 ∨ k.toInt = 12 ∨ k.toInt = 13 ∨ k.toInt = 14 ∨ k.toInt = 15 ∨ k.toInt = 16 ∨ k.toInt = 17 ∨ k.toInt = 18 by omega) with zt | zt | zt | zt | zt | zt | zt | zt | zt | zt | zt | zt | zt
      · have hoff : (#[67, 67, 70, 70, 67, 76, 76, 76, 67, 76, 73, 70, 67] : Array Int)[(k.toInt - 6).toNat]? = some 67 := by rw [zt]; rfl
        refine lv_tableIn (off := 67) (tgt := 68) hx hb dX12_fileOf_1 hlo hhi hoff rfl ?_
        refine lv_bipush (v := 72) hx hb dX12_fileOf_68 (by decide) ?_
        exact h_reti hF hr hlk rfl dX12_fileOf_70 hH.1 hle ⟨rfl, by (try dsimp only); omega⟩
      · have hoff : (#[67, 67, 70, 70, 67, 76, 76, 76, 67, 76, 73, 70, 67] : Array Int)[(k.toInt - 6).toNat]? = some 67 := by rw [zt]; rfl
        refine lv_tableIn (off := 67) (tgt := 68) hx hb dX12_fileOf_1 hlo hhi hoff rfl ?_
        refine lv_bipush (v := 72) hx hb dX12_fileOf_68 (by decide) ?_
        exact h_reti hF hr hlk rfl dX12_fileOf_70 hH.1 hle ⟨rfl, by (try dsimp only); omega⟩
      · have hoff : (#[67, 67, 70, 70, 67, 76, 76, 76, 67, 76, 73, 70, 67] : Array Int)[(k.toInt - 6).toNat]? = some 70 := by rw [zt]; rfl
        refine lv_tableIn (off := 70) (tgt := 71) hx hb dX12_fileOf_1 hlo hhi hoff rfl ?_
        refine lv_bipush (v := 80) hx hb dX12_fileOf_71 (by decide) ?_
        exact h_reti hF hr hlk rfl dX12_fileOf_73 hH.1 hle ⟨rfl, by (try dsimp only); omega⟩
      · have hoff : (#[67, 67, 70, 70, 67, 76, 76, 76, 67, 76, 73, 70, 67] : Array Int)[(k.toInt - 6).toNat]? = some 70 := by rw [zt]; rfl
        refine lv_tableIn (off := 70) (tgt := 71) hx hb dX12_fileOf_1 hlo hhi hoff rfl ?_
        refine lv_bipush (v := 80) hx hb dX12_fileOf_71 (by decide) ?_
        exact h_reti hF hr hlk rfl dX12_fileOf_73 hH.1 hle ⟨rfl, by (try dsimp only); omega⟩
      · have hoff : (#[67, 67, 70, 70, 67, 76, 76, 76, 67, 76, 73, 70, 67] : Array Int)[(k.toInt - 6).toNat]? = some 67 := by rw [zt]; rfl
        refine lv_tableIn (off := 67) (tgt := 68) hx hb dX12_fileOf_1 hlo hhi hoff rfl ?_
        refine lv_bipush (v := 72) hx hb dX12_fileOf_68 (by decide) ?_
        exact h_reti hF hr hlk rfl dX12_fileOf_70 hH.1 hle ⟨rfl, by (try dsimp only); omega⟩
      · have hoff : (#[67, 67, 70, 70, 67, 76, 76, 76, 67, 76, 73, 70, 67] : Array Int)[(k.toInt - 6).toNat]? = some 76 := by rw [zt]; rfl
        refine lv_tableIn (off := 76) (tgt := 77) hx hb dX12_fileOf_1 hlo hhi hoff rfl ?_
        refine lv_iconst (v := 0) hx hb dX12_fileOf_77 (by decide) ?_
        exact h_reti hF hr hlk rfl dX12_fileOf_78 hH.1 hle ⟨rfl, by (try dsimp only); omega⟩
      · have hoff : (#[67, 67, 70, 70, 67, 76, 76, 76, 67, 76, 73, 70, 67] : Array Int)[(k.toInt - 6).toNat]? = some 76 := by rw [zt]; rfl
        refine lv_tableIn (off := 76) (tgt := 77) hx hb dX12_fileOf_1 hlo hhi hoff rfl ?_
        refine lv_iconst (v := 0) hx hb dX12_fileOf_77 (by decide) ?_
        exact h_reti hF hr hlk rfl dX12_fileOf_78 hH.1 hle ⟨rfl, by (try dsimp only); omega⟩
      · have hoff : (#[67, 67, 70, 70, 67, 76, 76, 76, 67, 76, 73, 70, 67] : Array Int)[(k.toInt - 6).toNat]? = some 76 := by rw [zt]; rfl
        refine lv_tableIn (off := 76) (tgt := 77) hx hb dX12_fileOf_1 hlo hhi hoff rfl ?_
        refine lv_iconst (v := 0) hx hb dX12_fileOf_77 (by decide) ?_
        exact h_reti hF hr hlk rfl dX12_fileOf_78 hH.1 hle ⟨rfl, by (try dsimp only); omega⟩
      · have hoff : (#[67, 67, 70, 70, 67, 76, 76, 76, 67, 76, 73, 70, 67] : Array Int)[(k.toInt - 6).toNat]? = some 67 := by rw [zt]; rfl
        refine lv_tableIn (off := 67) (tgt := 68) hx hb dX12_fileOf_1 hlo hhi hoff rfl ?_
        refine lv_bipush (v := 72) hx hb dX12_fileOf_68 (by decide) ?_
        exact h_reti hF hr hlk rfl dX12_fileOf_70 hH.1 hle ⟨rfl, by (try dsimp only); omega⟩
      · have hoff : (#[67, 67, 70, 70, 67, 76, 76, 76, 67, 76, 73, 70, 67] : Array Int)[(k.toInt - 6).toNat]? = some 76 := by rw [zt]; rfl
        refine lv_tableIn (off := 76) (tgt := 77) hx hb dX12_fileOf_1 hlo hhi hoff rfl ?_
        refine lv_iconst (v := 0) hx hb dX12_fileOf_77 (by decide) ?_
        exact h_reti hF hr hlk rfl dX12_fileOf_78 hH.1 hle ⟨rfl, by (try dsimp only); omega⟩
      · have hoff : (#[67, 67, 70, 70, 67, 76, 76, 76, 67, 76, 73, 70, 67] : Array Int)[(k.toInt - 6).toNat]? = some 73 := by rw [zt]; rfl
        refine lv_tableIn (off := 73) (tgt := 74) hx hb dX12_fileOf_1 hlo hhi hoff rfl ?_
        refine lv_bipush (v := 88) hx hb dX12_fileOf_74 (by decide) ?_
        exact h_reti hF hr hlk rfl dX12_fileOf_76 hH.1 hle ⟨rfl, by (try dsimp only); omega⟩
      · have hoff : (#[67, 67, 70, 70, 67, 76, 76, 76, 67, 76, 73, 70, 67] : Array Int)[(k.toInt - 6).toNat]? = some 70 := by rw [zt]; rfl
        refine lv_tableIn (off := 70) (tgt := 71) hx hb dX12_fileOf_1 hlo hhi hoff rfl ?_
        refine lv_bipush (v := 80) hx hb dX12_fileOf_71 (by decide) ?_
        exact h_reti hF hr hlk rfl dX12_fileOf_73 hH.1 hle ⟨rfl, by (try dsimp only); omega⟩
      · have hoff : (#[67, 67, 70, 70, 67, 76, 76, 76, 67, 76, 73, 70, 67] : Array Int)[(k.toInt - 6).toNat]? = some 67 := by rw [zt]; rfl
        refine lv_tableIn (off := 67) (tgt := 68) hx hb dX12_fileOf_1 hlo hhi hoff rfl ?_
        refine lv_bipush (v := 72) hx hb dX12_fileOf_68 (by decide) ?_
        exact h_reti hF hr hlk rfl dX12_fileOf_70 hH.1 hle ⟨rfl, by (try dsimp only); omega⟩
theorem dX12_lies_0 : decode cX12_lies 0 = .ok (.lload_n 3, 1) := by decide +kernel
theorem dX12_lies_1 : decode cX12_lies 1 = .ok (.lconst 0, 1) := by decide +kernel
theorem dX12_lies_2 : decode cX12_lies 2 = .ok (.lcmp, 1) := by decide +kernel
theorem dX12_lies_3 : decode cX12_lies 3 = .ok (.ifCond .eq 23, 3) := by decide +kernel
theorem dX12_lies_6 : decode cX12_lies 6 = .ok (.lload_n 1, 1) := by decide +kernel
theorem dX12_lies_7 : decode cX12_lies 7 = .ok (.ldc2_w 380, 3) := by decide +kernel
theorem dX12_lies_10 : decode cX12_lies 10 = .ok (.lcmp, 1) := by decide +kernel
theorem dX12_lies_11 : decode cX12_lies 11 = .ok (.ifCond .lt 19, 3) := by decide +kernel
theorem dX12_lies_14 : decode cX12_lies 14 = .ok (.lload_n 1, 1) := by decide +kernel
theorem dX12_lies_15 : decode cX12_lies 15 = .ok (.lload_n 3, 1) := by decide +kernel
theorem dX12_lies_16 : decode cX12_lies 16 = .ok (.ladd, 1) := by decide +kernel
theorem dX12_lies_17 : decode cX12_lies 17 = .ok (.aload_n 0, 1) := by decide +kernel
theorem dX12_lies_18 : decode cX12_lies 18 = .ok (.getfield 404, 3) := by decide +kernel
theorem dX12_lies_21 : decode cX12_lies 21 = .ok (.i2l, 1) := by decide +kernel
theorem dX12_lies_22 : decode cX12_lies 22 = .ok (.lcmp, 1) := by decide +kernel
theorem dX12_lies_23 : decode cX12_lies 23 = .ok (.ifCond .gt 7, 3) := by decide +kernel
theorem dX12_lies_26 : decode cX12_lies 26 = .ok (.iconst 1, 1) := by decide +kernel
theorem dX12_lies_27 : decode cX12_lies 27 = .ok (.goto 4, 3) := by decide +kernel
theorem dX12_lies_30 : decode cX12_lies 30 = .ok (.iconst 0, 1) := by decide +kernel
theorem dX12_lies_31 : decode cX12_lies 31 = .ok (.ireturn, 1) := by decide +kernel
set_option maxRecDepth 100000 in
set_option maxHeartbeats 4000000 in
theorem c_X12_lies (l : Launch) (D : va_G) (t : Nat → ClassId) (h0 : Nat) (L : Nat → Nat) (σ : HS) (hO : OK ph τ0 σ) (hM : MdI h0 L σ) (u v : Int64) (hz : 0 ≤ u.toInt ∧ u.toInt ≤ 65535 ∧ 0 ≤ v.toInt ∧ v.toInt ≤ 4294967295) (sz : Nat) : HMi ph τ0 l D t yX12_lies cX12_lies 5 (some .boolean) ({ frames := 0, cells := 0, slots := 0, locals := 0 }) σ sz [.ref h0, .long u, .long v] 0 0 (fun r σ' => MdI h0 L σ' ∧ σ' = σ ∧ ((0 ≤ r.toInt ∧ r.toInt ≤ 1) ∧ (r.toInt = 1 → v.toInt = 0 ∨ u.toInt + v.toInt ≤ (sI σ h0 87).toInt))) := by
  refine h_go hO (by decide) (Nat.le_of_ble_eq_true rfl) ?_
  intro p e s m below meth c ls A hF hr hlk hAe hH0 hA hl
  unfold hB
  rw [hAe]
  clear hAe
  have hF : FX p m c cX12_lies 5 s _ RX12 D t := hF
  have hx := hF.1.1
  have hb := hF.1.2.1
  have hH : MT D t A s.heap h0 L σ s.heap [] := ⟨hH0, hM⟩
  have hle : HLe σ σ := HLe.rf
  have kl_0 : (0 : Int64).toInt = 0 := rfl
  have kl_64 : (64 : Int64).toInt = 64 := rfl
  have k_0 : (0 : Int32).toInt = 0 := rfl
  have k_1 : (1 : Int32).toInt = 1 := rfl
  have hl : lv_has ls 5 [(0, .ref h0), (1, .long u), (3, .long v)] := hl
  refine lv_lload_n hx hb dX12_lies_0 rfl (lv_at hl 2 rfl) ?_
  refine lv_lconst (v := 0) hx hb dX12_lies_1 (by decide) ?_
  refine W.lcmp hx hb dX12_lies_2 ?_
  refine lv_topi (fun z854 ez854 => ?_)
  have hz854 := l_cmp ez854
  refine lv_if_eq (tgt := 26) hx hb dX12_lies_3 rfl (fun h855 => ?_) (fun h855 => ?_)
  · have ch855 := i_eq h855
    refine lv_iconst (v := 1) hx hb dX12_lies_26 (by decide) ?_
    refine lv_goto (tgt := 31) hx hb dX12_lies_27 rfl ?_
    exact h_reti hF hr hlk (i_01 (by omega)).1 dX12_lies_31 hH.1 hle ⟨hH.2, rfl, ⟨by (try dsimp only); omega, fun _ => by (try dsimp only); omega⟩⟩
  · have ch855 := i_ne h855
    refine lv_lload_n hx hb dX12_lies_6 rfl (lv_at hl 1 rfl) ?_
    refine lv_ldc2 (v := 64) hx hb hF.1.2.2.2.1 (hF.1.2.2.2.2 _ (wc_47 21 rfl)) dX12_lies_7 ?_
    refine W.lcmp hx hb dX12_lies_10 ?_
    refine lv_topi (fun z856 ez856 => ?_)
    have hz856 := l_cmp ez856
    refine lv_if_lt (tgt := 30) hx hb dX12_lies_11 rfl (fun h857 => ?_) (fun h857 => ?_)
    · have ch857 := i_lt h857
      refine lv_iconst (v := 0) hx hb dX12_lies_30 (by decide) ?_
      exact h_reti hF hr hlk (i_01 (by omega)).1 dX12_lies_31 hH.1 hle ⟨hH.2, rfl, ⟨by (try dsimp only); omega, fun _ => by (try dsimp only); omega⟩⟩
    · have ch857 := i_nlt h857
      refine lv_lload_n hx hb dX12_lies_14 rfl (lv_at hl 1 rfl) ?_
      refine lv_lload_n hx hb dX12_lies_15 rfl (lv_at hl 2 rfl) ?_
      refine lv_ladd hx hb dX12_lies_16 ?_
      refine lv_topl (fun z858 ez858 => ?_)
      try have hz858 := l_add ez858 (by omega) (by omega)
      refine lv_aload_n hx hb dX12_lies_17 rfl (lv_at hl 0 rfl) ?_
      refine m_getI hF hH fk_X12_404 dX12_lies_18 0 4000 rfl rfl (fun z859 ez859 vz859 => ?_)
      have wz859 := i_eq ez859
      refine lv_i2l hx hb dX12_lies_21 rfl ?_
      refine lv_topl (fun z860 ez860 => ?_)
      have hz860 := i_tol ez860
      refine W.lcmp hx hb dX12_lies_22 ?_
      refine lv_topi (fun z861 ez861 => ?_)
      have hz861 := l_cmp ez861
      refine lv_if_gt (tgt := 30) hx hb dX12_lies_23 rfl (fun h862 => ?_) (fun h862 => ?_)
      · have ch862 := i_lt h862
        refine lv_iconst (v := 0) hx hb dX12_lies_30 (by decide) ?_
        exact h_reti hF hr hlk (i_01 (by omega)).1 dX12_lies_31 hH.1 hle ⟨hH.2, rfl, ⟨by (try dsimp only); omega, fun _ => by (try dsimp only); omega⟩⟩
      · have ch862 := i_nlt h862
        refine lv_iconst (v := 1) hx hb dX12_lies_26 (by decide) ?_
        refine lv_goto (tgt := 31) hx hb dX12_lies_27 rfl ?_
        exact h_reti hF hr hlk (i_01 (by omega)).1 dX12_lies_31 hH.1 hle ⟨hH.2, rfl, ⟨by (try dsimp only); omega, fun _ => by (try dsimp only); omega⟩⟩
theorem dX12_wants_0 : decode cX12_wants 0 = .ok (.iload_n 0, 1) := by decide +kernel
theorem dX12_wants_1 : decode cX12_wants 1 = .ok (.bipush 33, 2) := by decide +kernel
theorem dX12_wants_3 : decode cX12_wants 3 = .ok (.iand, 1) := by decide +kernel
theorem dX12_wants_4 : decode cX12_wants 4 = .ok (.ifCond .eq 7, 3) := by decide +kernel
theorem dX12_wants_7 : decode cX12_wants 7 = .ok (.iconst 1, 1) := by decide +kernel
theorem dX12_wants_8 : decode cX12_wants 8 = .ok (.goto 4, 3) := by decide +kernel
theorem dX12_wants_11 : decode cX12_wants 11 = .ok (.iconst 0, 1) := by decide +kernel
theorem dX12_wants_12 : decode cX12_wants 12 = .ok (.iload_n 0, 1) := by decide +kernel
theorem dX12_wants_13 : decode cX12_wants 13 = .ok (.bipush 6, 2) := by decide +kernel
theorem dX12_wants_15 : decode cX12_wants 15 = .ok (.iand, 1) := by decide +kernel
theorem dX12_wants_16 : decode cX12_wants 16 = .ok (.ifCond .eq 7, 3) := by decide +kernel
theorem dX12_wants_19 : decode cX12_wants 19 = .ok (.iconst 2, 1) := by decide +kernel
theorem dX12_wants_20 : decode cX12_wants 20 = .ok (.goto 4, 3) := by decide +kernel
theorem dX12_wants_23 : decode cX12_wants 23 = .ok (.iconst 0, 1) := by decide +kernel
theorem dX12_wants_24 : decode cX12_wants 24 = .ok (.ior, 1) := by decide +kernel
theorem dX12_wants_25 : decode cX12_wants 25 = .ok (.iload_n 0, 1) := by decide +kernel
theorem dX12_wants_26 : decode cX12_wants 26 = .ok (.ldc_w 648, 3) := by decide +kernel
theorem dX12_wants_29 : decode cX12_wants 29 = .ok (.iand, 1) := by decide +kernel
theorem dX12_wants_30 : decode cX12_wants 30 = .ok (.ifCond .eq 7, 3) := by decide +kernel
theorem dX12_wants_33 : decode cX12_wants 33 = .ok (.iconst 4, 1) := by decide +kernel
theorem dX12_wants_34 : decode cX12_wants 34 = .ok (.goto 4, 3) := by decide +kernel
theorem dX12_wants_37 : decode cX12_wants 37 = .ok (.iconst 0, 1) := by decide +kernel
theorem dX12_wants_38 : decode cX12_wants 38 = .ok (.ior, 1) := by decide +kernel
theorem dX12_wants_39 : decode cX12_wants 39 = .ok (.ireturn, 1) := by decide +kernel
set_option maxRecDepth 100000 in
set_option maxHeartbeats 4000000 in
theorem c_X12_wants (l : Launch) (D : va_G) (t : Nat → ClassId) (h0 : Nat) (L : Nat → Nat) (σ : HS) (hO : OK ph τ0 σ) (hM : MdI h0 L σ) (k : Int32) (sz : Nat) : HMi ph τ0 l D t yX12_wants cX12_wants 1 (some .int) ({ frames := 0, cells := 0, slots := 0, locals := 0 }) σ sz [.int k] 0 0 (fun r σ' => σ' = σ ∧ (True)) := by
  refine h_go hO (by decide) (Nat.le_of_ble_eq_true rfl) ?_
  intro p e s m below meth c ls A hF hr hlk hAe hH0 hA hl
  unfold hB
  rw [hAe]
  clear hAe
  have hF : FX p m c cX12_wants 1 s _ RX12 D t := hF
  have hx := hF.1.1
  have hb := hF.1.2.1
  have hH : MT D t A s.heap h0 L σ s.heap [] := ⟨hH0, hM⟩
  have hle : HLe σ σ := HLe.rf
  have k_0 : (0 : Int32).toInt = 0 := rfl
  have k_1 : (1 : Int32).toInt = 1 := rfl
  have k_2 : (2 : Int32).toInt = 2 := rfl
  have k_4 : (4 : Int32).toInt = 4 := rfl
  have k_6 : (6 : Int32).toInt = 6 := rfl
  have k_33 : (33 : Int32).toInt = 33 := rfl
  have k_65536 : (65536 : Int32).toInt = 65536 := rfl
  have rg_0 := i_range k
  have hl : lv_has ls 1 [(0, .int k)] := hl
  refine lv_iload_n hx hb dX12_wants_0 rfl (lv_at hl 0 rfl) ?_
  refine lv_bipush (v := 33) hx hb dX12_wants_1 (by decide) ?_
  refine lv_iand hx hb dX12_wants_3 ?_
  refine lv_topi (fun z863 ez863 => ?_)
  try have hz863 := i_and ez863 (by omega)
  refine lv_if_eq (tgt := 11) hx hb dX12_wants_4 rfl (fun h864 => ?_) (fun h864 => ?_)
  · have ch864 := i_eq h864
    refine lv_iconst (v := 0) hx hb dX12_wants_11 (by decide) ?_
    refine lv_iload_n hx hb dX12_wants_12 rfl (lv_at hl 0 rfl) ?_
    refine lv_bipush (v := 6) hx hb dX12_wants_13 (by decide) ?_
    refine lv_iand hx hb dX12_wants_15 ?_
    refine lv_topi (fun z865 ez865 => ?_)
    try have hz865 := i_and ez865 (by omega)
    refine lv_if_eq (tgt := 23) hx hb dX12_wants_16 rfl (fun h866 => ?_) (fun h866 => ?_)
    · have ch866 := i_eq h866
      refine lv_iconst (v := 0) hx hb dX12_wants_23 (by decide) ?_
      refine lv_ior hx hb dX12_wants_24 ?_
      refine lv_topi (fun z867 ez867 => ?_)
      try have hz867 := i_or01 ez867 (by omega) (by omega)
      try have h2z867 := i_or ez867 (by omega) (by omega)
      refine lv_iload_n hx hb dX12_wants_25 rfl (lv_at hl 0 rfl) ?_
      refine lv_ldcw (v := 65536) hx hb hF.1.2.2.2.1 (hF.1.2.2.2.2 _ (wc_53 27 rfl)) dX12_wants_26 ?_
      refine lv_iand hx hb dX12_wants_29 ?_
      refine lv_topi (fun z868 ez868 => ?_)
      try have hz868 := i_and ez868 (by omega)
      refine lv_if_eq (tgt := 37) hx hb dX12_wants_30 rfl (fun h869 => ?_) (fun h869 => ?_)
      · have ch869 := i_eq h869
        refine lv_iconst (v := 0) hx hb dX12_wants_37 (by decide) ?_
        refine lv_ior hx hb dX12_wants_38 ?_
        refine lv_topi (fun z870 ez870 => ?_)
        try have hz870 := i_or01 ez870 (by omega) (by omega)
        try have h2z870 := i_or ez870 (by omega) (by omega)
        exact h_reti hF hr hlk rfl dX12_wants_39 hH.1 hle ⟨rfl, trivial⟩
      · have ch869 := i_ne h869
        refine lv_iconst (v := 4) hx hb dX12_wants_33 (by decide) ?_
        refine lv_goto (tgt := 38) hx hb dX12_wants_34 rfl ?_
        refine lv_ior hx hb dX12_wants_38 ?_
        refine lv_topi (fun z871 ez871 => ?_)
        try have hz871 := i_or01 ez871 (by omega) (by omega)
        try have h2z871 := i_or ez871 (by omega) (by omega)
        exact h_reti hF hr hlk rfl dX12_wants_39 hH.1 hle ⟨rfl, trivial⟩
    · have ch866 := i_ne h866
      refine lv_iconst (v := 2) hx hb dX12_wants_19 (by decide) ?_
      refine lv_goto (tgt := 24) hx hb dX12_wants_20 rfl ?_
      refine lv_ior hx hb dX12_wants_24 ?_
      refine lv_topi (fun z872 ez872 => ?_)
      try have hz872 := i_or01 ez872 (by omega) (by omega)
      try have h2z872 := i_or ez872 (by omega) (by omega)
      refine lv_iload_n hx hb dX12_wants_25 rfl (lv_at hl 0 rfl) ?_
      refine lv_ldcw (v := 65536) hx hb hF.1.2.2.2.1 (hF.1.2.2.2.2 _ (wc_53 27 rfl)) dX12_wants_26 ?_
      refine lv_iand hx hb dX12_wants_29 ?_
      refine lv_topi (fun z873 ez873 => ?_)
      try have hz873 := i_and ez873 (by omega)
      refine lv_if_eq (tgt := 37) hx hb dX12_wants_30 rfl (fun h874 => ?_) (fun h874 => ?_)
      · have ch874 := i_eq h874
        refine lv_iconst (v := 0) hx hb dX12_wants_37 (by decide) ?_
        refine lv_ior hx hb dX12_wants_38 ?_
        refine lv_topi (fun z875 ez875 => ?_)
        try have hz875 := i_or01 ez875 (by omega) (by omega)
        try have h2z875 := i_or ez875 (by omega) (by omega)
        exact h_reti hF hr hlk rfl dX12_wants_39 hH.1 hle ⟨rfl, trivial⟩
      · have ch874 := i_ne h874
        refine lv_iconst (v := 4) hx hb dX12_wants_33 (by decide) ?_
        refine lv_goto (tgt := 38) hx hb dX12_wants_34 rfl ?_
        refine lv_ior hx hb dX12_wants_38 ?_
        refine lv_topi (fun z876 ez876 => ?_)
        try have hz876 := i_or01 ez876 (by omega) (by omega)
        try have h2z876 := i_or ez876 (by omega) (by omega)
        exact h_reti hF hr hlk rfl dX12_wants_39 hH.1 hle ⟨rfl, trivial⟩
  · have ch864 := i_ne h864
    refine lv_iconst (v := 1) hx hb dX12_wants_7 (by decide) ?_
    refine lv_goto (tgt := 12) hx hb dX12_wants_8 rfl ?_
    refine lv_iload_n hx hb dX12_wants_12 rfl (lv_at hl 0 rfl) ?_
    refine lv_bipush (v := 6) hx hb dX12_wants_13 (by decide) ?_
    refine lv_iand hx hb dX12_wants_15 ?_
    refine lv_topi (fun z877 ez877 => ?_)
    try have hz877 := i_and ez877 (by omega)
    refine lv_if_eq (tgt := 23) hx hb dX12_wants_16 rfl (fun h878 => ?_) (fun h878 => ?_)
    · have ch878 := i_eq h878
      refine lv_iconst (v := 0) hx hb dX12_wants_23 (by decide) ?_
      refine lv_ior hx hb dX12_wants_24 ?_
      refine lv_topi (fun z879 ez879 => ?_)
      try have hz879 := i_or01 ez879 (by omega) (by omega)
      try have h2z879 := i_or ez879 (by omega) (by omega)
      refine lv_iload_n hx hb dX12_wants_25 rfl (lv_at hl 0 rfl) ?_
      refine lv_ldcw (v := 65536) hx hb hF.1.2.2.2.1 (hF.1.2.2.2.2 _ (wc_53 27 rfl)) dX12_wants_26 ?_
      refine lv_iand hx hb dX12_wants_29 ?_
      refine lv_topi (fun z880 ez880 => ?_)
      try have hz880 := i_and ez880 (by omega)
      refine lv_if_eq (tgt := 37) hx hb dX12_wants_30 rfl (fun h881 => ?_) (fun h881 => ?_)
      · have ch881 := i_eq h881
        refine lv_iconst (v := 0) hx hb dX12_wants_37 (by decide) ?_
        refine lv_ior hx hb dX12_wants_38 ?_
        refine lv_topi (fun z882 ez882 => ?_)
        try have hz882 := i_or01 ez882 (by omega) (by omega)
        try have h2z882 := i_or ez882 (by omega) (by omega)
        exact h_reti hF hr hlk rfl dX12_wants_39 hH.1 hle ⟨rfl, trivial⟩
      · have ch881 := i_ne h881
        refine lv_iconst (v := 4) hx hb dX12_wants_33 (by decide) ?_
        refine lv_goto (tgt := 38) hx hb dX12_wants_34 rfl ?_
        refine lv_ior hx hb dX12_wants_38 ?_
        refine lv_topi (fun z883 ez883 => ?_)
        try have hz883 := i_or01 ez883 (by omega) (by omega)
        try have h2z883 := i_or ez883 (by omega) (by omega)
        exact h_reti hF hr hlk rfl dX12_wants_39 hH.1 hle ⟨rfl, trivial⟩
    · have ch878 := i_ne h878
      refine lv_iconst (v := 2) hx hb dX12_wants_19 (by decide) ?_
      refine lv_goto (tgt := 24) hx hb dX12_wants_20 rfl ?_
      refine lv_ior hx hb dX12_wants_24 ?_
      refine lv_topi (fun z884 ez884 => ?_)
      try have hz884 := i_or01 ez884 (by omega) (by omega)
      try have h2z884 := i_or ez884 (by omega) (by omega)
      refine lv_iload_n hx hb dX12_wants_25 rfl (lv_at hl 0 rfl) ?_
      refine lv_ldcw (v := 65536) hx hb hF.1.2.2.2.1 (hF.1.2.2.2.2 _ (wc_53 27 rfl)) dX12_wants_26 ?_
      refine lv_iand hx hb dX12_wants_29 ?_
      refine lv_topi (fun z885 ez885 => ?_)
      try have hz885 := i_and ez885 (by omega)
      refine lv_if_eq (tgt := 37) hx hb dX12_wants_30 rfl (fun h886 => ?_) (fun h886 => ?_)
      · have ch886 := i_eq h886
        refine lv_iconst (v := 0) hx hb dX12_wants_37 (by decide) ?_
        refine lv_ior hx hb dX12_wants_38 ?_
        refine lv_topi (fun z887 ez887 => ?_)
        try have hz887 := i_or01 ez887 (by omega) (by omega)
        try have h2z887 := i_or ez887 (by omega) (by omega)
        exact h_reti hF hr hlk rfl dX12_wants_39 hH.1 hle ⟨rfl, trivial⟩
      · have ch886 := i_ne h886
        refine lv_iconst (v := 4) hx hb dX12_wants_33 (by decide) ?_
        refine lv_goto (tgt := 38) hx hb dX12_wants_34 rfl ?_
        refine lv_ior hx hb dX12_wants_38 ?_
        refine lv_topi (fun z888 ez888 => ?_)
        try have hz888 := i_or01 ez888 (by omega) (by omega)
        try have h2z888 := i_or ez888 (by omega) (by omega)
        exact h_reti hF hr hlk rfl dX12_wants_39 hH.1 hle ⟨rfl, trivial⟩
theorem dX12_meant_0 : decode cX12_meant 0 = .ok (.lload_n 0, 1) := by decide +kernel
theorem dX12_meant_1 : decode cX12_meant 1 = .ok (.ldc2_w 615, 3) := by decide +kernel
theorem dX12_meant_4 : decode cX12_meant 4 = .ok (.land, 1) := by decide +kernel
theorem dX12_meant_5 : decode cX12_meant 5 = .ok (.lstore_n 2, 1) := by decide +kernel
theorem dX12_meant_6 : decode cX12_meant 6 = .ok (.lload_n 2, 1) := by decide +kernel
theorem dX12_meant_7 : decode cX12_meant 7 = .ok (.lload_n 0, 1) := by decide +kernel
theorem dX12_meant_8 : decode cX12_meant 8 = .ok (.ldc2_w 634, 3) := by decide +kernel
theorem dX12_meant_11 : decode cX12_meant 11 = .ok (.land, 1) := by decide +kernel
theorem dX12_meant_12 : decode cX12_meant 12 = .ok (.lconst 0, 1) := by decide +kernel
theorem dX12_meant_13 : decode cX12_meant 13 = .ok (.lcmp, 1) := by decide +kernel
theorem dX12_meant_14 : decode cX12_meant 14 = .ok (.ifCond .eq 9, 3) := by decide +kernel
theorem dX12_meant_17 : decode cX12_meant 17 = .ok (.ldc2_w 636, 3) := by decide +kernel
theorem dX12_meant_20 : decode cX12_meant 20 = .ok (.goto 4, 3) := by decide +kernel
theorem dX12_meant_23 : decode cX12_meant 23 = .ok (.lconst 0, 1) := by decide +kernel
theorem dX12_meant_24 : decode cX12_meant 24 = .ok (.lor, 1) := by decide +kernel
theorem dX12_meant_25 : decode cX12_meant 25 = .ok (.lstore_n 2, 1) := by decide +kernel
theorem dX12_meant_26 : decode cX12_meant 26 = .ok (.lload_n 2, 1) := by decide +kernel
theorem dX12_meant_27 : decode cX12_meant 27 = .ok (.lload_n 0, 1) := by decide +kernel
theorem dX12_meant_28 : decode cX12_meant 28 = .ok (.ldc2_w 638, 3) := by decide +kernel
theorem dX12_meant_31 : decode cX12_meant 31 = .ok (.land, 1) := by decide +kernel
theorem dX12_meant_32 : decode cX12_meant 32 = .ok (.lconst 0, 1) := by decide +kernel
theorem dX12_meant_33 : decode cX12_meant 33 = .ok (.lcmp, 1) := by decide +kernel
theorem dX12_meant_34 : decode cX12_meant 34 = .ok (.ifCond .eq 9, 3) := by decide +kernel
theorem dX12_meant_37 : decode cX12_meant 37 = .ok (.ldc2_w 640, 3) := by decide +kernel
theorem dX12_meant_40 : decode cX12_meant 40 = .ok (.goto 4, 3) := by decide +kernel
theorem dX12_meant_43 : decode cX12_meant 43 = .ok (.lconst 0, 1) := by decide +kernel
theorem dX12_meant_44 : decode cX12_meant 44 = .ok (.lor, 1) := by decide +kernel
theorem dX12_meant_45 : decode cX12_meant 45 = .ok (.lstore_n 2, 1) := by decide +kernel
theorem dX12_meant_46 : decode cX12_meant 46 = .ok (.lload_n 2, 1) := by decide +kernel
theorem dX12_meant_47 : decode cX12_meant 47 = .ok (.lload_n 0, 1) := by decide +kernel
theorem dX12_meant_48 : decode cX12_meant 48 = .ok (.ldc2_w 642, 3) := by decide +kernel
theorem dX12_meant_51 : decode cX12_meant 51 = .ok (.land, 1) := by decide +kernel
theorem dX12_meant_52 : decode cX12_meant 52 = .ok (.lconst 0, 1) := by decide +kernel
theorem dX12_meant_53 : decode cX12_meant 53 = .ok (.lcmp, 1) := by decide +kernel
theorem dX12_meant_54 : decode cX12_meant 54 = .ok (.ifCond .eq 9, 3) := by decide +kernel
theorem dX12_meant_57 : decode cX12_meant 57 = .ok (.ldc2_w 644, 3) := by decide +kernel
theorem dX12_meant_60 : decode cX12_meant 60 = .ok (.goto 4, 3) := by decide +kernel
theorem dX12_meant_63 : decode cX12_meant 63 = .ok (.lconst 0, 1) := by decide +kernel
theorem dX12_meant_64 : decode cX12_meant 64 = .ok (.lor, 1) := by decide +kernel
theorem dX12_meant_65 : decode cX12_meant 65 = .ok (.lstore_n 2, 1) := by decide +kernel
theorem dX12_meant_66 : decode cX12_meant 66 = .ok (.lload_n 2, 1) := by decide +kernel
theorem dX12_meant_67 : decode cX12_meant 67 = .ok (.lload_n 0, 1) := by decide +kernel
theorem dX12_meant_68 : decode cX12_meant 68 = .ok (.ldc2_w 646, 3) := by decide +kernel
theorem dX12_meant_71 : decode cX12_meant 71 = .ok (.land, 1) := by decide +kernel
theorem dX12_meant_72 : decode cX12_meant 72 = .ok (.lconst 0, 1) := by decide +kernel
theorem dX12_meant_73 : decode cX12_meant 73 = .ok (.lcmp, 1) := by decide +kernel
theorem dX12_meant_74 : decode cX12_meant 74 = .ok (.ifCond .eq 9, 3) := by decide +kernel
theorem dX12_meant_77 : decode cX12_meant 77 = .ok (.ldc2_w 615, 3) := by decide +kernel
theorem dX12_meant_80 : decode cX12_meant 80 = .ok (.goto 4, 3) := by decide +kernel
theorem dX12_meant_83 : decode cX12_meant 83 = .ok (.lconst 0, 1) := by decide +kernel
theorem dX12_meant_84 : decode cX12_meant 84 = .ok (.lor, 1) := by decide +kernel
theorem dX12_meant_85 : decode cX12_meant 85 = .ok (.lstore_n 2, 1) := by decide +kernel
theorem dX12_meant_86 : decode cX12_meant 86 = .ok (.lload_n 2, 1) := by decide +kernel
theorem dX12_meant_87 : decode cX12_meant 87 = .ok (.l2i, 1) := by decide +kernel
theorem dX12_meant_88 : decode cX12_meant 88 = .ok (.ireturn, 1) := by decide +kernel
set_option maxRecDepth 100000 in
set_option maxHeartbeats 4000000 in
theorem c_X12_meant (l : Launch) (D : va_G) (t : Nat → ClassId) (h0 : Nat) (L : Nat → Nat) (σ : HS) (hO : OK ph τ0 σ) (hM : MdI h0 L σ) (v : Int64) (sz : Nat) : HMi ph τ0 l D t yX12_meant cX12_meant 4 (some .int) ({ frames := 0, cells := 0, slots := 0, locals := 0 }) σ sz [.long v] 0 0 (fun r σ' => σ' = σ ∧ (True)) := by
  refine h_go hO (by decide) (Nat.le_of_ble_eq_true rfl) ?_
  intro p e s m below meth c ls A hF hr hlk hAe hH0 hA hl
  unfold hB
  rw [hAe]
  clear hAe
  have hF : FX p m c cX12_meant 4 s _ RX12 D t := hF
  have hx := hF.1.1
  have hb := hF.1.2.1
  have hH : MT D t A s.heap h0 L σ s.heap [] := ⟨hH0, hM⟩
  have hle : HLe σ σ := HLe.rf
  have kl_0 : (0 : Int64).toInt = 0 := rfl
  have kl_1179785 : (1179785 : Int64).toInt = 1179785 := rfl
  have kl_1179808 : (1179808 : Int64).toInt = 1179808 := rfl
  have kl_1179926 : (1179926 : Int64).toInt = 1179926 := rfl
  have kl_2032127 : (2032127 : Int64).toInt = 2032127 := rfl
  have kl_301989888 : (301989888 : Int64).toInt = 301989888 := rfl
  have kl_536870912 : (536870912 : Int64).toInt = 536870912 := rfl
  have kl_1073741824 : (1073741824 : Int64).toInt = 1073741824 := rfl
  have kl_2147483648 : (2147483648 : Int64).toInt = 2147483648 := rfl
  have k_0 : (0 : Int32).toInt = 0 := rfl
  have hl : lv_has ls 4 [(0, .long v)] := hl
  refine lv_lload_n hx hb dX12_meant_0 rfl (lv_at hl 0 rfl) ?_
  refine lv_ldc2 (v := 2032127) hx hb hF.1.2.2.2.1 (hF.1.2.2.2.2 _ (wc_53 12 rfl)) dX12_meant_1 ?_
  refine lv_land hx hb dX12_meant_4 ?_
  refine lv_topl (fun z889 ez889 => ?_)
  try have hz889 := l_and ez889 (by omega)
  refine lv_lstore_n (lv' := [(2, .long z889), (0, .long v)]) hx hb dX12_meant_5 rfl hl (by decide) rfl (fun ls hl => ?_)
  refine lv_lload_n hx hb dX12_meant_6 rfl (lv_at hl 0 rfl) ?_
  refine lv_lload_n hx hb dX12_meant_7 rfl (lv_at hl 1 rfl) ?_
  refine lv_ldc2 (v := 2147483648) hx hb hF.1.2.2.2.1 (hF.1.2.2.2.2 _ (wc_53 20 rfl)) dX12_meant_8 ?_
  refine lv_land hx hb dX12_meant_11 ?_
  refine lv_topl (fun z890 ez890 => ?_)
  try have hz890 := l_and ez890 (by omega)
  refine lv_lconst (v := 0) hx hb dX12_meant_12 (by decide) ?_
  refine W.lcmp hx hb dX12_meant_13 ?_
  refine lv_topi (fun z891 ez891 => ?_)
  have hz891 := l_cmp ez891
  refine m_join (β := Int64) 26 (L0 := fun x => [(2, .long x), (0, .long v)]) (I := fun x σ2 => σ = σ2 ∧ ((True))) hl hH (fun x σJ893 ls H locs hl hI hH => ?_) (fun jn892 => ?_)
  · obtain ⟨x894, hx1⟩ : ∃ y, y = x := ⟨_, rfl⟩
    subst hx1
    obtain ⟨hsL, hI⟩ := hI
    subst hsL
    have hl : lv_has ls 4 [(2, .long x894), (0, .long v)] := hl
    have hI : (True) := hI
    refine lv_lload_n hx hb dX12_meant_26 rfl (lv_at hl 0 rfl) ?_
    refine lv_lload_n hx hb dX12_meant_27 rfl (lv_at hl 1 rfl) ?_
    refine lv_ldc2 (v := 1073741824) hx hb hF.1.2.2.2.1 (hF.1.2.2.2.2 _ (wc_53 22 rfl)) dX12_meant_28 ?_
    refine lv_land hx hb dX12_meant_31 ?_
    refine lv_topl (fun z895 ez895 => ?_)
    try have hz895 := l_and ez895 (by omega)
    refine lv_lconst (v := 0) hx hb dX12_meant_32 (by decide) ?_
    refine W.lcmp hx hb dX12_meant_33 ?_
    refine lv_topi (fun z896 ez896 => ?_)
    have hz896 := l_cmp ez896
    refine m_join (β := Int64) 46 (L0 := fun x => [(2, .long x), (0, .long v)]) (I := fun x σ2 => σ = σ2 ∧ ((True))) hl hH (fun x σJ898 ls H locs hl hI hH => ?_) (fun jn897 => ?_)
    · obtain ⟨x899, hx1⟩ : ∃ y, y = x := ⟨_, rfl⟩
      subst hx1
      obtain ⟨hsL, hI⟩ := hI
      subst hsL
      have hl : lv_has ls 4 [(2, .long x899), (0, .long v)] := hl
      have hI : (True) := hI
      refine lv_lload_n hx hb dX12_meant_46 rfl (lv_at hl 0 rfl) ?_
      refine lv_lload_n hx hb dX12_meant_47 rfl (lv_at hl 1 rfl) ?_
      refine lv_ldc2 (v := 536870912) hx hb hF.1.2.2.2.1 (hF.1.2.2.2.2 _ (wc_53 24 rfl)) dX12_meant_48 ?_
      refine lv_land hx hb dX12_meant_51 ?_
      refine lv_topl (fun z900 ez900 => ?_)
      try have hz900 := l_and ez900 (by omega)
      refine lv_lconst (v := 0) hx hb dX12_meant_52 (by decide) ?_
      refine W.lcmp hx hb dX12_meant_53 ?_
      refine lv_topi (fun z901 ez901 => ?_)
      have hz901 := l_cmp ez901
      refine m_join (β := Int64) 66 (L0 := fun x => [(2, .long x), (0, .long v)]) (I := fun x σ2 => σ = σ2 ∧ ((True))) hl hH (fun x σJ903 ls H locs hl hI hH => ?_) (fun jn902 => ?_)
      · obtain ⟨x904, hx1⟩ : ∃ y, y = x := ⟨_, rfl⟩
        subst hx1
        obtain ⟨hsL, hI⟩ := hI
        subst hsL
        have hl : lv_has ls 4 [(2, .long x904), (0, .long v)] := hl
        have hI : (True) := hI
        refine lv_lload_n hx hb dX12_meant_66 rfl (lv_at hl 0 rfl) ?_
        refine lv_lload_n hx hb dX12_meant_67 rfl (lv_at hl 1 rfl) ?_
        refine lv_ldc2 (v := 301989888) hx hb hF.1.2.2.2.1 (hF.1.2.2.2.2 _ (wc_53 26 rfl)) dX12_meant_68 ?_
        refine lv_land hx hb dX12_meant_71 ?_
        refine lv_topl (fun z905 ez905 => ?_)
        try have hz905 := l_and ez905 (by omega)
        refine lv_lconst (v := 0) hx hb dX12_meant_72 (by decide) ?_
        refine W.lcmp hx hb dX12_meant_73 ?_
        refine lv_topi (fun z906 ez906 => ?_)
        have hz906 := l_cmp ez906
        refine m_join (β := Int64) 86 (L0 := fun x => [(2, .long x)]) (I := fun x σ2 => σ = σ2 ∧ ((True))) hl hH (fun x σJ908 ls H locs hl hI hH => ?_) (fun jn907 => ?_)
        · obtain ⟨x909, hx1⟩ : ∃ y, y = x := ⟨_, rfl⟩
          subst hx1
          obtain ⟨hsL, hI⟩ := hI
          subst hsL
          have hl : lv_has ls 4 [(2, .long x909)] := hl
          have hI : (True) := hI
          refine lv_lload_n hx hb dX12_meant_86 rfl (lv_at hl 0 rfl) ?_
          refine lv_l2i hx hb dX12_meant_87 rfl ?_
          refine lv_topi (fun z910 ez910 => ?_)
          try have hz910 := l_toi ez910 (by omega) (by omega)
          exact h_reti hF hr hlk rfl dX12_meant_88 hH.1 hle ⟨rfl, trivial⟩
        · skip
          refine lv_if_eq (tgt := 83) hx hb dX12_meant_74 rfl (fun h911 => ?_) (fun h911 => ?_)
          · have ch911 := i_eq h911
            refine lv_lconst (v := 0) hx hb dX12_meant_83 (by decide) ?_
            refine lv_lor hx hb dX12_meant_84 ?_
            refine lv_topl (fun z912 ez912 => ?_)
            refine lv_lstore_n (lv' := [(2, .long z912), (0, .long v)]) hx hb dX12_meant_85 rfl hl (by decide) rfl (fun ls hl => ?_)
            have hl : lv_has ls 4 [(2, .long z912)] := lv_sub hl [0] rfl
            exact jn907 (z912) σ ls _ _ hl ⟨rfl, trivial⟩ hH
          · have ch911 := i_ne h911
            refine lv_ldc2 (v := 2032127) hx hb hF.1.2.2.2.1 (hF.1.2.2.2.2 _ (wc_53 12 rfl)) dX12_meant_77 ?_
            refine lv_goto (tgt := 84) hx hb dX12_meant_80 rfl ?_
            refine lv_lor hx hb dX12_meant_84 ?_
            refine lv_topl (fun z913 ez913 => ?_)
            refine lv_lstore_n (lv' := [(2, .long z913), (0, .long v)]) hx hb dX12_meant_85 rfl hl (by decide) rfl (fun ls hl => ?_)
            have hl : lv_has ls 4 [(2, .long z913)] := lv_sub hl [0] rfl
            exact jn907 (z913) σ ls _ _ hl ⟨rfl, trivial⟩ hH
      · skip
        refine lv_if_eq (tgt := 63) hx hb dX12_meant_54 rfl (fun h914 => ?_) (fun h914 => ?_)
        · have ch914 := i_eq h914
          refine lv_lconst (v := 0) hx hb dX12_meant_63 (by decide) ?_
          refine lv_lor hx hb dX12_meant_64 ?_
          refine lv_topl (fun z915 ez915 => ?_)
          refine lv_lstore_n (lv' := [(2, .long z915), (0, .long v)]) hx hb dX12_meant_65 rfl hl (by decide) rfl (fun ls hl => ?_)
          have hl : lv_has ls 4 [(2, .long z915), (0, .long v)] := lv_sub hl [0, 1] rfl
          exact jn902 (z915) σ ls _ _ hl ⟨rfl, trivial⟩ hH
        · have ch914 := i_ne h914
          refine lv_ldc2 (v := 1179808) hx hb hF.1.2.2.2.1 (hF.1.2.2.2.2 _ (wc_53 25 rfl)) dX12_meant_57 ?_
          refine lv_goto (tgt := 64) hx hb dX12_meant_60 rfl ?_
          refine lv_lor hx hb dX12_meant_64 ?_
          refine lv_topl (fun z916 ez916 => ?_)
          refine lv_lstore_n (lv' := [(2, .long z916), (0, .long v)]) hx hb dX12_meant_65 rfl hl (by decide) rfl (fun ls hl => ?_)
          have hl : lv_has ls 4 [(2, .long z916), (0, .long v)] := lv_sub hl [0, 1] rfl
          exact jn902 (z916) σ ls _ _ hl ⟨rfl, trivial⟩ hH
    · skip
      refine lv_if_eq (tgt := 43) hx hb dX12_meant_34 rfl (fun h917 => ?_) (fun h917 => ?_)
      · have ch917 := i_eq h917
        refine lv_lconst (v := 0) hx hb dX12_meant_43 (by decide) ?_
        refine lv_lor hx hb dX12_meant_44 ?_
        refine lv_topl (fun z918 ez918 => ?_)
        refine lv_lstore_n (lv' := [(2, .long z918), (0, .long v)]) hx hb dX12_meant_45 rfl hl (by decide) rfl (fun ls hl => ?_)
        have hl : lv_has ls 4 [(2, .long z918), (0, .long v)] := lv_sub hl [0, 1] rfl
        exact jn897 (z918) σ ls _ _ hl ⟨rfl, trivial⟩ hH
      · have ch917 := i_ne h917
        refine lv_ldc2 (v := 1179926) hx hb hF.1.2.2.2.1 (hF.1.2.2.2.2 _ (wc_53 23 rfl)) dX12_meant_37 ?_
        refine lv_goto (tgt := 44) hx hb dX12_meant_40 rfl ?_
        refine lv_lor hx hb dX12_meant_44 ?_
        refine lv_topl (fun z919 ez919 => ?_)
        refine lv_lstore_n (lv' := [(2, .long z919), (0, .long v)]) hx hb dX12_meant_45 rfl hl (by decide) rfl (fun ls hl => ?_)
        have hl : lv_has ls 4 [(2, .long z919), (0, .long v)] := lv_sub hl [0, 1] rfl
        exact jn897 (z919) σ ls _ _ hl ⟨rfl, trivial⟩ hH
  · skip
    refine lv_if_eq (tgt := 23) hx hb dX12_meant_14 rfl (fun h920 => ?_) (fun h920 => ?_)
    · have ch920 := i_eq h920
      refine lv_lconst (v := 0) hx hb dX12_meant_23 (by decide) ?_
      refine lv_lor hx hb dX12_meant_24 ?_
      refine lv_topl (fun z921 ez921 => ?_)
      refine lv_lstore_n (lv' := [(2, .long z921), (0, .long v)]) hx hb dX12_meant_25 rfl hl (by decide) rfl (fun ls hl => ?_)
      have hl : lv_has ls 4 [(2, .long z921), (0, .long v)] := lv_sub hl [0, 1] rfl
      exact jn892 (z921) σ ls _ _ hl ⟨rfl, trivial⟩ hH
    · have ch920 := i_ne h920
      refine lv_ldc2 (v := 1179785) hx hb hF.1.2.2.2.1 (hF.1.2.2.2.2 _ (wc_53 21 rfl)) dX12_meant_17 ?_
      refine lv_goto (tgt := 24) hx hb dX12_meant_20 rfl ?_
      refine lv_lor hx hb dX12_meant_24 ?_
      refine lv_topl (fun z922 ez922 => ?_)
      refine lv_lstore_n (lv' := [(2, .long z922), (0, .long v)]) hx hb dX12_meant_25 rfl hl (by decide) rfl (fun ls hl => ?_)
      have hl : lv_has ls 4 [(2, .long z922), (0, .long v)] := lv_sub hl [0, 1] rfl
      exact jn892 (z922) σ ls _ _ hl ⟨rfl, trivial⟩ hH
theorem dX12_isNameUnit_0 : decode cX12_isNameUnit 0 = .ok (.iload_n 0, 1) := by decide +kernel
theorem dX12_isNameUnit_1 : decode cX12_isNameUnit 1 = .ok (.bipush 32, 2) := by decide +kernel
theorem dX12_isNameUnit_3 : decode cX12_isNameUnit 3 = .ok (.if_icmp .lt 67, 3) := by decide +kernel
theorem dX12_isNameUnit_6 : decode cX12_isNameUnit 6 = .ok (.iload_n 0, 1) := by decide +kernel
theorem dX12_isNameUnit_7 : decode cX12_isNameUnit 7 = .ok (.bipush 126, 2) := by decide +kernel
theorem dX12_isNameUnit_9 : decode cX12_isNameUnit 9 = .ok (.if_icmp .gt 61, 3) := by decide +kernel
theorem dX12_isNameUnit_12 : decode cX12_isNameUnit 12 = .ok (.iload_n 0, 1) := by decide +kernel
theorem dX12_isNameUnit_13 : decode cX12_isNameUnit 13 = .ok (.bipush 92, 2) := by decide +kernel
theorem dX12_isNameUnit_15 : decode cX12_isNameUnit 15 = .ok (.if_icmp .eq 55, 3) := by decide +kernel
theorem dX12_isNameUnit_18 : decode cX12_isNameUnit 18 = .ok (.iload_n 0, 1) := by decide +kernel
theorem dX12_isNameUnit_19 : decode cX12_isNameUnit 19 = .ok (.bipush 47, 2) := by decide +kernel
theorem dX12_isNameUnit_21 : decode cX12_isNameUnit 21 = .ok (.if_icmp .eq 49, 3) := by decide +kernel
theorem dX12_isNameUnit_24 : decode cX12_isNameUnit 24 = .ok (.iload_n 0, 1) := by decide +kernel
theorem dX12_isNameUnit_25 : decode cX12_isNameUnit 25 = .ok (.bipush 58, 2) := by decide +kernel
theorem dX12_isNameUnit_27 : decode cX12_isNameUnit 27 = .ok (.if_icmp .eq 43, 3) := by decide +kernel
theorem dX12_isNameUnit_30 : decode cX12_isNameUnit 30 = .ok (.iload_n 0, 1) := by decide +kernel
theorem dX12_isNameUnit_31 : decode cX12_isNameUnit 31 = .ok (.bipush 42, 2) := by decide +kernel
theorem dX12_isNameUnit_33 : decode cX12_isNameUnit 33 = .ok (.if_icmp .eq 37, 3) := by decide +kernel
theorem dX12_isNameUnit_36 : decode cX12_isNameUnit 36 = .ok (.iload_n 0, 1) := by decide +kernel
theorem dX12_isNameUnit_37 : decode cX12_isNameUnit 37 = .ok (.bipush 63, 2) := by decide +kernel
theorem dX12_isNameUnit_39 : decode cX12_isNameUnit 39 = .ok (.if_icmp .eq 31, 3) := by decide +kernel
theorem dX12_isNameUnit_42 : decode cX12_isNameUnit 42 = .ok (.iload_n 0, 1) := by decide +kernel
theorem dX12_isNameUnit_43 : decode cX12_isNameUnit 43 = .ok (.bipush 34, 2) := by decide +kernel
theorem dX12_isNameUnit_45 : decode cX12_isNameUnit 45 = .ok (.if_icmp .eq 25, 3) := by decide +kernel
theorem dX12_isNameUnit_48 : decode cX12_isNameUnit 48 = .ok (.iload_n 0, 1) := by decide +kernel
theorem dX12_isNameUnit_49 : decode cX12_isNameUnit 49 = .ok (.bipush 60, 2) := by decide +kernel
theorem dX12_isNameUnit_51 : decode cX12_isNameUnit 51 = .ok (.if_icmp .eq 19, 3) := by decide +kernel
theorem dX12_isNameUnit_54 : decode cX12_isNameUnit 54 = .ok (.iload_n 0, 1) := by decide +kernel
theorem dX12_isNameUnit_55 : decode cX12_isNameUnit 55 = .ok (.bipush 62, 2) := by decide +kernel
theorem dX12_isNameUnit_57 : decode cX12_isNameUnit 57 = .ok (.if_icmp .eq 13, 3) := by decide +kernel
theorem dX12_isNameUnit_60 : decode cX12_isNameUnit 60 = .ok (.iload_n 0, 1) := by decide +kernel
theorem dX12_isNameUnit_61 : decode cX12_isNameUnit 61 = .ok (.bipush 124, 2) := by decide +kernel
theorem dX12_isNameUnit_63 : decode cX12_isNameUnit 63 = .ok (.if_icmp .eq 7, 3) := by decide +kernel
theorem dX12_isNameUnit_66 : decode cX12_isNameUnit 66 = .ok (.iconst 1, 1) := by decide +kernel
theorem dX12_isNameUnit_67 : decode cX12_isNameUnit 67 = .ok (.goto 4, 3) := by decide +kernel
theorem dX12_isNameUnit_70 : decode cX12_isNameUnit 70 = .ok (.iconst 0, 1) := by decide +kernel
theorem dX12_isNameUnit_71 : decode cX12_isNameUnit 71 = .ok (.ireturn, 1) := by decide +kernel
set_option maxRecDepth 100000 in
set_option maxHeartbeats 4000000 in
theorem c_X12_isNameUnit (l : Launch) (D : va_G) (t : Nat → ClassId) (h0 : Nat) (L : Nat → Nat) (σ : HS) (hO : OK ph τ0 σ) (hM : MdI h0 L σ) (k : Int32) (sz : Nat) : HMi ph τ0 l D t yX12_isNameUnit cX12_isNameUnit 1 (some .boolean) ({ frames := 0, cells := 0, slots := 0, locals := 0 }) σ sz [.int k] 0 0 (fun r σ' => σ' = σ ∧ (0 ≤ r.toInt ∧ r.toInt ≤ 1)) := by
  refine h_go hO (by decide) (Nat.le_of_ble_eq_true rfl) ?_
  intro p e s m below meth c ls A hF hr hlk hAe hH0 hA hl
  unfold hB
  rw [hAe]
  clear hAe
  have hF : FX p m c cX12_isNameUnit 1 s _ RX12 D t := hF
  have hx := hF.1.1
  have hb := hF.1.2.1
  have hH : MT D t A s.heap h0 L σ s.heap [] := ⟨hH0, hM⟩
  have hle : HLe σ σ := HLe.rf
  have k_0 : (0 : Int32).toInt = 0 := rfl
  have k_1 : (1 : Int32).toInt = 1 := rfl
  have k_32 : (32 : Int32).toInt = 32 := rfl
  have k_34 : (34 : Int32).toInt = 34 := rfl
  have k_42 : (42 : Int32).toInt = 42 := rfl
  have k_47 : (47 : Int32).toInt = 47 := rfl
  have k_58 : (58 : Int32).toInt = 58 := rfl
  have k_60 : (60 : Int32).toInt = 60 := rfl
  have k_62 : (62 : Int32).toInt = 62 := rfl
  have k_63 : (63 : Int32).toInt = 63 := rfl
  have k_92 : (92 : Int32).toInt = 92 := rfl
  have k_124 : (124 : Int32).toInt = 124 := rfl
  have k_126 : (126 : Int32).toInt = 126 := rfl
  have rg_0 := i_range k
  have hl : lv_has ls 1 [(0, .int k)] := hl
  refine lv_iload_n hx hb dX12_isNameUnit_0 rfl (lv_at hl 0 rfl) ?_
  refine lv_bipush (v := 32) hx hb dX12_isNameUnit_1 (by decide) ?_
  refine lv_icmp_lt (tgt := 70) hx hb dX12_isNameUnit_3 rfl (fun h923 => ?_) (fun h923 => ?_)
  · have ch923 := i_lt h923
    refine lv_iconst (v := 0) hx hb dX12_isNameUnit_70 (by decide) ?_
    exact h_reti hF hr hlk (i_01 (by omega)).1 dX12_isNameUnit_71 hH.1 hle ⟨rfl, by (try dsimp only); omega⟩
  · have ch923 := i_nlt h923
    refine lv_iload_n hx hb dX12_isNameUnit_6 rfl (lv_at hl 0 rfl) ?_
    refine lv_bipush (v := 126) hx hb dX12_isNameUnit_7 (by decide) ?_
    refine lv_icmp_gt (tgt := 70) hx hb dX12_isNameUnit_9 rfl (fun h924 => ?_) (fun h924 => ?_)
    · have ch924 := i_lt h924
      refine lv_iconst (v := 0) hx hb dX12_isNameUnit_70 (by decide) ?_
      exact h_reti hF hr hlk (i_01 (by omega)).1 dX12_isNameUnit_71 hH.1 hle ⟨rfl, by (try dsimp only); omega⟩
    · have ch924 := i_nlt h924
      refine lv_iload_n hx hb dX12_isNameUnit_12 rfl (lv_at hl 0 rfl) ?_
      refine lv_bipush (v := 92) hx hb dX12_isNameUnit_13 (by decide) ?_
      refine lv_icmp_eq (tgt := 70) hx hb dX12_isNameUnit_15 rfl (fun h925 => ?_) (fun h925 => ?_)
      · have ch925 := i_eq h925
        refine lv_iconst (v := 0) hx hb dX12_isNameUnit_70 (by decide) ?_
        exact h_reti hF hr hlk (i_01 (by omega)).1 dX12_isNameUnit_71 hH.1 hle ⟨rfl, by (try dsimp only); omega⟩
      · have ch925 := i_ne h925
        refine lv_iload_n hx hb dX12_isNameUnit_18 rfl (lv_at hl 0 rfl) ?_
        refine lv_bipush (v := 47) hx hb dX12_isNameUnit_19 (by decide) ?_
        refine lv_icmp_eq (tgt := 70) hx hb dX12_isNameUnit_21 rfl (fun h926 => ?_) (fun h926 => ?_)
        · have ch926 := i_eq h926
          refine lv_iconst (v := 0) hx hb dX12_isNameUnit_70 (by decide) ?_
          exact h_reti hF hr hlk (i_01 (by omega)).1 dX12_isNameUnit_71 hH.1 hle ⟨rfl, by (try dsimp only); omega⟩
        · have ch926 := i_ne h926
          refine lv_iload_n hx hb dX12_isNameUnit_24 rfl (lv_at hl 0 rfl) ?_
          refine lv_bipush (v := 58) hx hb dX12_isNameUnit_25 (by decide) ?_
          refine lv_icmp_eq (tgt := 70) hx hb dX12_isNameUnit_27 rfl (fun h927 => ?_) (fun h927 => ?_)
          · have ch927 := i_eq h927
            refine lv_iconst (v := 0) hx hb dX12_isNameUnit_70 (by decide) ?_
            exact h_reti hF hr hlk (i_01 (by omega)).1 dX12_isNameUnit_71 hH.1 hle ⟨rfl, by (try dsimp only); omega⟩
          · have ch927 := i_ne h927
            refine lv_iload_n hx hb dX12_isNameUnit_30 rfl (lv_at hl 0 rfl) ?_
            refine lv_bipush (v := 42) hx hb dX12_isNameUnit_31 (by decide) ?_
            refine lv_icmp_eq (tgt := 70) hx hb dX12_isNameUnit_33 rfl (fun h928 => ?_) (fun h928 => ?_)
            · have ch928 := i_eq h928
              refine lv_iconst (v := 0) hx hb dX12_isNameUnit_70 (by decide) ?_
              exact h_reti hF hr hlk (i_01 (by omega)).1 dX12_isNameUnit_71 hH.1 hle ⟨rfl, by (try dsimp only); omega⟩
            · have ch928 := i_ne h928
              refine lv_iload_n hx hb dX12_isNameUnit_36 rfl (lv_at hl 0 rfl) ?_
              refine lv_bipush (v := 63) hx hb dX12_isNameUnit_37 (by decide) ?_
              refine lv_icmp_eq (tgt := 70) hx hb dX12_isNameUnit_39 rfl (fun h929 => ?_) (fun h929 => ?_)
              · have ch929 := i_eq h929
                refine lv_iconst (v := 0) hx hb dX12_isNameUnit_70 (by decide) ?_
                exact h_reti hF hr hlk (i_01 (by omega)).1 dX12_isNameUnit_71 hH.1 hle ⟨rfl, by (try dsimp only); omega⟩
              · have ch929 := i_ne h929
                refine lv_iload_n hx hb dX12_isNameUnit_42 rfl (lv_at hl 0 rfl) ?_
                refine lv_bipush (v := 34) hx hb dX12_isNameUnit_43 (by decide) ?_
                refine lv_icmp_eq (tgt := 70) hx hb dX12_isNameUnit_45 rfl (fun h930 => ?_) (fun h930 => ?_)
                · have ch930 := i_eq h930
                  refine lv_iconst (v := 0) hx hb dX12_isNameUnit_70 (by decide) ?_
                  exact h_reti hF hr hlk (i_01 (by omega)).1 dX12_isNameUnit_71 hH.1 hle ⟨rfl, by (try dsimp only); omega⟩
                · have ch930 := i_ne h930
                  refine lv_iload_n hx hb dX12_isNameUnit_48 rfl (lv_at hl 0 rfl) ?_
                  refine lv_bipush (v := 60) hx hb dX12_isNameUnit_49 (by decide) ?_
                  refine lv_icmp_eq (tgt := 70) hx hb dX12_isNameUnit_51 rfl (fun h931 => ?_) (fun h931 => ?_)
                  · have ch931 := i_eq h931
                    refine lv_iconst (v := 0) hx hb dX12_isNameUnit_70 (by decide) ?_
                    exact h_reti hF hr hlk (i_01 (by omega)).1 dX12_isNameUnit_71 hH.1 hle ⟨rfl, by (try dsimp only); omega⟩
                  · have ch931 := i_ne h931
                    refine lv_iload_n hx hb dX12_isNameUnit_54 rfl (lv_at hl 0 rfl) ?_
                    refine lv_bipush (v := 62) hx hb dX12_isNameUnit_55 (by decide) ?_
                    refine lv_icmp_eq (tgt := 70) hx hb dX12_isNameUnit_57 rfl (fun h932 => ?_) (fun h932 => ?_)
                    · have ch932 := i_eq h932
                      refine lv_iconst (v := 0) hx hb dX12_isNameUnit_70 (by decide) ?_
                      exact h_reti hF hr hlk (i_01 (by omega)).1 dX12_isNameUnit_71 hH.1 hle ⟨rfl, by (try dsimp only); omega⟩
                    · have ch932 := i_ne h932
                      refine lv_iload_n hx hb dX12_isNameUnit_60 rfl (lv_at hl 0 rfl) ?_
                      refine lv_bipush (v := 124) hx hb dX12_isNameUnit_61 (by decide) ?_
                      refine lv_icmp_eq (tgt := 70) hx hb dX12_isNameUnit_63 rfl (fun h933 => ?_) (fun h933 => ?_)
                      · have ch933 := i_eq h933
                        refine lv_iconst (v := 0) hx hb dX12_isNameUnit_70 (by decide) ?_
                        exact h_reti hF hr hlk (i_01 (by omega)).1 dX12_isNameUnit_71 hH.1 hle ⟨rfl, by (try dsimp only); omega⟩
                      · have ch933 := i_ne h933
                        refine lv_iconst (v := 1) hx hb dX12_isNameUnit_66 (by decide) ?_
                        refine lv_goto (tgt := 71) hx hb dX12_isNameUnit_67 rfl ?_
                        exact h_reti hF hr hlk (i_01 (by omega)).1 dX12_isNameUnit_71 hH.1 hle ⟨rfl, by (try dsimp only); omega⟩
theorem dX12_meet_0 : decode cX12_meet 0 = .ok (.lload_n 2, 1) := by decide +kernel
theorem dX12_meet_1 : decode cX12_meet 1 = .ok (.lconst 0, 1) := by decide +kernel
theorem dX12_meet_2 : decode cX12_meet 2 = .ok (.lcmp, 1) := by decide +kernel
theorem dX12_meet_3 : decode cX12_meet 3 = .ok (.ifCond .eq 10, 3) := by decide +kernel
theorem dX12_meet_6 : decode cX12_meet 6 = .ok (.lload 6, 2) := by decide +kernel
theorem dX12_meet_8 : decode cX12_meet 8 = .ok (.lconst 0, 1) := by decide +kernel
theorem dX12_meet_9 : decode cX12_meet 9 = .ok (.lcmp, 1) := by decide +kernel
theorem dX12_meet_10 : decode cX12_meet 10 = .ok (.ifCond .ne 5, 3) := by decide +kernel
theorem dX12_meet_13 : decode cX12_meet 13 = .ok (.iconst 0, 1) := by decide +kernel
theorem dX12_meet_14 : decode cX12_meet 14 = .ok (.ireturn, 1) := by decide +kernel
theorem dX12_meet_15 : decode cX12_meet 15 = .ok (.lload_n 0, 1) := by decide +kernel
theorem dX12_meet_16 : decode cX12_meet 16 = .ok (.lload_n 2, 1) := by decide +kernel
theorem dX12_meet_17 : decode cX12_meet 17 = .ok (.ladd, 1) := by decide +kernel
theorem dX12_meet_18 : decode cX12_meet 18 = .ok (.lconst 1, 1) := by decide +kernel
theorem dX12_meet_19 : decode cX12_meet 19 = .ok (.lsub, 1) := by decide +kernel
theorem dX12_meet_20 : decode cX12_meet 20 = .ok (.lstore 8, 2) := by decide +kernel
theorem dX12_meet_22 : decode cX12_meet 22 = .ok (.lload 4, 2) := by decide +kernel
theorem dX12_meet_24 : decode cX12_meet 24 = .ok (.lload 6, 2) := by decide +kernel
theorem dX12_meet_26 : decode cX12_meet 26 = .ok (.ladd, 1) := by decide +kernel
theorem dX12_meet_27 : decode cX12_meet 27 = .ok (.lconst 1, 1) := by decide +kernel
theorem dX12_meet_28 : decode cX12_meet 28 = .ok (.lsub, 1) := by decide +kernel
theorem dX12_meet_29 : decode cX12_meet 29 = .ok (.lstore 10, 2) := by decide +kernel
theorem dX12_meet_31 : decode cX12_meet 31 = .ok (.lload 8, 2) := by decide +kernel
theorem dX12_meet_33 : decode cX12_meet 33 = .ok (.lload_n 0, 1) := by decide +kernel
theorem dX12_meet_34 : decode cX12_meet 34 = .ok (.invokestatic 763, 3) := by decide +kernel
theorem dX12_meet_37 : decode cX12_meet 37 = .ok (.ifCond .eq 9, 3) := by decide +kernel
theorem dX12_meet_40 : decode cX12_meet 40 = .ok (.ldc2_w 520, 3) := by decide +kernel
theorem dX12_meet_43 : decode cX12_meet 43 = .ok (.goto 5, 3) := by decide +kernel
theorem dX12_meet_46 : decode cX12_meet 46 = .ok (.lload 8, 2) := by decide +kernel
theorem dX12_meet_48 : decode cX12_meet 48 = .ok (.lstore 8, 2) := by decide +kernel
theorem dX12_meet_50 : decode cX12_meet 50 = .ok (.lload 10, 2) := by decide +kernel
theorem dX12_meet_52 : decode cX12_meet 52 = .ok (.lload 4, 2) := by decide +kernel
theorem dX12_meet_54 : decode cX12_meet 54 = .ok (.invokestatic 763, 3) := by decide +kernel
theorem dX12_meet_57 : decode cX12_meet 57 = .ok (.ifCond .eq 9, 3) := by decide +kernel
theorem dX12_meet_60 : decode cX12_meet 60 = .ok (.ldc2_w 520, 3) := by decide +kernel
theorem dX12_meet_63 : decode cX12_meet 63 = .ok (.goto 5, 3) := by decide +kernel
theorem dX12_meet_66 : decode cX12_meet 66 = .ok (.lload 10, 2) := by decide +kernel
theorem dX12_meet_68 : decode cX12_meet 68 = .ok (.lstore 10, 2) := by decide +kernel
theorem dX12_meet_70 : decode cX12_meet 70 = .ok (.lload 10, 2) := by decide +kernel
theorem dX12_meet_72 : decode cX12_meet 72 = .ok (.lload_n 0, 1) := by decide +kernel
theorem dX12_meet_73 : decode cX12_meet 73 = .ok (.invokestatic 763, 3) := by decide +kernel
theorem dX12_meet_76 : decode cX12_meet 76 = .ok (.ifCond .ne 17, 3) := by decide +kernel
theorem dX12_meet_79 : decode cX12_meet 79 = .ok (.lload 8, 2) := by decide +kernel
theorem dX12_meet_81 : decode cX12_meet 81 = .ok (.lload 4, 2) := by decide +kernel
theorem dX12_meet_83 : decode cX12_meet 83 = .ok (.invokestatic 763, 3) := by decide +kernel
theorem dX12_meet_86 : decode cX12_meet 86 = .ok (.ifCond .ne 7, 3) := by decide +kernel
theorem dX12_meet_89 : decode cX12_meet 89 = .ok (.iconst 1, 1) := by decide +kernel
theorem dX12_meet_90 : decode cX12_meet 90 = .ok (.goto 4, 3) := by decide +kernel
theorem dX12_meet_93 : decode cX12_meet 93 = .ok (.iconst 0, 1) := by decide +kernel
theorem dX12_meet_94 : decode cX12_meet 94 = .ok (.ireturn, 1) := by decide +kernel
set_option maxRecDepth 100000 in
set_option maxHeartbeats 4000000 in
theorem c_X12_meet (l : Launch) (D : va_G) (t : Nat → ClassId) (h0 : Nat) (L : Nat → Nat) (σ : HS) (hO : OK ph τ0 σ) (hM : MdI h0 L σ) (u1 u2 u3 u4 : Int64) (sz : Nat) : HMi ph τ0 l D t yX12_meet cX12_meet 12 (some .boolean) ({ frames := 1, cells := 0, slots := 0, locals := 23 }) σ sz [.long u1, .long u2, .long u3, .long u4] 0 0 (fun r σ' => σ' = σ ∧ (0 ≤ r.toInt ∧ r.toInt ≤ 1)) := by
  refine h_go hO (by decide) (Nat.le_of_ble_eq_true rfl) ?_
  intro p e s m below meth c ls A hF hr hlk hAe hH0 hA hl
  unfold hB
  rw [hAe]
  clear hAe
  have hF : FX p m c cX12_meet 12 s _ RX12 D t := hF
  have hx := hF.1.1
  have hb := hF.1.2.1
  have hH : MT D t A s.heap h0 L σ s.heap [] := ⟨hH0, hM⟩
  have hle : HLe σ σ := HLe.rf
  have kl_m1 : ((-1) : Int64).toInt = (-1) := rfl
  have kl_0 : (0 : Int64).toInt = 0 := rfl
  have kl_1 : (1 : Int64).toInt = 1 := rfl
  have k_0 : (0 : Int32).toInt = 0 := rfl
  have k_1 : (1 : Int32).toInt = 1 := rfl
  have hl : lv_has ls 12 [(0, .long u1), (2, .long u2), (4, .long u3), (6, .long u4)] := hl
  refine lv_lload_n hx hb dX12_meet_0 rfl (lv_at hl 1 rfl) ?_
  refine lv_lconst (v := 0) hx hb dX12_meet_1 (by decide) ?_
  refine W.lcmp hx hb dX12_meet_2 ?_
  refine lv_topi (fun z934 ez934 => ?_)
  have hz934 := l_cmp ez934
  refine lv_if_eq (tgt := 13) hx hb dX12_meet_3 rfl (fun h935 => ?_) (fun h935 => ?_)
  · have ch935 := i_eq h935
    refine lv_iconst (v := 0) hx hb dX12_meet_13 (by decide) ?_
    exact h_reti hF hr hlk (i_01 (by omega)).1 dX12_meet_14 hH.1 hle ⟨rfl, by (try dsimp only); omega⟩
  · have ch935 := i_ne h935
    refine lv_lload hx hb dX12_meet_6 (lv_at hl 3 rfl) ?_
    refine lv_lconst (v := 0) hx hb dX12_meet_8 (by decide) ?_
    refine W.lcmp hx hb dX12_meet_9 ?_
    refine lv_topi (fun z936 ez936 => ?_)
    have hz936 := l_cmp ez936
    refine lv_if_ne (tgt := 15) hx hb dX12_meet_10 rfl (fun h937 => ?_) (fun h937 => ?_)
    · have ch937 := i_ne h937
      refine lv_lload_n hx hb dX12_meet_15 rfl (lv_at hl 0 rfl) ?_
      refine lv_lload_n hx hb dX12_meet_16 rfl (lv_at hl 1 rfl) ?_
      refine lv_ladd hx hb dX12_meet_17 ?_
      refine lv_topl (fun z938 ez938 => ?_)
      try have hz938 := l_add ez938 (by omega) (by omega)
      refine lv_lconst (v := 1) hx hb dX12_meet_18 (by decide) ?_
      refine lv_lsub hx hb dX12_meet_19 ?_
      refine lv_topl (fun z939 ez939 => ?_)
      try have hz939 := l_sub ez939 (by omega) (by omega)
      refine lv_lstore (lv' := [(8, .long z939), (0, .long u1), (2, .long u2), (4, .long u3), (6, .long u4)]) hx hb dX12_meet_20 hl (by decide) rfl (fun ls hl => ?_)
      refine lv_lload hx hb dX12_meet_22 (lv_at hl 3 rfl) ?_
      refine lv_lload hx hb dX12_meet_24 (lv_at hl 4 rfl) ?_
      refine lv_ladd hx hb dX12_meet_26 ?_
      refine lv_topl (fun z940 ez940 => ?_)
      try have hz940 := l_add ez940 (by omega) (by omega)
      refine lv_lconst (v := 1) hx hb dX12_meet_27 (by decide) ?_
      refine lv_lsub hx hb dX12_meet_28 ?_
      refine lv_topl (fun z941 ez941 => ?_)
      try have hz941 := l_sub ez941 (by omega) (by omega)
      refine lv_lstore (lv' := [(10, .long z941), (8, .long z939), (0, .long u1), (2, .long u2), (4, .long u3), (6, .long u4)]) hx hb dX12_meet_29 hl (by decide) rfl (fun ls hl => ?_)
      refine lv_lload hx hb dX12_meet_31 (lv_at hl 1 rfl) ?_
      refine lv_lload_n hx hb dX12_meet_33 rfl (lv_at hl 2 rfl) ?_
      refine m_cSi (As := [.long z939, .long u1]) (rest := []) hF hH hA ms_X12_763 (fun sz => c_X12_isLess l D t h0 L _ hH.1.2.2.2 hH.2 z939 u1  sz) dX12_meet_34 rfl rfl (by decide) rfl hl.1 (Nat.le_of_ble_eq_true rfl) (by decide) rfl (fun _ _ h => h.1) (fun z942 H locs pz942 hH => ?_)
      have pz942 := pz942.2
      refine m_join (β := Int64) 50 (L0 := fun x => [(10, .long z941), (8, .long x), (4, .long u3), (0, .long u1)]) (I := fun x σ2 => σ = σ2 ∧ ((True))) hl hH (fun x σJ945 ls H locs hl hI hH => ?_) (fun jn944 => ?_)
      · obtain ⟨x946, hx1⟩ : ∃ y, y = x := ⟨_, rfl⟩
        subst hx1
        obtain ⟨hsL, hI⟩ := hI
        subst hsL
        have hl : lv_has ls 12 [(10, .long z941), (8, .long x946), (4, .long u3), (0, .long u1)] := hl
        have hI : (True) := hI
        refine lv_lload hx hb dX12_meet_50 (lv_at hl 0 rfl) ?_
        refine lv_lload hx hb dX12_meet_52 (lv_at hl 2 rfl) ?_
        refine m_cSi (As := [.long z941, .long u3]) (rest := []) hF hH hA ms_X12_763 (fun sz => c_X12_isLess l D t h0 L _ hH.1.2.2.2 hH.2 z941 u3  sz) dX12_meet_54 rfl rfl (by decide) rfl hl.1 (Nat.le_of_ble_eq_true rfl) (by decide) rfl (fun _ _ h => h.1) (fun z947 H locs pz947 hH => ?_)
        have pz947 := pz947.2
        refine m_join (β := Int64) 70 (L0 := fun x => [(10, .long x), (8, .long x946), (4, .long u3), (0, .long u1)]) (I := fun x σ2 => σ = σ2 ∧ ((True))) hl hH (fun x σJ950 ls H locs hl hI hH => ?_) (fun jn949 => ?_)
        · obtain ⟨x951, hx1⟩ : ∃ y, y = x := ⟨_, rfl⟩
          subst hx1
          obtain ⟨hsL, hI⟩ := hI
          subst hsL
          have hl : lv_has ls 12 [(10, .long x951), (8, .long x946), (4, .long u3), (0, .long u1)] := hl
          have hI : (True) := hI
          refine lv_lload hx hb dX12_meet_70 (lv_at hl 0 rfl) ?_
          refine lv_lload_n hx hb dX12_meet_72 rfl (lv_at hl 3 rfl) ?_
          refine m_cSi (As := [.long x951, .long u1]) (rest := []) hF hH hA ms_X12_763 (fun sz => c_X12_isLess l D t h0 L _ hH.1.2.2.2 hH.2 x951 u1  sz) dX12_meet_73 rfl rfl (by decide) rfl hl.1 (Nat.le_of_ble_eq_true rfl) (by decide) rfl (fun _ _ h => h.1) (fun z952 H locs pz952 hH => ?_)
          have pz952 := pz952.2
          refine lv_if_ne (tgt := 93) hx hb dX12_meet_76 rfl (fun h954 => ?_) (fun h954 => ?_)
          · have ch954 := i_ne h954
            refine lv_iconst (v := 0) hx hb dX12_meet_93 (by decide) ?_
            exact h_reti hF hr hlk (i_01 (by omega)).1 dX12_meet_94 hH.1 hle ⟨rfl, by (try dsimp only); omega⟩
          · have ch954 := i_eq h954
            refine lv_lload hx hb dX12_meet_79 (lv_at hl 1 rfl) ?_
            refine lv_lload hx hb dX12_meet_81 (lv_at hl 2 rfl) ?_
            refine m_cSi (As := [.long x946, .long u3]) (rest := []) hF hH hA ms_X12_763 (fun sz => c_X12_isLess l D t h0 L _ hH.1.2.2.2 hH.2 x946 u3  sz) dX12_meet_83 rfl rfl (by decide) rfl hl.1 (Nat.le_of_ble_eq_true rfl) (by decide) rfl (fun _ _ h => h.1) (fun z955 H locs pz955 hH => ?_)
            have pz955 := pz955.2
            refine lv_if_ne (tgt := 93) hx hb dX12_meet_86 rfl (fun h957 => ?_) (fun h957 => ?_)
            · have ch957 := i_ne h957
              refine lv_iconst (v := 0) hx hb dX12_meet_93 (by decide) ?_
              exact h_reti hF hr hlk (i_01 (by omega)).1 dX12_meet_94 hH.1 hle ⟨rfl, by (try dsimp only); omega⟩
            · have ch957 := i_eq h957
              refine lv_iconst (v := 1) hx hb dX12_meet_89 (by decide) ?_
              refine lv_goto (tgt := 94) hx hb dX12_meet_90 rfl ?_
              exact h_reti hF hr hlk (i_01 (by omega)).1 dX12_meet_94 hH.1 hle ⟨rfl, by (try dsimp only); omega⟩
        · skip
          refine lv_if_eq (tgt := 66) hx hb dX12_meet_57 rfl (fun h958 => ?_) (fun h958 => ?_)
          · have ch958 := i_eq h958
            refine lv_lload hx hb dX12_meet_66 (lv_at hl 0 rfl) ?_
            refine lv_lstore (lv' := [(10, .long z941), (8, .long x946), (4, .long u3), (0, .long u1)]) hx hb dX12_meet_68 hl (by decide) rfl (fun ls hl => ?_)
            have hl : lv_has ls 12 [(10, .long z941), (8, .long x946), (4, .long u3), (0, .long u1)] := lv_sub hl [0, 1, 2, 3] rfl
            exact jn949 (z941) σ ls _ _ hl ⟨rfl, trivial⟩ hH
          · have ch958 := i_ne h958
            refine lv_ldc2 (v := (-1)) hx hb hF.1.2.2.2.1 (hF.1.2.2.2.2 _ (wc_47 34 rfl)) dX12_meet_60 ?_
            refine lv_goto (tgt := 68) hx hb dX12_meet_63 rfl ?_
            refine lv_lstore (lv' := [(10, .long (-1)), (8, .long x946), (4, .long u3), (0, .long u1)]) hx hb dX12_meet_68 hl (by decide) rfl (fun ls hl => ?_)
            have hl : lv_has ls 12 [(10, .long (-1)), (8, .long x946), (4, .long u3), (0, .long u1)] := lv_sub hl [0, 1, 2, 3] rfl
            exact jn949 ((-1)) σ ls _ _ hl ⟨rfl, trivial⟩ hH
      · skip
        refine lv_if_eq (tgt := 46) hx hb dX12_meet_37 rfl (fun h959 => ?_) (fun h959 => ?_)
        · have ch959 := i_eq h959
          refine lv_lload hx hb dX12_meet_46 (lv_at hl 1 rfl) ?_
          refine lv_lstore (lv' := [(8, .long z939), (10, .long z941), (0, .long u1), (2, .long u2), (4, .long u3), (6, .long u4)]) hx hb dX12_meet_48 hl (by decide) rfl (fun ls hl => ?_)
          have hl : lv_has ls 12 [(10, .long z941), (8, .long z939), (4, .long u3), (0, .long u1)] := lv_sub hl [1, 0, 4, 2] rfl
          exact jn944 (z939) σ ls _ _ hl ⟨rfl, trivial⟩ hH
        · have ch959 := i_ne h959
          refine lv_ldc2 (v := (-1)) hx hb hF.1.2.2.2.1 (hF.1.2.2.2.2 _ (wc_47 34 rfl)) dX12_meet_40 ?_
          refine lv_goto (tgt := 48) hx hb dX12_meet_43 rfl ?_
          refine lv_lstore (lv' := [(8, .long (-1)), (10, .long z941), (0, .long u1), (2, .long u2), (4, .long u3), (6, .long u4)]) hx hb dX12_meet_48 hl (by decide) rfl (fun ls hl => ?_)
          have hl : lv_has ls 12 [(10, .long z941), (8, .long (-1)), (4, .long u3), (0, .long u1)] := lv_sub hl [1, 0, 4, 2] rfl
          exact jn944 ((-1)) σ ls _ _ hl ⟨rfl, trivial⟩ hH
    · have ch937 := i_eq h937
      refine lv_iconst (v := 0) hx hb dX12_meet_13 (by decide) ?_
      exact h_reti hF hr hlk (i_01 (by omega)).1 dX12_meet_14 hH.1 hle ⟨rfl, by (try dsimp only); omega⟩
theorem num_up {h0 : Nat} {L : Nat → Nat} {σ : HS} {a n : Int32} {r : Int64} (h : r = lN (NUM h0 L σ a.toInt n.toInt.toNat)) (A N : Int) (ha : a.toInt = A) (hn : n.toInt = N) (hN : N.toNat ≤ 7) : r.toInt = (NUM h0 L σ A N.toNat : Int) ∧ r.toInt < ((256 ^ N.toNat : Nat) : Int) := by
  subst ha
  subst hn
  have h1 := NUM_lt (h0 := h0) (L := L) (σ := σ) (a := a.toInt) (n := n.toInt.toNat)
  have h2 : 256 ^ n.toInt.toNat ≤ 256 ^ 7 := Nat.pow_le_pow_right (by decide) hN
  have h3 := num_i h (by omega)
  rw [h3]
  refine ⟨rfl, ?_⟩
  exact Int.ofNat_lt.mpr h1
theorem dX12_headerGood_0 : decode cX12_headerGood 0 = .ok (.aload_n 0, 1) := by decide +kernel
theorem dX12_headerGood_1 : decode cX12_headerGood 1 = .ok (.bipush 20, 2) := by decide +kernel
theorem dX12_headerGood_3 : decode cX12_headerGood 3 = .ok (.iconst 4, 1) := by decide +kernel
theorem dX12_headerGood_4 : decode cX12_headerGood 4 = .ok (.invokevirtual 364, 3) := by decide +kernel
theorem dX12_headerGood_7 : decode cX12_headerGood 7 = .ok (.lstore_n 2, 1) := by decide +kernel
theorem dX12_headerGood_8 : decode cX12_headerGood 8 = .ok (.aload_n 0, 1) := by decide +kernel
theorem dX12_headerGood_9 : decode cX12_headerGood 9 = .ok (.iconst 0, 1) := by decide +kernel
theorem dX12_headerGood_10 : decode cX12_headerGood 10 = .ok (.iconst 4, 1) := by decide +kernel
theorem dX12_headerGood_11 : decode cX12_headerGood 11 = .ok (.invokevirtual 364, 3) := by decide +kernel
theorem dX12_headerGood_14 : decode cX12_headerGood 14 = .ok (.ldc2_w 374, 3) := by decide +kernel
theorem dX12_headerGood_17 : decode cX12_headerGood 17 = .ok (.lcmp, 1) := by decide +kernel
theorem dX12_headerGood_18 : decode cX12_headerGood 18 = .ok (.ifCond .ne 31, 3) := by decide +kernel
theorem dX12_headerGood_21 : decode cX12_headerGood 21 = .ok (.aload_n 0, 1) := by decide +kernel
theorem dX12_headerGood_22 : decode cX12_headerGood 22 = .ok (.iconst 4, 1) := by decide +kernel
theorem dX12_headerGood_23 : decode cX12_headerGood 23 = .ok (.invokevirtual 415, 3) := by decide +kernel
theorem dX12_headerGood_26 : decode cX12_headerGood 26 = .ok (.bipush 64, 2) := by decide +kernel
theorem dX12_headerGood_28 : decode cX12_headerGood 28 = .ok (.if_icmp .ne 21, 3) := by decide +kernel
theorem dX12_headerGood_31 : decode cX12_headerGood 31 = .ok (.aload_n 0, 1) := by decide +kernel
theorem dX12_headerGood_32 : decode cX12_headerGood 32 = .ok (.bipush 16, 2) := by decide +kernel
theorem dX12_headerGood_34 : decode cX12_headerGood 34 = .ok (.iconst 4, 1) := by decide +kernel
theorem dX12_headerGood_35 : decode cX12_headerGood 35 = .ok (.invokevirtual 364, 3) := by decide +kernel
theorem dX12_headerGood_38 : decode cX12_headerGood 38 = .ok (.lconst 1, 1) := by decide +kernel
theorem dX12_headerGood_39 : decode cX12_headerGood 39 = .ok (.land, 1) := by decide +kernel
theorem dX12_headerGood_40 : decode cX12_headerGood 40 = .ok (.lconst 0, 1) := by decide +kernel
theorem dX12_headerGood_41 : decode cX12_headerGood 41 = .ok (.lcmp, 1) := by decide +kernel
theorem dX12_headerGood_42 : decode cX12_headerGood 42 = .ok (.ifCond .ne 7, 3) := by decide +kernel
theorem dX12_headerGood_45 : decode cX12_headerGood 45 = .ok (.iconst 1, 1) := by decide +kernel
theorem dX12_headerGood_46 : decode cX12_headerGood 46 = .ok (.goto 4, 3) := by decide +kernel
theorem dX12_headerGood_49 : decode cX12_headerGood 49 = .ok (.iconst 0, 1) := by decide +kernel
theorem dX12_headerGood_50 : decode cX12_headerGood 50 = .ok (.istore 4, 2) := by decide +kernel
theorem dX12_headerGood_52 : decode cX12_headerGood 52 = .ok (.iload 4, 2) := by decide +kernel
theorem dX12_headerGood_54 : decode cX12_headerGood 54 = .ok (.ifCond .eq 42, 3) := by decide +kernel
theorem dX12_headerGood_57 : decode cX12_headerGood 57 = .ok (.lload_n 2, 1) := by decide +kernel
theorem dX12_headerGood_58 : decode cX12_headerGood 58 = .ok (.lconst 0, 1) := by decide +kernel
theorem dX12_headerGood_59 : decode cX12_headerGood 59 = .ok (.lcmp, 1) := by decide +kernel
theorem dX12_headerGood_60 : decode cX12_headerGood 60 = .ok (.ifCond .eq 32, 3) := by decide +kernel
theorem dX12_headerGood_63 : decode cX12_headerGood 63 = .ok (.lload_n 2, 1) := by decide +kernel
theorem dX12_headerGood_64 : decode cX12_headerGood 64 = .ok (.ldc2_w 380, 3) := by decide +kernel
theorem dX12_headerGood_67 : decode cX12_headerGood 67 = .ok (.lcmp, 1) := by decide +kernel
theorem dX12_headerGood_68 : decode cX12_headerGood 68 = .ok (.ifCond .lt 28, 3) := by decide +kernel
theorem dX12_headerGood_71 : decode cX12_headerGood 71 = .ok (.lload_n 2, 1) := by decide +kernel
theorem dX12_headerGood_72 : decode cX12_headerGood 72 = .ok (.ldc2_w 432, 3) := by decide +kernel
theorem dX12_headerGood_75 : decode cX12_headerGood 75 = .ok (.lrem, 1) := by decide +kernel
theorem dX12_headerGood_76 : decode cX12_headerGood 76 = .ok (.lconst 0, 1) := by decide +kernel
theorem dX12_headerGood_77 : decode cX12_headerGood 77 = .ok (.lcmp, 1) := by decide +kernel
theorem dX12_headerGood_78 : decode cX12_headerGood 78 = .ok (.ifCond .ne 18, 3) := by decide +kernel
theorem dX12_headerGood_81 : decode cX12_headerGood 81 = .ok (.lload_n 2, 1) := by decide +kernel
theorem dX12_headerGood_82 : decode cX12_headerGood 82 = .ok (.iload_n 1, 1) := by decide +kernel
theorem dX12_headerGood_83 : decode cX12_headerGood 83 = .ok (.i2l, 1) := by decide +kernel
theorem dX12_headerGood_84 : decode cX12_headerGood 84 = .ok (.ldc2_w 380, 3) := by decide +kernel
theorem dX12_headerGood_87 : decode cX12_headerGood 87 = .ok (.lsub, 1) := by decide +kernel
theorem dX12_headerGood_88 : decode cX12_headerGood 88 = .ok (.lcmp, 1) := by decide +kernel
theorem dX12_headerGood_89 : decode cX12_headerGood 89 = .ok (.ifCond .gt 7, 3) := by decide +kernel
theorem dX12_headerGood_92 : decode cX12_headerGood 92 = .ok (.iconst 1, 1) := by decide +kernel
theorem dX12_headerGood_93 : decode cX12_headerGood 93 = .ok (.goto 4, 3) := by decide +kernel
theorem dX12_headerGood_96 : decode cX12_headerGood 96 = .ok (.iconst 0, 1) := by decide +kernel
theorem dX12_headerGood_97 : decode cX12_headerGood 97 = .ok (.ireturn, 1) := by decide +kernel
set_option maxRecDepth 100000 in
set_option maxHeartbeats 4000000 in
theorem c_X12_headerGood (l : Launch) (D : va_G) (t : Nat → ClassId) (h0 : Nat) (L : Nat → Nat) (σ : HS) (hO : OK ph τ0 σ) (hM : MdI h0 L σ) (k : Int32) (hN : InM h0 L σ 64) (sz : Nat) : HMi ph τ0 l D t yX12_headerGood cX12_headerGood 5 (some .boolean) ({ frames := 2, cells := 0, slots := 0, locals := 48 }) σ sz [.ref h0, .int k] 0 0 (fun r σ' => MdI h0 L σ' ∧ σ' = σ ∧ ((0 ≤ r.toInt ∧ r.toInt ≤ 1) ∧ (r.toInt = 1 → (NUM h0 L σ 20 4 : Int) = 0 ∨ (64 ≤ (NUM h0 L σ 20 4 : Int) ∧ (NUM h0 L σ 20 4 : Int) ≤ k.toInt - 64)))) := by
  refine h_go hO (by decide) (Nat.le_of_ble_eq_true rfl) ?_
  intro p e s m below meth c ls A hF hr hlk hAe hH0 hA hl
  unfold hB
  rw [hAe]
  clear hAe
  have hF : FX p m c cX12_headerGood 5 s _ RX12 D t := hF
  have hx := hF.1.1
  have hb := hF.1.2.1
  have hH : MT D t A s.heap h0 L σ s.heap [] := ⟨hH0, hM⟩
  have hle : HLe σ σ := HLe.rf
  have kl_0 : (0 : Int64).toInt = 0 := rfl
  have kl_1 : (1 : Int64).toInt = 1 := rfl
  have kl_8 : (8 : Int64).toInt = 8 := rfl
  have kl_64 : (64 : Int64).toInt = 64 := rfl
  have kl_1112364030 : (1112364030 : Int64).toInt = 1112364030 := rfl
  have k_0 : (0 : Int32).toInt = 0 := rfl
  have k_1 : (1 : Int32).toInt = 1 := rfl
  have k_4 : (4 : Int32).toInt = 4 := rfl
  have k_16 : (16 : Int32).toInt = 16 := rfl
  have k_20 : (20 : Int32).toInt = 20 := rfl
  have k_64 : (64 : Int32).toInt = 64 := rfl
  have rg_1 := i_range k
  have hl : lv_has ls 5 [(0, .ref h0), (1, .int k)] := hl
  refine lv_aload_n hx hb dX12_headerGood_0 rfl (lv_at hl 0 rfl) ?_
  refine lv_bipush (v := 20) hx hb dX12_headerGood_1 (by decide) ?_
  refine lv_iconst (v := 4) hx hb dX12_headerGood_3 (by decide) ?_
  refine m_cVl (As := [.int 20, .int 4]) (rest := []) hF hH hA mv_X12_364 (fun sz => c_X12_number l D t h0 L _ hH.1.2.2.2 hH.2 20 4 (InM.le hN (by omega)) (by omega) sz) dX12_headerGood_4 rfl rfl (by decide) rfl hl.1 (Nat.le_of_ble_eq_true rfl) (by decide) rfl (fun z960 σ961 H locs lσ961 pz960 hH => ?_)
  obtain ⟨fz960, pz960⟩ := pz960
  have fz960 := fz960.symm
  subst fz960
  have qz960 := num_up pz960 20 4 rfl rfl (by decide)
  have qz960 : 0 ≤ z960.toInt ∧ z960.toInt = (NUM h0 L σ 20 4 : Int) ∧ z960.toInt < 4294967296 := ⟨by rw [qz960.1]; exact Int.natCast_nonneg _, qz960.1, qz960.2⟩
  refine lv_lstore_n (lv' := [(2, .long z960), (0, .ref h0), (1, .int k)]) hx hb dX12_headerGood_7 rfl hl (by decide) rfl (fun ls hl => ?_)
  refine lv_aload_n hx hb dX12_headerGood_8 rfl (lv_at hl 1 rfl) ?_
  refine lv_iconst (v := 0) hx hb dX12_headerGood_9 (by decide) ?_
  refine lv_iconst (v := 4) hx hb dX12_headerGood_10 (by decide) ?_
  refine m_cVl (As := [.int 0, .int 4]) (rest := []) hF hH hA mv_X12_364 (fun sz => c_X12_number l D t h0 L _ hH.1.2.2.2 hH.2 0 4 (InM.le hN (by omega)) (by omega) sz) dX12_headerGood_11 rfl rfl (by decide) rfl hl.1 (Nat.le_of_ble_eq_true rfl) (by decide) rfl (fun z962 σ963 H locs lσ963 pz962 hH => ?_)
  obtain ⟨fz962, pz962⟩ := pz962
  have fz962 := fz962.symm
  subst fz962
  have qz962 := num_up pz962 0 4 rfl rfl (by decide)
  have qz962 : 0 ≤ z962.toInt ∧ z962.toInt = (NUM h0 L σ 0 4 : Int) ∧ z962.toInt < 4294967296 := ⟨by rw [qz962.1]; exact Int.natCast_nonneg _, qz962.1, qz962.2⟩
  refine lv_ldc2 (v := 1112364030) hx hb hF.1.2.2.2.1 (hF.1.2.2.2.2 _ (wc_47 17 rfl)) dX12_headerGood_14 ?_
  refine W.lcmp hx hb dX12_headerGood_17 ?_
  refine lv_topi (fun z964 ez964 => ?_)
  have hz964 := l_cmp ez964
  refine m_join (β := Int32) 52 (L0 := fun x => [(4, .int x), (2, .long z960), (1, .int k)]) (I := fun x σ2 => σ = σ2 ∧ ((True))) hl hH (fun x σJ966 ls H locs hl hI hH => ?_) (fun jn965 => ?_)
  · obtain ⟨x967, hx1⟩ : ∃ y, y = x := ⟨_, rfl⟩
    subst hx1
    obtain ⟨hsL, hI⟩ := hI
    subst hsL
    have hl : lv_has ls 5 [(4, .int x967), (2, .long z960), (1, .int k)] := hl
    have hI : (True) := hI
    have rg_x967 := i_range x967
    refine lv_iload hx hb dX12_headerGood_52 (lv_at hl 0 rfl) ?_
    refine lv_if_eq (tgt := 96) hx hb dX12_headerGood_54 rfl (fun h968 => ?_) (fun h968 => ?_)
    · have ch968 := i_eq h968
      refine lv_iconst (v := 0) hx hb dX12_headerGood_96 (by decide) ?_
      exact h_reti hF hr hlk (i_01 (by omega)).1 dX12_headerGood_97 hH.1 hle ⟨hH.2, rfl, ⟨by (try dsimp only); omega, fun _ => by (try dsimp only); omega⟩⟩
    · have ch968 := i_ne h968
      refine lv_lload_n hx hb dX12_headerGood_57 rfl (lv_at hl 1 rfl) ?_
      refine lv_lconst (v := 0) hx hb dX12_headerGood_58 (by decide) ?_
      refine W.lcmp hx hb dX12_headerGood_59 ?_
      refine lv_topi (fun z969 ez969 => ?_)
      have hz969 := l_cmp ez969
      refine lv_if_eq (tgt := 92) hx hb dX12_headerGood_60 rfl (fun h970 => ?_) (fun h970 => ?_)
      · have ch970 := i_eq h970
        refine lv_iconst (v := 1) hx hb dX12_headerGood_92 (by decide) ?_
        refine lv_goto (tgt := 97) hx hb dX12_headerGood_93 rfl ?_
        exact h_reti hF hr hlk (i_01 (by omega)).1 dX12_headerGood_97 hH.1 hle ⟨hH.2, rfl, ⟨by (try dsimp only); omega, fun _ => by (try dsimp only); omega⟩⟩
      · have ch970 := i_ne h970
        refine lv_lload_n hx hb dX12_headerGood_63 rfl (lv_at hl 1 rfl) ?_
        refine lv_ldc2 (v := 64) hx hb hF.1.2.2.2.1 (hF.1.2.2.2.2 _ (wc_47 21 rfl)) dX12_headerGood_64 ?_
        refine W.lcmp hx hb dX12_headerGood_67 ?_
        refine lv_topi (fun z971 ez971 => ?_)
        have hz971 := l_cmp ez971
        refine lv_if_lt (tgt := 96) hx hb dX12_headerGood_68 rfl (fun h972 => ?_) (fun h972 => ?_)
        · have ch972 := i_lt h972
          refine lv_iconst (v := 0) hx hb dX12_headerGood_96 (by decide) ?_
          exact h_reti hF hr hlk (i_01 (by omega)).1 dX12_headerGood_97 hH.1 hle ⟨hH.2, rfl, ⟨by (try dsimp only); omega, fun _ => by (try dsimp only); omega⟩⟩
        · have ch972 := i_nlt h972
          refine lv_lload_n hx hb dX12_headerGood_71 rfl (lv_at hl 1 rfl) ?_
          refine lv_ldc2 (v := 8) hx hb hF.1.2.2.2.1 (hF.1.2.2.2.2 _ (wc_51 15 rfl)) dX12_headerGood_72 ?_
          refine lv_lrem hx hb dX12_headerGood_75 (by decide) ?_
          refine lv_topl (fun z973 ez973 => ?_)
          try have hz973 := l_rem 8 rfl ez973 (by omega) (by omega)
          refine lv_lconst (v := 0) hx hb dX12_headerGood_76 (by decide) ?_
          refine W.lcmp hx hb dX12_headerGood_77 ?_
          refine lv_topi (fun z974 ez974 => ?_)
          have hz974 := l_cmp ez974
          refine lv_if_ne (tgt := 96) hx hb dX12_headerGood_78 rfl (fun h975 => ?_) (fun h975 => ?_)
          · have ch975 := i_ne h975
            refine lv_iconst (v := 0) hx hb dX12_headerGood_96 (by decide) ?_
            exact h_reti hF hr hlk (i_01 (by omega)).1 dX12_headerGood_97 hH.1 hle ⟨hH.2, rfl, ⟨by (try dsimp only); omega, fun _ => by (try dsimp only); omega⟩⟩
          · have ch975 := i_eq h975
            refine lv_lload_n hx hb dX12_headerGood_81 rfl (lv_at hl 1 rfl) ?_
            refine lv_iload_n hx hb dX12_headerGood_82 rfl (lv_at hl 2 rfl) ?_
            refine lv_i2l hx hb dX12_headerGood_83 rfl ?_
            refine lv_topl (fun z976 ez976 => ?_)
            have hz976 := i_tol ez976
            refine lv_ldc2 (v := 64) hx hb hF.1.2.2.2.1 (hF.1.2.2.2.2 _ (wc_47 21 rfl)) dX12_headerGood_84 ?_
            refine lv_lsub hx hb dX12_headerGood_87 ?_
            refine lv_topl (fun z977 ez977 => ?_)
            try have hz977 := l_sub ez977 (by omega) (by omega)
            refine W.lcmp hx hb dX12_headerGood_88 ?_
            refine lv_topi (fun z978 ez978 => ?_)
            have hz978 := l_cmp ez978
            refine lv_if_gt (tgt := 96) hx hb dX12_headerGood_89 rfl (fun h979 => ?_) (fun h979 => ?_)
            · have ch979 := i_lt h979
              refine lv_iconst (v := 0) hx hb dX12_headerGood_96 (by decide) ?_
              exact h_reti hF hr hlk (i_01 (by omega)).1 dX12_headerGood_97 hH.1 hle ⟨hH.2, rfl, ⟨by (try dsimp only); omega, fun _ => by (try dsimp only); omega⟩⟩
            · have ch979 := i_nlt h979
              refine lv_iconst (v := 1) hx hb dX12_headerGood_92 (by decide) ?_
              refine lv_goto (tgt := 97) hx hb dX12_headerGood_93 rfl ?_
              exact h_reti hF hr hlk (i_01 (by omega)).1 dX12_headerGood_97 hH.1 hle ⟨hH.2, rfl, ⟨by (try dsimp only); omega, fun _ => by (try dsimp only); omega⟩⟩
  · skip
    refine lv_if_ne (tgt := 49) hx hb dX12_headerGood_18 rfl (fun h980 => ?_) (fun h980 => ?_)
    · have ch980 := i_ne h980
      refine lv_iconst (v := 0) hx hb dX12_headerGood_49 (by decide) ?_
      refine lv_istore (lv' := [(4, .int 0), (2, .long z960), (0, .ref h0), (1, .int k)]) hx hb dX12_headerGood_50 hl (by decide) rfl (fun ls hl => ?_)
      have hl : lv_has ls 5 [(4, .int 0), (2, .long z960), (1, .int k)] := lv_sub hl [0, 1, 3] rfl
      exact jn965 (0) σ ls _ _ hl ⟨rfl, trivial⟩ hH
    · have ch980 := i_eq h980
      refine lv_aload_n hx hb dX12_headerGood_21 rfl (lv_at hl 1 rfl) ?_
      refine lv_iconst (v := 4) hx hb dX12_headerGood_22 (by decide) ?_
      refine m_cVi (As := [.int 4]) (rest := []) hF hH hA mv_X12_415 (fun sz => c_X12_number2 l D t h0 L _ hH.1.2.2.2 hH.2 4 (InM.le hN (by omega)) (by omega) sz) dX12_headerGood_23 rfl rfl (by decide) rfl hl.1 (Nat.le_of_ble_eq_true rfl) (by decide) rfl (fun z981 σ982 H locs lσ982 pz981 hH => ?_)
      obtain ⟨fz981, pz981⟩ := pz981
      have fz981 := fz981.symm
      subst fz981
      refine lv_bipush (v := 64) hx hb dX12_headerGood_26 (by decide) ?_
      refine lv_icmp_ne (tgt := 49) hx hb dX12_headerGood_28 rfl (fun h983 => ?_) (fun h983 => ?_)
      · have ch983 := i_ne h983
        refine lv_iconst (v := 0) hx hb dX12_headerGood_49 (by decide) ?_
        refine lv_istore (lv' := [(4, .int 0), (2, .long z960), (0, .ref h0), (1, .int k)]) hx hb dX12_headerGood_50 hl (by decide) rfl (fun ls hl => ?_)
        have hl : lv_has ls 5 [(4, .int 0), (2, .long z960), (1, .int k)] := lv_sub hl [0, 1, 3] rfl
        exact jn965 (0) σ ls _ _ hl ⟨rfl, trivial⟩ hH
      · have ch983 := i_eq h983
        refine lv_aload_n hx hb dX12_headerGood_31 rfl (lv_at hl 1 rfl) ?_
        refine lv_bipush (v := 16) hx hb dX12_headerGood_32 (by decide) ?_
        refine lv_iconst (v := 4) hx hb dX12_headerGood_34 (by decide) ?_
        refine m_cVl (As := [.int 16, .int 4]) (rest := []) hF hH hA mv_X12_364 (fun sz => c_X12_number l D t h0 L _ hH.1.2.2.2 hH.2 16 4 (InM.le hN (by omega)) (by omega) sz) dX12_headerGood_35 rfl rfl (by decide) rfl hl.1 (Nat.le_of_ble_eq_true rfl) (by decide) rfl (fun z984 σ985 H locs lσ985 pz984 hH => ?_)
        obtain ⟨fz984, pz984⟩ := pz984
        have fz984 := fz984.symm
        subst fz984
        have qz984 := num_up pz984 16 4 rfl rfl (by decide)
        have qz984 : 0 ≤ z984.toInt ∧ z984.toInt = (NUM h0 L σ 16 4 : Int) ∧ z984.toInt < 4294967296 := ⟨by rw [qz984.1]; exact Int.natCast_nonneg _, qz984.1, qz984.2⟩
        refine lv_lconst (v := 1) hx hb dX12_headerGood_38 (by decide) ?_
        refine lv_land hx hb dX12_headerGood_39 ?_
        refine lv_topl (fun z986 ez986 => ?_)
        try have hz986 := l_and ez986 (by omega)
        refine lv_lconst (v := 0) hx hb dX12_headerGood_40 (by decide) ?_
        refine W.lcmp hx hb dX12_headerGood_41 ?_
        refine lv_topi (fun z987 ez987 => ?_)
        have hz987 := l_cmp ez987
        refine lv_if_ne (tgt := 49) hx hb dX12_headerGood_42 rfl (fun h988 => ?_) (fun h988 => ?_)
        · have ch988 := i_ne h988
          refine lv_iconst (v := 0) hx hb dX12_headerGood_49 (by decide) ?_
          refine lv_istore (lv' := [(4, .int 0), (2, .long z960), (0, .ref h0), (1, .int k)]) hx hb dX12_headerGood_50 hl (by decide) rfl (fun ls hl => ?_)
          have hl : lv_has ls 5 [(4, .int 0), (2, .long z960), (1, .int k)] := lv_sub hl [0, 1, 3] rfl
          exact jn965 (0) σ ls _ _ hl ⟨rfl, trivial⟩ hH
        · have ch988 := i_eq h988
          refine lv_iconst (v := 1) hx hb dX12_headerGood_45 (by decide) ?_
          refine lv_goto (tgt := 50) hx hb dX12_headerGood_46 rfl ?_
          refine lv_istore (lv' := [(4, .int 1), (2, .long z960), (0, .ref h0), (1, .int k)]) hx hb dX12_headerGood_50 hl (by decide) rfl (fun ls hl => ?_)
          have hl : lv_has ls 5 [(4, .int 1), (2, .long z960), (1, .int k)] := lv_sub hl [0, 1, 3] rfl
          exact jn965 (1) σ ls _ _ hl ⟨rfl, trivial⟩ hH

/-! leaves of the reference -/
set_option maxRecDepth 100000 in
set_option maxHeartbeats 4000000 in
theorem s_X12_zero {h0 : Nat} {L : Nat → Nat} {σ : HS} (hI : OKM h0 L σ) (a1 : Int32) (a2 : Int32) (a3 : Int32) (hz : 0 ≤ a1.toInt ∧ a1.toInt < 160 ∧ 0 ≤ a2.toInt ∧ a3.toInt ≤ 4096) {post : HS → Prop} (kk : ∀ (σ' : HS), OKM h0 L σ' → Fr h0 L [] [9] σ σ' → (True) → post σ') : F_X12_zero h0 L a1 a2 a3 post σ := by
  unfold F_X12_zero
  have k_0 : (0 : Int32).toInt = 0 := rfl
  have k_1 : (1 : Int32).toInt = 1 := rfl
  have k_4096 : (4096 : Int32).toInt = 4096 := rfl
  have rg_a1 := i_range a1
  have rg_a2 := i_range a2
  have rg_a3 := i_range a3
  have hfr : Fr h0 L [] [9] σ σ := Fr.rf
  refine lw_in (fun (x : Int32) (σ' : HS) => OKM h0 L σ' ∧ Fr h0 L [] [9] σ σ' ∧ ((0 ≤ x.toInt))) (fun (x : Int32) (σ' : HS) => (4096 - x.toInt).toNat) ⟨hI, hfr, (by (try dsimp only); omega)⟩ (fun x1 σ2 hJ K3 hK3 => ?_)
  obtain ⟨hI, hfr, hv⟩ := hJ
  (try dsimp only at hv)
  have rg_x1 := i_range x1
  refine ⟨fun c1 => ?_, fun c1 => ?_⟩
  · exact kk σ2 hI hfr trivial
  · intro z5 ez5
    try have hz5 := i_mulk 4096 rfl ez5 (by omega) (by omega)
    have rg_z5 := i_range z5
    intro z6 ez6
    try have hz6 := i_add ez6 (by omega) (by omega)
    have rg_z6 := i_range z6
    refine ⟨by omega, ?_⟩
    intro σ7 eσ7
    have hMp := hI.2
    have hI := hI.pA 9 (-128) 127 (by decide) (by decide) rfl rfl (i_byte _) eσ7
    have hfr := hfr.aI hMp (by decide) eσ7 (by decide)
    intro z8 ez8
    try have hz8 := i_add ez8 (by omega) (by omega)
    have rg_z8 := i_range z8
    exact hK3 z8 σ7 ⟨hI, hfr, (by (try dsimp only); omega)⟩ (by (try dsimp only); omega)
set_option maxRecDepth 100000 in
set_option maxHeartbeats 4000000 in
theorem s_X12_set {h0 : Nat} {L : Nat → Nat} {σ : HS} (hI : OKM h0 L σ) (a1 : Int32) (a2 : Int32) (a3 : Int64) (hz : 0 ≤ a1.toInt ∧ 0 ≤ a2.toInt ∧ a2.toInt ≤ 8 ∧ a1.toInt + a2.toInt ≤ 5000) {post : HS → Prop} (kk : ∀ (σ' : HS), OKM h0 L σ' → Fr h0 L [] [76] σ σ' → (True) → post σ') : F_X12_set h0 L a1 a2 a3 post σ := by
  unfold F_X12_set
  have k_0 : (0 : Int32).toInt = 0 := rfl
  have k_1 : (1 : Int32).toInt = 1 := rfl
  have k_8 : (8 : Int32).toInt = 8 := rfl
  have rg_a1 := i_range a1
  have rg_a2 := i_range a2
  have rg_a3 := l_range a3
  have hfr : Fr h0 L [] [76] σ σ := Fr.rf
  refine lw_in (fun (x : Int32) (σ' : HS) => OKM h0 L σ' ∧ Fr h0 L [] [76] σ σ' ∧ ((0 ≤ x.toInt ∧ x.toInt ≤ a2.toInt))) (fun (x : Int32) (σ' : HS) => (a2.toInt - x.toInt).toNat) ⟨hI, hfr, (by (try dsimp only); omega)⟩ (fun x1 σ2 hJ K3 hK3 => ?_)
  obtain ⟨hI, hfr, hv⟩ := hJ
  (try dsimp only at hv)
  have rg_x1 := i_range x1
  refine ⟨fun c1 => ?_, fun c1 => ?_⟩
  · exact kk σ2 hI hfr trivial
  · intro z5 ez5
    have vz5 := hI.fI 90 0 85000 (by decide) rfl rfl rfl ez5
    have wz5 : z5.toInt = (sI σ2 h0 90).toInt := by rw [ez5]
    intro z6 ez6
    try have hz6 := i_add ez6 (by omega) (by omega)
    have rg_z6 := i_range z6
    intro z7 ez7
    try have hz7 := i_add ez7 (by omega) (by omega)
    have rg_z7 := i_range z7
    intro z8 ez8
    try have hz8 := i_mulk 8 rfl ez8 (by omega) (by omega)
    have rg_z8 := i_range z8
    intro z9 ez9
    have rg_z9 := l_range z9
    intro z10 ez10
    try have hz10 := l_toi ez10 (by omega) (by omega)
    have rg_z10 := i_range z10
    intro z11 ez11
    have hz11 := i_b8 ez11
    have rg_z11 := i_range z11
    refine ⟨by omega, ?_⟩
    intro σ12 eσ12
    have hMp := hI.2
    have hI := hI.pA 76 (-128) 127 (by decide) (by decide) rfl rfl (i_byte _) eσ12
    have hfr := hfr.aI hMp (by decide) eσ12 (by decide)
    intro z13 ez13
    try have hz13 := i_add ez13 (by omega) (by omega)
    have rg_z13 := i_range z13
    exact hK3 z13 σ12 ⟨hI, hfr, (by (try dsimp only); omega)⟩ (by (try dsimp only); omega)
set_option maxRecDepth 100000 in
set_option maxHeartbeats 4000000 in
theorem s_X12_copyNode {h0 : Nat} {L : Nat → Nat} {σ : HS} (hI : OKM h0 L σ) (a1 : Int32) (a2 : Int32) (hz : 0 ≤ a1.toInt ∧ a1.toInt < 160 ∧ 0 ≤ a2.toInt ∧ a2.toInt < 160) {post : HS → Prop} (kk : ∀ (σ' : HS), OKM h0 L σ' → Fr h0 L [] [1, 2, 3, 4, 5, 6, 7, 8, 9] σ σ' → (True) → post σ') : F_X12_copyNode h0 L a1 a2 post σ := by
  unfold F_X12_copyNode
  have k_0 : (0 : Int32).toInt = 0 := rfl
  have k_1 : (1 : Int32).toInt = 1 := rfl
  have k_4 : (4 : Int32).toInt = 4 := rfl
  have k_12 : (12 : Int32).toInt = 12 := rfl
  have k_4096 : (4096 : Int32).toInt = 4096 := rfl
  have rg_a1 := i_range a1
  have rg_a2 := i_range a2
  have hfr : Fr h0 L [] [1, 2, 3, 4, 5, 6, 7, 8, 9] σ σ := Fr.rf
  refine ⟨by omega, ?_⟩
  intro z1 ez1
  have vz1 := hI.aI 1 160 0 1 (by decide) (by decide) rfl rfl rfl (i := a1.toInt) (by omega) ez1
  have wz1 : z1.toInt = (sI σ (L 1) a1.toInt.toNat).toInt := by rw [ez1]
  refine ⟨by omega, ?_⟩
  intro σ2 eσ2
  have hMp := hI.2
  have hI := hI.pA 1 0 1 (by decide) (by decide) rfl rfl (i_bool _) eσ2
  have hfr := hfr.aI hMp (by decide) eσ2 (by decide)
  refine ⟨by omega, ?_⟩
  intro z3 ez3
  have vz3 := hI.aI 2 160 (-1) 79 (by decide) (by decide) rfl rfl rfl (i := a1.toInt) (by omega) ez3
  have wz3 : z3.toInt = (sI σ2 (L 2) a1.toInt.toNat).toInt := by rw [ez3]
  refine ⟨by omega, ?_⟩
  intro σ4 eσ4
  have hMp := hI.2
  have hI := hI.pA 2 (-1) 79 (by decide) (by decide) rfl rfl (by omega) eσ4
  have hfr := hfr.aI hMp (by decide) eσ4 (by decide)
  refine ⟨by omega, ?_⟩
  intro z5 ez5
  have vz5 := hI.aI 3 160 0 1 (by decide) (by decide) rfl rfl rfl (i := a1.toInt) (by omega) ez5
  have wz5 : z5.toInt = (sI σ4 (L 3) a1.toInt.toNat).toInt := by rw [ez5]
  refine ⟨by omega, ?_⟩
  intro σ6 eσ6
  have hMp := hI.2
  have hI := hI.pA 3 0 1 (by decide) (by decide) rfl rfl (i_bool _) eσ6
  have hfr := hfr.aI hMp (by decide) eσ6 (by decide)
  refine ⟨by omega, ?_⟩
  intro z7 ez7
  have vz7 := hI.aI 5 160 0 12 (by decide) (by decide) rfl rfl rfl (i := a1.toInt) (by omega) ez7
  have wz7 : z7.toInt = (sI σ6 (L 5) a1.toInt.toNat).toInt := by rw [ez7]
  refine ⟨by omega, ?_⟩
  intro σ8 eσ8
  have hMp := hI.2
  have hI := hI.pA 5 0 12 (by decide) (by decide) rfl rfl (by omega) eσ8
  have hfr := hfr.aI hMp (by decide) eσ8 (by decide)
  refine ⟨by omega, ?_⟩
  intro z9 ez9
  have vz9 := hI.aI 6 160 (-2147483648) 2147483647 (by decide) (by decide) rfl rfl rfl (i := a1.toInt) (by omega) ez9
  have wz9 : z9.toInt = (sI σ8 (L 6) a1.toInt.toNat).toInt := by rw [ez9]
  refine ⟨by omega, ?_⟩
  intro σ10 eσ10
  have hMp := hI.2
  have hI := hI.pA 6 (-2147483648) 2147483647 (by decide) (by decide) rfl rfl (by omega) eσ10
  have hfr := hfr.aI hMp (by decide) eσ10 (by decide)
  refine ⟨by omega, ?_⟩
  intro z11 ez11
  have vz11 := hI.aI 8 160 0 4096 (by decide) (by decide) rfl rfl rfl (i := a1.toInt) (by omega) ez11
  have wz11 : z11.toInt = (sI σ10 (L 8) a1.toInt.toNat).toInt := by rw [ez11]
  refine ⟨by omega, ?_⟩
  intro σ12 eσ12
  have hMp := hI.2
  have hI := hI.pA 8 0 4096 (by decide) (by decide) rfl rfl (by omega) eσ12
  have hfr := hfr.aI hMp (by decide) eσ12 (by decide)
  refine lw_in (fun (x : Int32) (σ' : HS) => OKM h0 L σ' ∧ Fr h0 L [] [1, 2, 3, 4, 5, 6, 7, 8, 9] σ σ' ∧ ((0 ≤ x.toInt ∧ x.toInt ≤ 12))) (fun (x : Int32) (σ' : HS) => (12 - x.toInt).toNat) ⟨hI, hfr, (by (try dsimp only); omega)⟩ (fun x13 σ14 hJ K15 hK15 => ?_)
  obtain ⟨hI, hfr, hv⟩ := hJ
  (try dsimp only at hv)
  have rg_x13 := i_range x13
  refine ⟨fun c1 => ?_, fun c1 => ?_⟩
  · refine lw_in (fun (x : Int32) (σ' : HS) => OKM h0 L σ' ∧ Fr h0 L [] [1, 2, 3, 4, 5, 6, 7, 8, 9] σ σ' ∧ ((0 ≤ x.toInt ∧ x.toInt ≤ 4))) (fun (x : Int32) (σ' : HS) => (4 - x.toInt).toNat) ⟨hI, hfr, (by (try dsimp only); omega)⟩ (fun x17 σ18 hJ K19 hK19 => ?_)
    obtain ⟨hI, hfr, hv⟩ := hJ
    (try dsimp only at hv)
    have rg_x17 := i_range x17
    refine ⟨fun c2 => ?_, fun c2 => ?_⟩
    · refine lw_in (fun (x : Int32) (σ' : HS) => OKM h0 L σ' ∧ Fr h0 L [] [1, 2, 3, 4, 5, 6, 7, 8, 9] σ σ' ∧ ((0 ≤ x.toInt ∧ x.toInt ≤ 4096))) (fun (x : Int32) (σ' : HS) => (4096 - x.toInt).toNat) ⟨hI, hfr, (by (try dsimp only); omega)⟩ (fun x21 σ22 hJ K23 hK23 => ?_)
      obtain ⟨hI, hfr, hv⟩ := hJ
      (try dsimp only at hv)
      have rg_x21 := i_range x21
      refine ⟨fun c3 => ?_, fun c3 => ?_⟩
      · exact kk σ22 hI hfr trivial
      · intro z25 ez25
        try have hz25 := i_mulk 4096 rfl ez25 (by omega) (by omega)
        have rg_z25 := i_range z25
        intro z26 ez26
        try have hz26 := i_add ez26 (by omega) (by omega)
        have rg_z26 := i_range z26
        intro z27 ez27
        try have hz27 := i_mulk 4096 rfl ez27 (by omega) (by omega)
        have rg_z27 := i_range z27
        intro z28 ez28
        try have hz28 := i_add ez28 (by omega) (by omega)
        have rg_z28 := i_range z28
        refine ⟨by omega, ?_⟩
        intro z29 ez29
        have vz29 := hI.aI 9 655360 (-128) 127 (by decide) (by decide) rfl rfl rfl (i := z28.toInt) (by omega) ez29
        have wz29 : z29.toInt = (sI σ22 (L 9) z28.toInt.toNat).toInt := by rw [ez29]
        refine ⟨by omega, ?_⟩
        intro σ30 eσ30
        have hMp := hI.2
        have hI := hI.pA 9 (-128) 127 (by decide) (by decide) rfl rfl (i_byte _) eσ30
        have hfr := hfr.aI hMp (by decide) eσ30 (by decide)
        intro z31 ez31
        try have hz31 := i_add ez31 (by omega) (by omega)
        have rg_z31 := i_range z31
        exact hK23 z31 σ30 ⟨hI, hfr, (by (try dsimp only); omega)⟩ (by (try dsimp only); omega)
    · intro z32 ez32
      try have hz32 := i_mulk 4 rfl ez32 (by omega) (by omega)
      have rg_z32 := i_range z32
      intro z33 ez33
      try have hz33 := i_add ez33 (by omega) (by omega)
      have rg_z33 := i_range z33
      intro z34 ez34
      try have hz34 := i_mulk 4 rfl ez34 (by omega) (by omega)
      have rg_z34 := i_range z34
      intro z35 ez35
      try have hz35 := i_add ez35 (by omega) (by omega)
      have rg_z35 := i_range z35
      refine ⟨by omega, ?_⟩
      intro z36 ez36
      have wz36 : z36.toInt = (sJ σ18 (L 7) z35.toInt.toNat).toInt := by rw [ez36]
      refine ⟨by omega, ?_⟩
      intro σ37 eσ37
      have hMp := hI.2
      have hI := hI.pJ eσ37
      have hfr := hfr.aJ hMp (by decide) eσ37 (by decide)
      intro z38 ez38
      try have hz38 := i_add ez38 (by omega) (by omega)
      have rg_z38 := i_range z38
      exact hK19 z38 σ37 ⟨hI, hfr, (by (try dsimp only); omega)⟩ (by (try dsimp only); omega)
  · intro z39 ez39
    try have hz39 := i_mulk 12 rfl ez39 (by omega) (by omega)
    have rg_z39 := i_range z39
    intro z40 ez40
    try have hz40 := i_add ez40 (by omega) (by omega)
    have rg_z40 := i_range z40
    intro z41 ez41
    try have hz41 := i_mulk 12 rfl ez41 (by omega) (by omega)
    have rg_z41 := i_range z41
    intro z42 ez42
    try have hz42 := i_add ez42 (by omega) (by omega)
    have rg_z42 := i_range z42
    refine ⟨by omega, ?_⟩
    intro z43 ez43
    have vz43 := hI.aI 4 1920 (-128) 127 (by decide) (by decide) rfl rfl rfl (i := z42.toInt) (by omega) ez43
    have wz43 : z43.toInt = (sI σ14 (L 4) z42.toInt.toNat).toInt := by rw [ez43]
    refine ⟨by omega, ?_⟩
    intro σ44 eσ44
    have hMp := hI.2
    have hI := hI.pA 4 (-128) 127 (by decide) (by decide) rfl rfl (i_byte _) eσ44
    have hfr := hfr.aI hMp (by decide) eσ44 (by decide)
    intro z45 ez45
    try have hz45 := i_add ez45 (by omega) (by omega)
    have rg_z45 := i_range z45
    exact hK15 z45 σ44 ⟨hI, hfr, (by (try dsimp only); omega)⟩ (by (try dsimp only); omega)

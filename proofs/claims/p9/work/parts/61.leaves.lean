/-! leaves of the reference -/
set_option maxRecDepth 100000 in
set_option maxHeartbeats 4000000 in
theorem s_X12_zero {h0 : Nat} {L : Nat → Nat} {σ : HS} (hI : OKM h0 L σ) (a1 : Int32) (a2 : Int32) (a3 : Int32) (hz : 0 ≤ a1.toInt ∧ a1.toInt < 160 ∧ 0 ≤ a2.toInt ∧ a3.toInt ≤ 4096) {post : HS → Prop} (kk : ∀ (σ' : HS), OKM h0 L σ' → Fr h0 L [] [9] σ σ' → (True) → post σ') : F_X12_zero h0 L a1 a2 a3 post σ := by
  unfold F_X12_zero
  have k_0 : (0 : Int32).toInt = 0 := rfl
  have k_1 : (1 : Int32).toInt = 1 := rfl
  have k_4096 : (4096 : Int32).toInt = 4096 := rfl
  have rg_a1 := i_range a1
  have rg_a2 := i_range a2
  have rg_a3 := i_range a3
  have hfr : Fr h0 L [] [9] σ σ := Fr.rf
  refine lw_in (fun (x : Int32) (σ' : HS) => OKM h0 L σ' ∧ Fr h0 L [] [9] σ σ' ∧ ((0 ≤ x.toInt))) (fun (x : Int32) (σ' : HS) => (a3.toInt - x.toInt).toNat) ⟨hI, hfr, (by (try dsimp only); omega)⟩ (fun x1 σ2 hJ K3 hK3 => ?_)
  obtain ⟨hI, hfr, hv⟩ := hJ
  (try dsimp only at hv)
  have rg_x1 := i_range x1
  refine ⟨fun c1 => ?_, fun c1 => ?_⟩
  · exact kk σ2 hI hfr trivial
  · intro z5 ez5
    try have hz5 := i_mulk 4096 rfl ez5 (by omega) (by omega)
    have rg_z5 := i_range z5
    intro z6 ez6
    try have hz6 := i_add ez6 (by omega) (by omega)
    have rg_z6 := i_range z6
    refine ⟨by omega, ?_⟩
    intro σ7 eσ7
    have hMp := hI.2
    have hI := hI.pA 9 (-128) 127 (by decide) (by decide) rfl rfl (i_byte _) eσ7
    have hfr := hfr.aI hMp (by decide) eσ7 (by decide)
    intro z8 ez8
    try have hz8 := i_add ez8 (by omega) (by omega)
    have rg_z8 := i_range z8
    exact hK3 z8 σ7 ⟨hI, hfr, (by (try dsimp only); omega)⟩ (by (try dsimp only); omega)
set_option maxRecDepth 100000 in
set_option maxHeartbeats 4000000 in
theorem s_X12_set {h0 : Nat} {L : Nat → Nat} {σ : HS} (hI : OKM h0 L σ) (a1 : Int32) (a2 : Int32) (a3 : Int64) (hz : 0 ≤ a1.toInt ∧ 0 ≤ a2.toInt ∧ a2.toInt ≤ 8 ∧ a1.toInt + a2.toInt ≤ 5000) {post : HS → Prop} (kk : ∀ (σ' : HS), OKM h0 L σ' → Fr h0 L [] [76] σ σ' → (True) → post σ') : F_X12_set h0 L a1 a2 a3 post σ := by
  unfold F_X12_set
  have k_0 : (0 : Int32).toInt = 0 := rfl
  have k_1 : (1 : Int32).toInt = 1 := rfl
  have k_8 : (8 : Int32).toInt = 8 := rfl
  have rg_a1 := i_range a1
  have rg_a2 := i_range a2
  have rg_a3 := l_range a3
  have hfr : Fr h0 L [] [76] σ σ := Fr.rf
  refine lw_in (fun (x : Int32) (σ' : HS) => OKM h0 L σ' ∧ Fr h0 L [] [76] σ σ' ∧ ((0 ≤ x.toInt ∧ x.toInt ≤ 8))) (fun (x : Int32) (σ' : HS) => (8 - x.toInt).toNat) ⟨hI, hfr, (by (try dsimp only); omega)⟩ (fun x1 σ2 hJ K3 hK3 => ?_)
  obtain ⟨hI, hfr, hv⟩ := hJ
  (try dsimp only at hv)
  have rg_x1 := i_range x1
  refine ⟨fun c1 => ?_, fun c1 => ?_⟩
  · exact kk σ2 hI hfr trivial
  · intro z5 ez5
    have vz5 := hI.fI 90 0 85000 (by decide) rfl rfl rfl ez5
    have wz5 : z5.toInt = (sI σ2 h0 90).toInt := by rw [ez5]
    intro z6 ez6
    try have hz6 := i_add ez6 (by omega) (by omega)
    have rg_z6 := i_range z6
    intro z7 ez7
    try have hz7 := i_add ez7 (by omega) (by omega)
    have rg_z7 := i_range z7
    intro z8 ez8
    try have hz8 := i_mulk 8 rfl ez8 (by omega) (by omega)
    have rg_z8 := i_range z8
    intro z9 ez9
    have rg_z9 := l_range z9
    intro z10 ez10
    try have hz10 := l_toi ez10 (by omega) (by omega)
    have rg_z10 := i_range z10
    intro z11 ez11
    have hz11 := i_b8 ez11
    have rg_z11 := i_range z11
    refine ⟨by omega, ?_⟩
    intro σ12 eσ12
    have hMp := hI.2
    have hI := hI.pA 76 (-128) 127 (by decide) (by decide) rfl rfl (i_byte _) eσ12
    have hfr := hfr.aI hMp (by decide) eσ12 (by decide)
    intro z13 ez13
    try have hz13 := i_add ez13 (by omega) (by omega)
    have rg_z13 := i_range z13
    exact hK3 z13 σ12 ⟨hI, hfr, (by (try dsimp only); omega)⟩ (by (try dsimp only); omega)
set_option maxRecDepth 100000 in
set_option maxHeartbeats 4000000 in
theorem s_X12_copyNode {h0 : Nat} {L : Nat → Nat} {σ : HS} (hI : OKM h0 L σ) (a1 : Int32) (a2 : Int32) (hz : 0 ≤ a1.toInt ∧ a1.toInt < 160 ∧ 0 ≤ a2.toInt ∧ a2.toInt < 160) {post : HS → Prop} (kk : ∀ (σ' : HS), OKM h0 L σ' → Fr h0 L [] [1, 2, 3, 4, 5, 6, 7, 8, 9] σ σ' → (True) → post σ') : F_X12_copyNode h0 L a1 a2 post σ := by
  unfold F_X12_copyNode
  have k_0 : (0 : Int32).toInt = 0 := rfl
  have k_1 : (1 : Int32).toInt = 1 := rfl
  have k_4 : (4 : Int32).toInt = 4 := rfl
  have k_12 : (12 : Int32).toInt = 12 := rfl
  have k_4096 : (4096 : Int32).toInt = 4096 := rfl
  have rg_a1 := i_range a1
  have rg_a2 := i_range a2
  have hfr : Fr h0 L [] [1, 2, 3, 4, 5, 6, 7, 8, 9] σ σ := Fr.rf
  refine ⟨by omega, ?_⟩
  intro z1 ez1
  have vz1 := hI.aI 1 160 0 1 (by decide) (by decide) rfl rfl rfl (i := a1.toInt) (by omega) ez1
  have wz1 : z1.toInt = (sI σ (L 1) a1.toInt.toNat).toInt := by rw [ez1]
  refine ⟨by omega, ?_⟩
  intro σ2 eσ2
  have hMp := hI.2
  have hI := hI.pA 1 0 1 (by decide) (by decide) rfl rfl (i_bool _) eσ2
  have hfr := hfr.aI hMp (by decide) eσ2 (by decide)
  refine ⟨by omega, ?_⟩
  intro z3 ez3
  have vz3 := hI.aI 2 160 (-1) 79 (by decide) (by decide) rfl rfl rfl (i := a1.toInt) (by omega) ez3
  have wz3 : z3.toInt = (sI σ2 (L 2) a1.toInt.toNat).toInt := by rw [ez3]
  refine ⟨by omega, ?_⟩
  intro σ4 eσ4
  have hMp := hI.2
  have hI := hI.pA 2 (-1) 79 (by decide) (by decide) rfl rfl (by omega) eσ4
  have hfr := hfr.aI hMp (by decide) eσ4 (by decide)
  refine ⟨by omega, ?_⟩
  intro z5 ez5
  have vz5 := hI.aI 3 160 0 1 (by decide) (by decide) rfl rfl rfl (i := a1.toInt) (by omega) ez5
  have wz5 : z5.toInt = (sI σ4 (L 3) a1.toInt.toNat).toInt := by rw [ez5]
  refine ⟨by omega, ?_⟩
  intro σ6 eσ6
  have hMp := hI.2
  have hI := hI.pA 3 0 1 (by decide) (by decide) rfl rfl (i_bool _) eσ6
  have hfr := hfr.aI hMp (by decide) eσ6 (by decide)
  refine ⟨by omega, ?_⟩
  intro z7 ez7
  have vz7 := hI.aI 5 160 0 12 (by decide) (by decide) rfl rfl rfl (i := a1.toInt) (by omega) ez7
  have wz7 : z7.toInt = (sI σ6 (L 5) a1.toInt.toNat).toInt := by rw [ez7]
  refine ⟨by omega, ?_⟩
  intro σ8 eσ8
  have hMp := hI.2
  have hI := hI.pA 5 0 12 (by decide) (by decide) rfl rfl (by omega) eσ8
  have hfr := hfr.aI hMp (by decide) eσ8 (by decide)
  refine ⟨by omega, ?_⟩
  intro z9 ez9
  have vz9 := hI.aI 6 160 (-2147483648) 2147483647 (by decide) (by decide) rfl rfl rfl (i := a1.toInt) (by omega) ez9
  have wz9 : z9.toInt = (sI σ8 (L 6) a1.toInt.toNat).toInt := by rw [ez9]
  refine ⟨by omega, ?_⟩
  intro σ10 eσ10
  have hMp := hI.2
  have hI := hI.pA 6 (-2147483648) 2147483647 (by decide) (by decide) rfl rfl (by omega) eσ10
  have hfr := hfr.aI hMp (by decide) eσ10 (by decide)
  refine ⟨by omega, ?_⟩
  intro z11 ez11
  have vz11 := hI.aI 8 160 0 4096 (by decide) (by decide) rfl rfl rfl (i := a1.toInt) (by omega) ez11
  have wz11 : z11.toInt = (sI σ10 (L 8) a1.toInt.toNat).toInt := by rw [ez11]
  refine ⟨by omega, ?_⟩
  intro σ12 eσ12
  have hMp := hI.2
  have hI := hI.pA 8 0 4096 (by decide) (by decide) rfl rfl (by omega) eσ12
  have hfr := hfr.aI hMp (by decide) eσ12 (by decide)
  refine lw_in (fun (x : Int32) (σ' : HS) => OKM h0 L σ' ∧ Fr h0 L [] [1, 2, 3, 4, 5, 6, 7, 8, 9] σ σ' ∧ ((0 ≤ x.toInt ∧ x.toInt ≤ 12))) (fun (x : Int32) (σ' : HS) => (12 - x.toInt).toNat) ⟨hI, hfr, (by (try dsimp only); omega)⟩ (fun x13 σ14 hJ K15 hK15 => ?_)
  obtain ⟨hI, hfr, hv⟩ := hJ
  (try dsimp only at hv)
  have rg_x13 := i_range x13
  refine ⟨fun c1 => ?_, fun c1 => ?_⟩
  · refine lw_in (fun (x : Int32) (σ' : HS) => OKM h0 L σ' ∧ Fr h0 L [] [1, 2, 3, 4, 5, 6, 7, 8, 9] σ σ' ∧ ((0 ≤ x.toInt ∧ x.toInt ≤ 4))) (fun (x : Int32) (σ' : HS) => (4 - x.toInt).toNat) ⟨hI, hfr, (by (try dsimp only); omega)⟩ (fun x17 σ18 hJ K19 hK19 => ?_)
    obtain ⟨hI, hfr, hv⟩ := hJ
    (try dsimp only at hv)
    have rg_x17 := i_range x17
    refine ⟨fun c2 => ?_, fun c2 => ?_⟩
    · refine lw_in (fun (x : Int32) (σ' : HS) => OKM h0 L σ' ∧ Fr h0 L [] [1, 2, 3, 4, 5, 6, 7, 8, 9] σ σ' ∧ ((0 ≤ x.toInt ∧ x.toInt ≤ 4096))) (fun (x : Int32) (σ' : HS) => (4096 - x.toInt).toNat) ⟨hI, hfr, (by (try dsimp only); omega)⟩ (fun x21 σ22 hJ K23 hK23 => ?_)
      obtain ⟨hI, hfr, hv⟩ := hJ
      (try dsimp only at hv)
      have rg_x21 := i_range x21
      refine ⟨fun c3 => ?_, fun c3 => ?_⟩
      · exact kk σ22 hI hfr trivial
      · intro z25 ez25
        try have hz25 := i_mulk 4096 rfl ez25 (by omega) (by omega)
        have rg_z25 := i_range z25
        intro z26 ez26
        try have hz26 := i_add ez26 (by omega) (by omega)
        have rg_z26 := i_range z26
        intro z27 ez27
        try have hz27 := i_mulk 4096 rfl ez27 (by omega) (by omega)
        have rg_z27 := i_range z27
        intro z28 ez28
        try have hz28 := i_add ez28 (by omega) (by omega)
        have rg_z28 := i_range z28
        refine ⟨by omega, ?_⟩
        intro z29 ez29
        have vz29 := hI.aI 9 655360 (-128) 127 (by decide) (by decide) rfl rfl rfl (i := z28.toInt) (by omega) ez29
        have wz29 : z29.toInt = (sI σ22 (L 9) z28.toInt.toNat).toInt := by rw [ez29]
        refine ⟨by omega, ?_⟩
        intro σ30 eσ30
        have hMp := hI.2
        have hI := hI.pA 9 (-128) 127 (by decide) (by decide) rfl rfl (i_byte _) eσ30
        have hfr := hfr.aI hMp (by decide) eσ30 (by decide)
        intro z31 ez31
        try have hz31 := i_add ez31 (by omega) (by omega)
        have rg_z31 := i_range z31
        exact hK23 z31 σ30 ⟨hI, hfr, (by (try dsimp only); omega)⟩ (by (try dsimp only); omega)
    · intro z32 ez32
      try have hz32 := i_mulk 4 rfl ez32 (by omega) (by omega)
      have rg_z32 := i_range z32
      intro z33 ez33
      try have hz33 := i_add ez33 (by omega) (by omega)
      have rg_z33 := i_range z33
      intro z34 ez34
      try have hz34 := i_mulk 4 rfl ez34 (by omega) (by omega)
      have rg_z34 := i_range z34
      intro z35 ez35
      try have hz35 := i_add ez35 (by omega) (by omega)
      have rg_z35 := i_range z35
      refine ⟨by omega, ?_⟩
      intro z36 ez36
      have wz36 : z36.toInt = (sJ σ18 (L 7) z35.toInt.toNat).toInt := by rw [ez36]
      refine ⟨by omega, ?_⟩
      intro σ37 eσ37
      have hMp := hI.2
      have hI := hI.pJ eσ37
      have hfr := hfr.aJ hMp (by decide) eσ37 (by decide)
      intro z38 ez38
      try have hz38 := i_add ez38 (by omega) (by omega)
      have rg_z38 := i_range z38
      exact hK19 z38 σ37 ⟨hI, hfr, (by (try dsimp only); omega)⟩ (by (try dsimp only); omega)
  · intro z39 ez39
    try have hz39 := i_mulk 12 rfl ez39 (by omega) (by omega)
    have rg_z39 := i_range z39
    intro z40 ez40
    try have hz40 := i_add ez40 (by omega) (by omega)
    have rg_z40 := i_range z40
    intro z41 ez41
    try have hz41 := i_mulk 12 rfl ez41 (by omega) (by omega)
    have rg_z41 := i_range z41
    intro z42 ez42
    try have hz42 := i_add ez42 (by omega) (by omega)
    have rg_z42 := i_range z42
    refine ⟨by omega, ?_⟩
    intro z43 ez43
    have vz43 := hI.aI 4 1920 (-128) 127 (by decide) (by decide) rfl rfl rfl (i := z42.toInt) (by omega) ez43
    have wz43 : z43.toInt = (sI σ14 (L 4) z42.toInt.toNat).toInt := by rw [ez43]
    refine ⟨by omega, ?_⟩
    intro σ44 eσ44
    have hMp := hI.2
    have hI := hI.pA 4 (-128) 127 (by decide) (by decide) rfl rfl (i_byte _) eσ44
    have hfr := hfr.aI hMp (by decide) eσ44 (by decide)
    intro z45 ez45
    try have hz45 := i_add ez45 (by omega) (by omega)
    have rg_z45 := i_range z45
    exact hK15 z45 σ44 ⟨hI, hfr, (by (try dsimp only); omega)⟩ (by (try dsimp only); omega)
set_option maxRecDepth 100000 in
set_option maxHeartbeats 4000000 in
theorem s_X12_isLine {h0 : Nat} {L : Nat → Nat} {σ : HS} (hI : OKM h0 L σ) (a0 : Int32)  {post : Int32 → HS → Prop} (kk : ∀ (r : Int32) (_ : (r.toInt = 1 ∧ 0 ≤ a0.toInt ∧ a0.toInt < 6) ∨ (r.toInt = 0 ∧ (a0.toInt < 0 ∨ 6 ≤ a0.toInt))), post r σ) : F_X12_isLine h0 L a0 post σ := by
  unfold F_X12_isLine
  have k_0 : (0 : Int32).toInt = 0 := rfl
  have k_1 : (1 : Int32).toInt = 1 := rfl
  have k_6 : (6 : Int32).toInt = 6 := rfl
  have rg_a0 := i_range a0
  refine jn_dup ?_
  refine jn_dup ?_
  refine ⟨fun c1 => ?_, fun c1 => ?_⟩
  · (try dsimp only)
    (try dsimp only)
    refine ⟨by omega, ?_⟩
    exact kk 0 (by (try dsimp only); omega)
  · refine ⟨fun c2 => ?_, fun c2 => ?_⟩
    · (try dsimp only)
      (try dsimp only)
      refine ⟨by omega, ?_⟩
      exact kk 0 (by (try dsimp only); omega)
    · (try dsimp only)
      refine ⟨by omega, ?_⟩
      exact kk 1 (by (try dsimp only); omega)
set_option maxRecDepth 100000 in
set_option maxHeartbeats 4000000 in
theorem s_X12_folded {h0 : Nat} {L : Nat → Nat} {σ : HS} (hI : OKM h0 L σ) (a0 : Int32)  {post : Int32 → HS → Prop} (kk : ∀ (r : Int32) (_ : r.toInt ≤ a0.toInt ∧ a0.toInt - 32 ≤ r.toInt), post r σ) : F_X12_folded h0 L a0 post σ := by
  unfold F_X12_folded
  have k_0 : (0 : Int32).toInt = 0 := rfl
  have k_32 : (32 : Int32).toInt = 32 := rfl
  have k_97 : (97 : Int32).toInt = 97 := rfl
  have k_122 : (122 : Int32).toInt = 122 := rfl
  have rg_a0 := i_range a0
  refine jn_dup ?_
  refine jn_dup ?_
  refine ⟨fun c1 => ?_, fun c1 => ?_⟩
  · (try dsimp only)
    (try dsimp only)
    exact kk a0 (by (try dsimp only); omega)
  · refine ⟨fun c2 => ?_, fun c2 => ?_⟩
    · (try dsimp only)
      (try dsimp only)
      exact kk a0 (by (try dsimp only); omega)
    · intro z11 ez11
      try have hz11 := i_sub ez11 (by omega) (by omega)
      have rg_z11 := i_range z11
      (try dsimp only)
      exact kk z11 (by (try dsimp only); omega)
set_option maxRecDepth 100000 in
set_option maxHeartbeats 4000000 in
theorem s_X12_isLess {h0 : Nat} {L : Nat → Nat} {σ : HS} (hI : OKM h0 L σ) (a0 : Int64) (a2 : Int64)  {post : Int32 → HS → Prop} (kk : ∀ (r : Int32) (_ : 0 ≤ r.toInt ∧ r.toInt ≤ 1), post r σ) : F_X12_isLess h0 L a0 a2 post σ := by
  unfold F_X12_isLess
  have k_0 : (0 : Int32).toInt = 0 := rfl
  have k_1 : (1 : Int32).toInt = 1 := rfl
  have kl_1 : (1 : Int64).toInt = 1 := rfl
  have kl_9223372036854775807 : (9223372036854775807 : Int64).toInt = 9223372036854775807 := rfl
  have rg_a0 := l_range a0
  have rg_a2 := l_range a2
  intro z1 ez1
  try have hz1 := l_sub ez1 (by omega) (by omega)
  have rg_z1 := l_range z1
  intro z2 ez2
  try have hz2 := l_sub ez2 (by omega) (by omega)
  have rg_z2 := l_range z2
  intro z3 ez3
  try have hz3 := l_sub ez3 (by omega) (by omega)
  have rg_z3 := l_range z3
  intro z4 ez4
  try have hz4 := l_sub ez4 (by omega) (by omega)
  have rg_z4 := l_range z4
  refine jn_dup ?_
  refine ⟨fun c1 => ?_, fun c1 => ?_⟩
  · (try dsimp only)
    refine ⟨by omega, ?_⟩
    exact kk 0 (by (try dsimp only); omega)
  · (try dsimp only)
    refine ⟨by omega, ?_⟩
    exact kk 1 (by (try dsimp only); omega)
set_option maxRecDepth 100000 in
set_option maxHeartbeats 4000000 in
theorem s_X12_body {h0 : Nat} {L : Nat → Nat} {σ : HS} (hI : OKM h0 L σ) (a1 : Int32) (hz : 0 ≤ a1.toInt ∧ a1.toInt ≤ 1100) {post : HS → Prop} (kk : ∀ (σ' : HS), OKM h0 L σ' → Fr h0 L [91] [76] σ σ' → ((sI σ' h0 91).toInt = 64 + a1.toInt) → post σ') : F_X12_body h0 L a1 post σ := by
  unfold F_X12_body
  have k_0 : (0 : Int32).toInt = 0 := rfl
  have k_1 : (1 : Int32).toInt = 1 := rfl
  have k_64 : (64 : Int32).toInt = 64 := rfl
  have rg_a1 := i_range a1
  have hfr : Fr h0 L [91] [76] σ σ := Fr.rf
  refine lw_in (fun (x : Int32) (σ' : HS) => OKM h0 L σ' ∧ Fr h0 L [91] [76] σ σ' ∧ ((64 ≤ x.toInt ∧ x.toInt ≤ 1164))) (fun (x : Int32) (σ' : HS) => (1164 - x.toInt).toNat) ⟨hI, hfr, (by (try dsimp only); omega)⟩ (fun x1 σ2 hJ K3 hK3 => ?_)
  obtain ⟨hI, hfr, hv⟩ := hJ
  (try dsimp only at hv)
  have rg_x1 := i_range x1
  intro z5 ez5
  try have hz5 := i_add ez5 (by omega) (by omega)
  have rg_z5 := i_range z5
  refine ⟨fun c1 => ?_, fun c1 => ?_⟩
  · intro z6 ez6
    try have hz6 := i_add ez6 (by omega) (by omega)
    have rg_z6 := i_range z6
    intro σ7 eσ7
    have hMp := hI.2
    have hI := hI.pF 91 0 1200 rfl rfl (by omega) eσ7
    have hfr := hfr.fI hMp eσ7 (by decide) rfl
    have uσ7 : (sI σ7 h0 91).toInt = z6.toInt := by rw [eσ7]; exact congrArg Int32.toInt u2_same
    exact kk σ7 hI hfr (by (try dsimp only); omega)
  · intro z8 ez8
    have vz8 := hI.fI 90 0 85000 (by decide) rfl rfl rfl ez8
    have wz8 : z8.toInt = (sI σ2 h0 90).toInt := by rw [ez8]
    intro z9 ez9
    try have hz9 := i_add ez9 (by omega) (by omega)
    have rg_z9 := i_range z9
    refine ⟨by omega, ?_⟩
    intro σ10 eσ10
    have hMp := hI.2
    have hI := hI.pA 76 (-128) 127 (by decide) (by decide) rfl rfl (i_byte _) eσ10
    have hfr := hfr.aI hMp (by decide) eσ10 (by decide)
    intro z11 ez11
    try have hz11 := i_add ez11 (by omega) (by omega)
    have rg_z11 := i_range z11
    exact hK3 z11 σ10 ⟨hI, hfr, (by (try dsimp only); omega)⟩ (by (try dsimp only); omega)
set_option maxRecDepth 100000 in
set_option maxHeartbeats 4000000 in
theorem s_X12_wants {h0 : Nat} {L : Nat → Nat} {σ : HS} (hI : OKM h0 L σ) (a0 : Int32)  {post : Int32 → HS → Prop} (kk : ∀ (r : Int32) (_ : True), post r σ) : F_X12_wants h0 L a0 post σ := by
  unfold F_X12_wants
  have k_0 : (0 : Int32).toInt = 0 := rfl
  have k_1 : (1 : Int32).toInt = 1 := rfl
  have k_2 : (2 : Int32).toInt = 2 := rfl
  have k_4 : (4 : Int32).toInt = 4 := rfl
  have k_6 : (6 : Int32).toInt = 6 := rfl
  have k_33 : (33 : Int32).toInt = 33 := rfl
  have k_65536 : (65536 : Int32).toInt = 65536 := rfl
  have rg_a0 := i_range a0
  intro z1 ez1
  try have hz1 := i_and ez1 (by omega)
  have rg_z1 := i_range z1
  refine jn_in (fun (x : Int32) (σ' : HS) => σ = σ' ∧ ((0 ≤ x.toInt ∧ x.toInt ≤ 1))) (fun x2 σ3 hJ => ?_) (fun K4 hK4 => ?_)
  · obtain ⟨hsg, hv⟩ := hJ
    subst hsg
    (try dsimp only at hv)
    have rg_x2 := i_range x2
    intro z7 ez7
    try have hz7 := i_and ez7 (by omega)
    have rg_z7 := i_range z7
    refine jn_in (fun (x : Int32) (σ' : HS) => σ = σ' ∧ ((0 ≤ x.toInt ∧ x.toInt ≤ 2))) (fun x8 σ9 hJ => ?_) (fun K10 hK10 => ?_)
    · obtain ⟨hsg, hv⟩ := hJ
      subst hsg
      (try dsimp only at hv)
      have rg_x8 := i_range x8
      intro z13 ez13
      try have hz13 := i_orm ez13 (by omega) (by omega)
      try have h2z13 := i_or ez13 (by omega) (by omega)
      have rg_z13 := i_range z13
      intro z14 ez14
      try have hz14 := i_and ez14 (by omega)
      have rg_z14 := i_range z14
      refine jn_dup ?_
      refine ⟨fun c1 => ?_, fun c1 => ?_⟩
      · (try dsimp only)
        intro z20 ez20
        try have hz20 := i_orm ez20 (by omega) (by omega)
        try have h2z20 := i_or ez20 (by omega) (by omega)
        have rg_z20 := i_range z20
        exact kk z20 trivial
      · (try dsimp only)
        intro z20 ez20
        try have hz20 := i_orm ez20 (by omega) (by omega)
        try have h2z20 := i_or ez20 (by omega) (by omega)
        have rg_z20 := i_range z20
        exact kk z20 trivial
    · skip
      refine ⟨fun c2 => ?_, fun c2 => ?_⟩
      · exact hK10 0 σ ⟨rfl, (by (try dsimp only); omega)⟩
      · exact hK10 2 σ ⟨rfl, (by (try dsimp only); omega)⟩
  · skip
    refine ⟨fun c3 => ?_, fun c3 => ?_⟩
    · exact hK4 0 σ ⟨rfl, (by (try dsimp only); omega)⟩
    · exact hK4 1 σ ⟨rfl, (by (try dsimp only); omega)⟩
set_option maxRecDepth 100000 in
set_option maxHeartbeats 4000000 in
theorem s_X12_meant {h0 : Nat} {L : Nat → Nat} {σ : HS} (hI : OKM h0 L σ) (a0 : Int64)  {post : Int32 → HS → Prop} (kk : ∀ (r : Int32) (_ : True), post r σ) : F_X12_meant h0 L a0 post σ := by
  unfold F_X12_meant
  have k_0 : (0 : Int32).toInt = 0 := rfl
  have k_2032127 : (2032127 : Int32).toInt = 2032127 := rfl
  have k_301989888 : (301989888 : Int32).toInt = 301989888 := rfl
  have k_536870912 : (536870912 : Int32).toInt = 536870912 := rfl
  have k_1073741824 : (1073741824 : Int32).toInt = 1073741824 := rfl
  have kl_0 : (0 : Int64).toInt = 0 := rfl
  have kl_1179785 : (1179785 : Int64).toInt = 1179785 := rfl
  have kl_1179808 : (1179808 : Int64).toInt = 1179808 := rfl
  have kl_1179926 : (1179926 : Int64).toInt = 1179926 := rfl
  have kl_2032127 : (2032127 : Int64).toInt = 2032127 := rfl
  have kl_301989888 : (301989888 : Int64).toInt = 301989888 := rfl
  have kl_536870912 : (536870912 : Int64).toInt = 536870912 := rfl
  have kl_1073741824 : (1073741824 : Int64).toInt = 1073741824 := rfl
  have kl_2147483648 : (2147483648 : Int64).toInt = 2147483648 := rfl
  have rg_a0 := l_range a0
  intro z1 ez1
  try have hz1 := l_and ez1 (by omega)
  have rg_z1 := l_range z1
  intro z2 ez2
  try have hz2 := l_and ez2 (by omega)
  have rg_z2 := l_range z2
  refine jn_in (fun (x : Int64) (σ' : HS) => σ = σ' ∧ ((0 ≤ x.toInt ∧ x.toInt ≤ 1179785))) (fun x3 σ4 hJ => ?_) (fun K5 hK5 => ?_)
  · obtain ⟨hsg, hv⟩ := hJ
    subst hsg
    (try dsimp only at hv)
    have rg_x3 := l_range x3
    intro z8 ez8
    have rg_z8 := l_range z8
    intro z9 ez9
    try have hz9 := l_and ez9 (by omega)
    have rg_z9 := l_range z9
    refine jn_in (fun (x : Int64) (σ' : HS) => σ = σ' ∧ ((0 ≤ x.toInt ∧ x.toInt ≤ 1179926))) (fun x10 σ11 hJ => ?_) (fun K12 hK12 => ?_)
    · obtain ⟨hsg, hv⟩ := hJ
      subst hsg
      (try dsimp only at hv)
      have rg_x10 := l_range x10
      intro z15 ez15
      have rg_z15 := l_range z15
      intro z16 ez16
      try have hz16 := l_and ez16 (by omega)
      have rg_z16 := l_range z16
      refine jn_in (fun (x : Int64) (σ' : HS) => σ = σ' ∧ ((0 ≤ x.toInt ∧ x.toInt ≤ 1179808))) (fun x17 σ18 hJ => ?_) (fun K19 hK19 => ?_)
      · obtain ⟨hsg, hv⟩ := hJ
        subst hsg
        (try dsimp only at hv)
        have rg_x17 := l_range x17
        intro z22 ez22
        have rg_z22 := l_range z22
        intro z23 ez23
        try have hz23 := l_and ez23 (by omega)
        have rg_z23 := l_range z23
        refine jn_dup ?_
        refine ⟨fun c1 => ?_, fun c1 => ?_⟩
        · (try dsimp only)
          intro z29 ez29
          have rg_z29 := l_range z29
          intro z30 ez30
          try have hz30 := l_toi ez30 (by omega) (by omega)
          have rg_z30 := i_range z30
          exact kk z30 trivial
        · (try dsimp only)
          intro z29 ez29
          have rg_z29 := l_range z29
          intro z30 ez30
          try have hz30 := l_toi ez30 (by omega) (by omega)
          have rg_z30 := i_range z30
          exact kk z30 trivial
      · skip
        refine ⟨fun c2 => ?_, fun c2 => ?_⟩
        · exact hK19 0 σ ⟨rfl, (by (try dsimp only); omega)⟩
        · exact hK19 1179808 σ ⟨rfl, (by (try dsimp only); omega)⟩
    · skip
      refine ⟨fun c3 => ?_, fun c3 => ?_⟩
      · exact hK12 0 σ ⟨rfl, (by (try dsimp only); omega)⟩
      · exact hK12 1179926 σ ⟨rfl, (by (try dsimp only); omega)⟩
  · skip
    refine ⟨fun c4 => ?_, fun c4 => ?_⟩
    · exact hK5 0 σ ⟨rfl, (by (try dsimp only); omega)⟩
    · exact hK5 1179785 σ ⟨rfl, (by (try dsimp only); omega)⟩
set_option maxRecDepth 100000 in
set_option maxHeartbeats 4000000 in
theorem s_X12_isNameUnit {h0 : Nat} {L : Nat → Nat} {σ : HS} (hI : OKM h0 L σ) (a0 : Int32)  {post : Int32 → HS → Prop} (kk : ∀ (r : Int32) (_ : 0 ≤ r.toInt ∧ r.toInt ≤ 1), post r σ) : F_X12_isNameUnit h0 L a0 post σ := by
  unfold F_X12_isNameUnit
  have k_0 : (0 : Int32).toInt = 0 := rfl
  have k_1 : (1 : Int32).toInt = 1 := rfl
  have k_32 : (32 : Int32).toInt = 32 := rfl
  have k_34 : (34 : Int32).toInt = 34 := rfl
  have k_42 : (42 : Int32).toInt = 42 := rfl
  have k_47 : (47 : Int32).toInt = 47 := rfl
  have k_58 : (58 : Int32).toInt = 58 := rfl
  have k_60 : (60 : Int32).toInt = 60 := rfl
  have k_62 : (62 : Int32).toInt = 62 := rfl
  have k_63 : (63 : Int32).toInt = 63 := rfl
  have k_92 : (92 : Int32).toInt = 92 := rfl
  have k_124 : (124 : Int32).toInt = 124 := rfl
  have k_126 : (126 : Int32).toInt = 126 := rfl
  have rg_a0 := i_range a0
  refine jn_dup ?_
  refine jn_dup ?_
  refine ⟨fun c1 => ?_, fun c1 => ?_⟩
  · (try dsimp only)
    (try dsimp only)
    refine ⟨by omega, ?_⟩
    exact kk 0 (by (try dsimp only); omega)
  · refine ⟨fun c2 => ?_, fun c2 => ?_⟩
    · (try dsimp only)
      (try dsimp only)
      refine ⟨by omega, ?_⟩
      exact kk 0 (by (try dsimp only); omega)
    · refine ⟨fun c3 => ?_, fun c3 => ?_⟩
      · (try dsimp only)
        (try dsimp only)
        refine ⟨by omega, ?_⟩
        exact kk 0 (by (try dsimp only); omega)
      · refine ⟨fun c4 => ?_, fun c4 => ?_⟩
        · (try dsimp only)
          (try dsimp only)
          refine ⟨by omega, ?_⟩
          exact kk 0 (by (try dsimp only); omega)
        · refine ⟨fun c5 => ?_, fun c5 => ?_⟩
          · (try dsimp only)
            (try dsimp only)
            refine ⟨by omega, ?_⟩
            exact kk 0 (by (try dsimp only); omega)
          · refine ⟨fun c6 => ?_, fun c6 => ?_⟩
            · (try dsimp only)
              (try dsimp only)
              refine ⟨by omega, ?_⟩
              exact kk 0 (by (try dsimp only); omega)
            · refine ⟨fun c7 => ?_, fun c7 => ?_⟩
              · (try dsimp only)
                (try dsimp only)
                refine ⟨by omega, ?_⟩
                exact kk 0 (by (try dsimp only); omega)
              · refine ⟨fun c8 => ?_, fun c8 => ?_⟩
                · (try dsimp only)
                  (try dsimp only)
                  refine ⟨by omega, ?_⟩
                  exact kk 0 (by (try dsimp only); omega)
                · refine ⟨fun c9 => ?_, fun c9 => ?_⟩
                  · (try dsimp only)
                    (try dsimp only)
                    refine ⟨by omega, ?_⟩
                    exact kk 0 (by (try dsimp only); omega)
                  · refine ⟨fun c10 => ?_, fun c10 => ?_⟩
                    · (try dsimp only)
                      (try dsimp only)
                      refine ⟨by omega, ?_⟩
                      exact kk 0 (by (try dsimp only); omega)
                    · refine ⟨fun c11 => ?_, fun c11 => ?_⟩
                      · (try dsimp only)
                        (try dsimp only)
                        refine ⟨by omega, ?_⟩
                        exact kk 0 (by (try dsimp only); omega)
                      · (try dsimp only)
                        refine ⟨by omega, ?_⟩
                        exact kk 1 (by (try dsimp only); omega)
set_option maxRecDepth 100000 in
set_option maxHeartbeats 4000000 in
theorem s_X12_meet {h0 : Nat} {L : Nat → Nat} {σ : HS} (hI : OKM h0 L σ) (a0 : Int64) (a2 : Int64) (a4 : Int64) (a6 : Int64)  {post : Int32 → HS → Prop} (kk : ∀ (r : Int32) (_ : 0 ≤ r.toInt ∧ r.toInt ≤ 1), post r σ) : F_X12_meet h0 L a0 a2 a4 a6 post σ := by
  unfold F_X12_meet
  have k_0 : (0 : Int32).toInt = 0 := rfl
  have k_1 : (1 : Int32).toInt = 1 := rfl
  have kl_m1 : ((-1) : Int64).toInt = (-1) := rfl
  have kl_0 : (0 : Int64).toInt = 0 := rfl
  have kl_1 : (1 : Int64).toInt = 1 := rfl
  have rg_a0 := l_range a0
  have rg_a2 := l_range a2
  have rg_a4 := l_range a4
  have rg_a6 := l_range a6
  refine jn_dup ?_
  refine ⟨fun c1 => ?_, fun c1 => ?_⟩
  · (try dsimp only)
    refine ⟨by omega, ?_⟩
    exact kk 0 (by (try dsimp only); omega)
  · refine ⟨fun c2 => ?_, fun c2 => ?_⟩
    · intro z6 ez6
      try have hz6 := l_add ez6 (by omega) (by omega)
      have rg_z6 := l_range z6
      intro z7 ez7
      try have hz7 := l_sub ez7 (by omega) (by omega)
      have rg_z7 := l_range z7
      intro z8 ez8
      try have hz8 := l_add ez8 (by omega) (by omega)
      have rg_z8 := l_range z8
      intro z9 ez9
      try have hz9 := l_sub ez9 (by omega) (by omega)
      have rg_z9 := l_range z9
      refine s_X12_isLess hI z7 a0  (fun z11 pz11 => ?_)
      have rg_z11 := i_range z11
      refine jn_in (fun (x : Int64) (σ' : HS) => σ = σ' ∧ (True)) (fun x12 σ13 hJ => ?_) (fun K14 hK14 => ?_)
      · obtain ⟨hsg, hv⟩ := hJ
        subst hsg
        (try dsimp only at hv)
        have rg_x12 := l_range x12
        refine s_X12_isLess hI z9 a4  (fun z18 pz18 => ?_)
        have rg_z18 := i_range z18
        refine jn_in (fun (x : Int64) (σ' : HS) => σ = σ' ∧ (True)) (fun x19 σ20 hJ => ?_) (fun K21 hK21 => ?_)
        · obtain ⟨hsg, hv⟩ := hJ
          subst hsg
          (try dsimp only at hv)
          have rg_x19 := l_range x19
          refine s_X12_isLess hI x19 a0  (fun z25 pz25 => ?_)
          have rg_z25 := i_range z25
          refine jn_dup ?_
          refine jn_dup ?_
          refine ⟨fun c3 => ?_, fun c3 => ?_⟩
          · (try dsimp only)
            (try dsimp only)
            refine ⟨by omega, ?_⟩
            exact kk 0 (by (try dsimp only); omega)
          · refine s_X12_isLess hI x12 a4  (fun z37 pz37 => ?_)
            have rg_z37 := i_range z37
            refine ⟨fun c4 => ?_, fun c4 => ?_⟩
            · (try dsimp only)
              (try dsimp only)
              refine ⟨by omega, ?_⟩
              exact kk 0 (by (try dsimp only); omega)
            · (try dsimp only)
              refine ⟨by omega, ?_⟩
              exact kk 1 (by (try dsimp only); omega)
        · skip
          refine ⟨fun c5 => ?_, fun c5 => ?_⟩
          · exact hK21 z9 σ ⟨rfl, trivial⟩
          · exact hK21 (-1) σ ⟨rfl, trivial⟩
      · skip
        refine ⟨fun c6 => ?_, fun c6 => ?_⟩
        · exact hK14 z7 σ ⟨rfl, trivial⟩
        · exact hK14 (-1) σ ⟨rfl, trivial⟩
    · (try dsimp only)
      refine ⟨by omega, ?_⟩
      exact kk 0 (by (try dsimp only); omega)

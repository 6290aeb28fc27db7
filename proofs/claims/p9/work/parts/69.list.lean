/-! lists of the reference -/
set_option maxRecDepth 100000 in
set_option maxHeartbeats 4000000 in
theorem s_X12_against {h0 : Nat} {L : Nat → Nat} {σ : HS} (hI : OKM h0 L σ) (a1 : Int32) (a2 : Int32) (hz : 0 ≤ a1.toInt ∧ a1.toInt < 160 ∧ 0 ≤ a2.toInt ∧ a2.toInt < 40) {post : Int32 → HS → Prop} (kk : ∀ (r : Int32) (_ : True), post r σ) : F_X12_against h0 L a1 a2 post σ := by
  unfold F_X12_against
  have k_0 : (0 : Int32).toInt = 0 := rfl
  have k_1 : (1 : Int32).toInt = 1 := rfl
  have k_12 : (12 : Int32).toInt = 12 := rfl
  have rg_a1 := i_range a1
  have rg_a2 := i_range a2
  refine lw_in (fun (x : Int32) (σ' : HS) => σ = σ' ∧ ((0 ≤ x.toInt ∧ x.toInt ≤ 12))) (fun (x : Int32) (σ' : HS) => (13 - x.toInt).toNat) ⟨rfl, (by (try dsimp only); omega)⟩ (fun x1 σ2 hJ K3 hK3 => ?_)
  obtain ⟨hsg, hv⟩ := hJ
  subst hsg
  (try dsimp only at hv)
  have rg_x1 := i_range x1
  refine ⟨by omega, ?_⟩
  intro z5 ez5
  have vz5 := hI.aI 5 160 0 12 (by decide) (by decide) rfl rfl rfl (i := a1.toInt) (by omega) ez5
  have wz5 : z5.toInt = (sI σ (L 5) a1.toInt.toNat).toInt := by rw [ez5]
  refine jn_dup ?_
  refine ⟨fun c1 => ?_, fun c1 => ?_⟩
  · (try dsimp only)
    refine ⟨by omega, ?_⟩
    intro z11 ez11
    have vz11 := hI.aI 5 160 0 12 (by decide) (by decide) rfl rfl rfl (i := a1.toInt) (by omega) ez11
    have wz11 : z11.toInt = (sI σ (L 5) a1.toInt.toNat).toInt := by rw [ez11]
    refine ⟨by omega, ?_⟩
    intro z12 ez12
    have vz12 := hI.aI 55 40 0 12 (by decide) (by decide) rfl rfl rfl (i := a2.toInt) (by omega) ez12
    have wz12 : z12.toInt = (sI σ (L 55) a2.toInt.toNat).toInt := by rw [ez12]
    intro z13 ez13
    try have hz13 := i_sub ez13 (by omega) (by omega)
    have rg_z13 := i_range z13
    exact kk z13 trivial
  · refine ⟨by omega, ?_⟩
    intro z14 ez14
    have vz14 := hI.aI 55 40 0 12 (by decide) (by decide) rfl rfl rfl (i := a2.toInt) (by omega) ez14
    have wz14 : z14.toInt = (sI σ (L 55) a2.toInt.toNat).toInt := by rw [ez14]
    refine ⟨fun c2 => ?_, fun c2 => ?_⟩
    · (try dsimp only)
      refine ⟨by omega, ?_⟩
      intro z11 ez11
      have vz11 := hI.aI 5 160 0 12 (by decide) (by decide) rfl rfl rfl (i := a1.toInt) (by omega) ez11
      have wz11 : z11.toInt = (sI σ (L 5) a1.toInt.toNat).toInt := by rw [ez11]
      refine ⟨by omega, ?_⟩
      intro z12 ez12
      have vz12 := hI.aI 55 40 0 12 (by decide) (by decide) rfl rfl rfl (i := a2.toInt) (by omega) ez12
      have wz12 : z12.toInt = (sI σ (L 55) a2.toInt.toNat).toInt := by rw [ez12]
      intro z13 ez13
      try have hz13 := i_sub ez13 (by omega) (by omega)
      have rg_z13 := i_range z13
      exact kk z13 trivial
    · intro z15 ez15
      try have hz15 := i_mulk 12 rfl ez15 (by omega) (by omega)
      have rg_z15 := i_range z15
      intro z16 ez16
      try have hz16 := i_add ez16 (by omega) (by omega)
      have rg_z16 := i_range z16
      refine ⟨by omega, ?_⟩
      intro z17 ez17
      have vz17 := hI.aI 4 1920 (-128) 127 (by decide) (by decide) rfl rfl rfl (i := z16.toInt) (by omega) ez17
      have wz17 : z17.toInt = (sI σ (L 4) z16.toInt.toNat).toInt := by rw [ez17]
      refine s_X12_folded hI z17  (fun z19 pz19 => ?_)
      have rg_z19 := i_range z19
      intro z20 ez20
      try have hz20 := i_mulk 12 rfl ez20 (by omega) (by omega)
      have rg_z20 := i_range z20
      intro z21 ez21
      try have hz21 := i_add ez21 (by omega) (by omega)
      have rg_z21 := i_range z21
      refine ⟨by omega, ?_⟩
      intro z22 ez22
      have vz22 := hI.aI 54 480 (-128) 127 (by decide) (by decide) rfl rfl rfl (i := z21.toInt) (by omega) ez22
      have wz22 : z22.toInt = (sI σ (L 54) z21.toInt.toNat).toInt := by rw [ez22]
      refine s_X12_folded hI z22  (fun z24 pz24 => ?_)
      have rg_z24 := i_range z24
      intro z25 ez25
      try have hz25 := i_sub ez25 (by omega) (by omega)
      have rg_z25 := i_range z25
      refine ⟨fun c3 => ?_, fun c3 => ?_⟩
      · intro z26 ez26
        try have hz26 := i_add ez26 (by omega) (by omega)
        have rg_z26 := i_range z26
        exact hK3 z26 σ ⟨rfl, (by (try dsimp only); omega)⟩ (by (try dsimp only); omega)
      · exact kk z25 trivial
set_option maxRecDepth 100000 in
set_option maxHeartbeats 4000000 in
theorem s_X12_between {h0 : Nat} {L : Nat → Nat} {σ : HS} (hI : OKM h0 L σ) (a1 : Int32) (a2 : Int32) (hz : 0 ≤ a1.toInt ∧ a1.toInt < 160 ∧ 0 ≤ a2.toInt ∧ a2.toInt < 160) {post : Int32 → HS → Prop} (kk : ∀ (r : Int32) (_ : True), post r σ) : F_X12_between h0 L a1 a2 post σ := by
  unfold F_X12_between
  have k_0 : (0 : Int32).toInt = 0 := rfl
  have k_1 : (1 : Int32).toInt = 1 := rfl
  have k_12 : (12 : Int32).toInt = 12 := rfl
  have rg_a1 := i_range a1
  have rg_a2 := i_range a2
  refine lw_in (fun (x : Int32) (σ' : HS) => σ = σ' ∧ ((0 ≤ x.toInt ∧ x.toInt ≤ 12))) (fun (x : Int32) (σ' : HS) => (13 - x.toInt).toNat) ⟨rfl, (by (try dsimp only); omega)⟩ (fun x1 σ2 hJ K3 hK3 => ?_)
  obtain ⟨hsg, hv⟩ := hJ
  subst hsg
  (try dsimp only at hv)
  have rg_x1 := i_range x1
  refine ⟨by omega, ?_⟩
  intro z5 ez5
  have vz5 := hI.aI 5 160 0 12 (by decide) (by decide) rfl rfl rfl (i := a1.toInt) (by omega) ez5
  have wz5 : z5.toInt = (sI σ (L 5) a1.toInt.toNat).toInt := by rw [ez5]
  refine jn_dup ?_
  refine ⟨fun c1 => ?_, fun c1 => ?_⟩
  · (try dsimp only)
    refine ⟨by omega, ?_⟩
    intro z11 ez11
    have vz11 := hI.aI 5 160 0 12 (by decide) (by decide) rfl rfl rfl (i := a1.toInt) (by omega) ez11
    have wz11 : z11.toInt = (sI σ (L 5) a1.toInt.toNat).toInt := by rw [ez11]
    refine ⟨by omega, ?_⟩
    intro z12 ez12
    have vz12 := hI.aI 5 160 0 12 (by decide) (by decide) rfl rfl rfl (i := a2.toInt) (by omega) ez12
    have wz12 : z12.toInt = (sI σ (L 5) a2.toInt.toNat).toInt := by rw [ez12]
    intro z13 ez13
    try have hz13 := i_sub ez13 (by omega) (by omega)
    have rg_z13 := i_range z13
    exact kk z13 trivial
  · refine ⟨by omega, ?_⟩
    intro z14 ez14
    have vz14 := hI.aI 5 160 0 12 (by decide) (by decide) rfl rfl rfl (i := a2.toInt) (by omega) ez14
    have wz14 : z14.toInt = (sI σ (L 5) a2.toInt.toNat).toInt := by rw [ez14]
    refine ⟨fun c2 => ?_, fun c2 => ?_⟩
    · (try dsimp only)
      refine ⟨by omega, ?_⟩
      intro z11 ez11
      have vz11 := hI.aI 5 160 0 12 (by decide) (by decide) rfl rfl rfl (i := a1.toInt) (by omega) ez11
      have wz11 : z11.toInt = (sI σ (L 5) a1.toInt.toNat).toInt := by rw [ez11]
      refine ⟨by omega, ?_⟩
      intro z12 ez12
      have vz12 := hI.aI 5 160 0 12 (by decide) (by decide) rfl rfl rfl (i := a2.toInt) (by omega) ez12
      have wz12 : z12.toInt = (sI σ (L 5) a2.toInt.toNat).toInt := by rw [ez12]
      intro z13 ez13
      try have hz13 := i_sub ez13 (by omega) (by omega)
      have rg_z13 := i_range z13
      exact kk z13 trivial
    · intro z15 ez15
      try have hz15 := i_mulk 12 rfl ez15 (by omega) (by omega)
      have rg_z15 := i_range z15
      intro z16 ez16
      try have hz16 := i_add ez16 (by omega) (by omega)
      have rg_z16 := i_range z16
      refine ⟨by omega, ?_⟩
      intro z17 ez17
      have vz17 := hI.aI 4 1920 (-128) 127 (by decide) (by decide) rfl rfl rfl (i := z16.toInt) (by omega) ez17
      have wz17 : z17.toInt = (sI σ (L 4) z16.toInt.toNat).toInt := by rw [ez17]
      refine s_X12_folded hI z17  (fun z19 pz19 => ?_)
      have rg_z19 := i_range z19
      intro z20 ez20
      try have hz20 := i_mulk 12 rfl ez20 (by omega) (by omega)
      have rg_z20 := i_range z20
      intro z21 ez21
      try have hz21 := i_add ez21 (by omega) (by omega)
      have rg_z21 := i_range z21
      refine ⟨by omega, ?_⟩
      intro z22 ez22
      have vz22 := hI.aI 4 1920 (-128) 127 (by decide) (by decide) rfl rfl rfl (i := z21.toInt) (by omega) ez22
      have wz22 : z22.toInt = (sI σ (L 4) z21.toInt.toNat).toInt := by rw [ez22]
      refine s_X12_folded hI z22  (fun z24 pz24 => ?_)
      have rg_z24 := i_range z24
      intro z25 ez25
      try have hz25 := i_sub ez25 (by omega) (by omega)
      have rg_z25 := i_range z25
      refine ⟨fun c3 => ?_, fun c3 => ?_⟩
      · intro z26 ez26
        try have hz26 := i_add ez26 (by omega) (by omega)
        have rg_z26 := i_range z26
        exact hK3 z26 σ ⟨rfl, (by (try dsimp only); omega)⟩ (by (try dsimp only); omega)
      · exact kk z25 trivial
set_option maxRecDepth 100000 in
set_option maxHeartbeats 4000000 in
theorem s_X12_matches {h0 : Nat} {L : Nat → Nat} {σ : HS} (hI : OKM h0 L σ) (a1 : Int32) (a2 : Int32) (a3 : Int32) (hz : 0 ≤ a1.toInt ∧ a1.toInt < 40 ∧ 0 ≤ a2.toInt ∧ a2.toInt < 160 ∧ a3.toInt ≤ 2) {post : Int32 → HS → Prop} (kk : ∀ (r : Int32) (_ : 0 ≤ r.toInt ∧ r.toInt ≤ 1), post r σ) : F_X12_matches h0 L a1 a2 a3 post σ := by
  unfold F_X12_matches
  have k_m1 : ((-1) : Int32).toInt = (-1) := rfl
  have k_0 : (0 : Int32).toInt = 0 := rfl
  have k_1 : (1 : Int32).toInt = 1 := rfl
  have k_12 : (12 : Int32).toInt = 12 := rfl
  have k_20 : (20 : Int32).toInt = 20 := rfl
  have k_42 : (42 : Int32).toInt = 42 := rfl
  have k_46 : (46 : Int32).toInt = 46 := rfl
  have k_63 : (63 : Int32).toInt = 63 := rfl
  have rg_a1 := i_range a1
  have rg_a2 := i_range a2
  have rg_a3 := i_range a3
  refine jn_in (fun (x : Int32) (σ' : HS) => σ = σ' ∧ ((0 ≤ x.toInt ∧ x.toInt ≤ 12))) (fun x1 σ2 hJ => ?_) (fun K3 hK3 => ?_)
  · obtain ⟨hsg, hv⟩ := hJ
    subst hsg
    (try dsimp only at hv)
    have rg_x1 := i_range x1
    refine lw_in (fun (x : Int32 × Int32 × Int32 × Int32) (σ' : HS) => σ = σ' ∧ ((0 ≤ x.1.toInt ∧ x.1.toInt ≤ 12) ∧ (-1 ≤ x.2.1.toInt ∧ x.2.1.toInt ≤ 19) ∧ (0 ≤ x.2.2.1.toInt ∧ x.2.2.1.toInt ≤ 12) ∧ (0 ≤ x.2.2.2.toInt ∧ x.2.2.2.toInt ≤ 40) ∧ (x.1.toInt ≤ x.2.2.1.toInt) ∧ (x.2.2.1.toInt ≤ x1.toInt) ∧ (x.2.1.toInt < x.2.2.2.toInt) ∧ (x.2.2.2.toInt ≤ 20 + x.2.2.1.toInt))) (fun (x : Int32 × Int32 × Int32 × Int32) (σ' : HS) => ((20 - x.2.1.toInt) * 400 + (13 - x.1.toInt) * 20 + (13 - x.2.2.1.toInt)).toNat) ⟨rfl, (by (try dsimp only); omega)⟩ (fun x6 σ7 hJ K8 hK8 => ?_)
    obtain ⟨hsg, hv⟩ := hJ
    subst hsg
    (try dsimp only at hv)
    have rg_x6_1 := i_range x6.1
    have rg_x6_2_1 := i_range x6.2.1
    have rg_x6_2_2_1 := i_range x6.2.2.1
    have rg_x6_2_2_2 := i_range x6.2.2.2
    refine ⟨fun c1 => ?_, fun c1 => ?_⟩
    · refine lw_in (fun (x : Int32) (σ' : HS) => σ = σ' ∧ ((0 ≤ x.toInt ∧ x.toInt ≤ 40))) (fun (x : Int32) (σ' : HS) => (60 - x.toInt).toNat) ⟨rfl, (by (try dsimp only); omega)⟩ (fun x10 σ11 hJ K12 hK12 => ?_)
      obtain ⟨hsg, hv⟩ := hJ
      subst hsg
      (try dsimp only at hv)
      have rg_x10 := i_range x10
      refine ⟨by omega, ?_⟩
      intro z14 ez14
      have vz14 := hI.aI 51 40 (-1) 20 (by decide) (by decide) rfl rfl rfl (i := a1.toInt) (by omega) ez14
      have wz14 : z14.toInt = (sI σ (L 51) a1.toInt.toNat).toInt := by rw [ez14]
      refine jn_dup ?_
      refine ⟨fun c2 => ?_, fun c2 => ?_⟩
      · (try dsimp only)
        refine ⟨by omega, ?_⟩
        intro z20 ez20
        have vz20 := hI.aI 51 40 (-1) 20 (by decide) (by decide) rfl rfl rfl (i := a1.toInt) (by omega) ez20
        have wz20 : z20.toInt = (sI σ (L 51) a1.toInt.toNat).toInt := by rw [ez20]
        refine jn_dup ?_
        refine ⟨fun c3 => ?_, fun c3 => ?_⟩
        · (try dsimp only)
          refine ⟨by omega, ?_⟩
          exact kk 0 (by (try dsimp only); omega)
        · (try dsimp only)
          refine ⟨by omega, ?_⟩
          exact kk 1 (by (try dsimp only); omega)
      · intro z26 ez26
        try have hz26 := i_mulk 20 rfl ez26 (by omega) (by omega)
        have rg_z26 := i_range z26
        intro z27 ez27
        try have hz27 := i_add ez27 (by omega) (by omega)
        have rg_z27 := i_range z27
        refine ⟨by omega, ?_⟩
        intro z28 ez28
        have vz28 := hI.aI 52 800 0 65535 (by decide) (by decide) rfl rfl rfl (i := z27.toInt) (by omega) ez28
        have wz28 : z28.toInt = (sI σ (L 52) z27.toInt.toNat).toInt := by rw [ez28]
        refine ⟨fun c4 => ?_, fun c4 => ?_⟩
        · (try dsimp only)
          refine ⟨by omega, ?_⟩
          intro z20 ez20
          have vz20 := hI.aI 51 40 (-1) 20 (by decide) (by decide) rfl rfl rfl (i := a1.toInt) (by omega) ez20
          have wz20 : z20.toInt = (sI σ (L 51) a1.toInt.toNat).toInt := by rw [ez20]
          refine jn_dup ?_
          refine ⟨fun c5 => ?_, fun c5 => ?_⟩
          · (try dsimp only)
            refine ⟨by omega, ?_⟩
            exact kk 0 (by (try dsimp only); omega)
          · (try dsimp only)
            refine ⟨by omega, ?_⟩
            exact kk 1 (by (try dsimp only); omega)
        · intro z29 ez29
          try have hz29 := i_add ez29 (by omega) (by omega)
          have rg_z29 := i_range z29
          exact hK12 z29 σ ⟨rfl, (by (try dsimp only); omega)⟩ (by (try dsimp only); omega)
    · refine jn_in (fun (x : Int32) (σ' : HS) => σ = σ' ∧ (True)) (fun x30 σ31 hJ => ?_) (fun K32 hK32 => ?_)
      · obtain ⟨hsg, hv⟩ := hJ
        subst hsg
        (try dsimp only at hv)
        have rg_x30 := i_range x30
        refine ⟨by omega, ?_⟩
        intro z35 ez35
        have vz35 := hI.aI 51 40 (-1) 20 (by decide) (by decide) rfl rfl rfl (i := a1.toInt) (by omega) ez35
        have wz35 : z35.toInt = (sI σ (L 51) a1.toInt.toNat).toInt := by rw [ez35]
        refine jn_in (fun (x : Int32) (σ' : HS) => σ = σ' ∧ ((x.toInt ≠ -1 → x6.2.2.2.toInt < 20))) (fun x36 σ37 hJ => ?_) (fun K38 hK38 => ?_)
        · obtain ⟨hsg, hv⟩ := hJ
          subst hsg
          (try dsimp only at hv)
          have rg_x36 := i_range x36
          refine jn_dup ?_
          refine ⟨fun c6 => ?_, fun c6 => ?_⟩
          · refine jn_dup ?_
            refine ⟨fun c7 => ?_, fun c7 => ?_⟩
            · (try dsimp only)
              intro z51 ez51
              try have hz51 := i_add ez51 (by omega) (by omega)
              have rg_z51 := i_range z51
              intro z52 ez52
              try have hz52 := i_add ez52 (by omega) (by omega)
              have rg_z52 := i_range z52
              (try dsimp only)
              exact hK8 (x6.1, x6.2.1, z52, z51) σ ⟨rfl, (by (try dsimp only); omega)⟩ (by (try dsimp only); omega)
            · refine ⟨fun c8 => ?_, fun c8 => ?_⟩
              · refine ⟨fun c9 => ?_, fun c9 => ?_⟩
                · refine ⟨by omega, ?_⟩
                  exact kk 0 (by (try dsimp only); omega)
                · intro z53 ez53
                  try have hz53 := i_add ez53 (by omega) (by omega)
                  have rg_z53 := i_range z53
                  intro z54 ez54
                  try have hz54 := i_add ez54 (by omega) (by omega)
                  have rg_z54 := i_range z54
                  (try dsimp only)
                  exact hK8 (z53, x6.2.1, z53, z54) σ ⟨rfl, (by (try dsimp only); omega)⟩ (by (try dsimp only); omega)
              · (try dsimp only)
                intro z51 ez51
                try have hz51 := i_add ez51 (by omega) (by omega)
                have rg_z51 := i_range z51
                intro z52 ez52
                try have hz52 := i_add ez52 (by omega) (by omega)
                have rg_z52 := i_range z52
                (try dsimp only)
                exact hK8 (x6.1, x6.2.1, z52, z51) σ ⟨rfl, (by (try dsimp only); omega)⟩ (by (try dsimp only); omega)
          · intro z55 ez55
            try have hz55 := i_add ez55 (by omega) (by omega)
            have rg_z55 := i_range z55
            (try dsimp only)
            exact hK8 (x6.2.2.1, x6.2.2.2, x6.2.2.1, z55) σ ⟨rfl, (by (try dsimp only); omega)⟩ (by (try dsimp only); omega)
        · skip
          refine ⟨fun c10 => ?_, fun c10 => ?_⟩
          · exact hK38 (-1) σ ⟨rfl, (by (try dsimp only); omega)⟩
          · intro z56 ez56
            try have hz56 := i_mulk 20 rfl ez56 (by omega) (by omega)
            have rg_z56 := i_range z56
            intro z57 ez57
            try have hz57 := i_add ez57 (by omega) (by omega)
            have rg_z57 := i_range z57
            refine ⟨by omega, ?_⟩
            intro z58 ez58
            have vz58 := hI.aI 52 800 0 65535 (by decide) (by decide) rfl rfl rfl (i := z57.toInt) (by omega) ez58
            have wz58 : z58.toInt = (sI σ (L 52) z57.toInt.toNat).toInt := by rw [ez58]
            refine s_X12_folded hI z58  (fun z60 pz60 => ?_)
            have rg_z60 := i_range z60
            exact hK38 z60 σ ⟨rfl, (by (try dsimp only); omega)⟩
      · skip
        refine ⟨fun c11 => ?_, fun c11 => ?_⟩
        · intro z61 ez61
          try have hz61 := i_mulk 12 rfl ez61 (by omega) (by omega)
          have rg_z61 := i_range z61
          intro z62 ez62
          try have hz62 := i_add ez62 (by omega) (by omega)
          have rg_z62 := i_range z62
          refine ⟨by omega, ?_⟩
          intro z63 ez63
          have vz63 := hI.aI 4 1920 (-128) 127 (by decide) (by decide) rfl rfl rfl (i := z62.toInt) (by omega) ez63
          have wz63 : z63.toInt = (sI σ (L 4) z62.toInt.toNat).toInt := by rw [ez63]
          refine s_X12_folded hI z63  (fun z65 pz65 => ?_)
          have rg_z65 := i_range z65
          exact hK32 z65 σ ⟨rfl, trivial⟩
        · exact hK32 46 σ ⟨rfl, trivial⟩
  · skip
    refine ⟨fun c12 => ?_, fun c12 => ?_⟩
    · refine ⟨by omega, ?_⟩
      intro z66 ez66
      have vz66 := hI.aI 5 160 0 12 (by decide) (by decide) rfl rfl rfl (i := a2.toInt) (by omega) ez66
      have wz66 : z66.toInt = (sI σ (L 5) a2.toInt.toNat).toInt := by rw [ez66]
      exact hK3 z66 σ ⟨rfl, (by (try dsimp only); omega)⟩
    · exact hK3 a3 σ ⟨rfl, (by (try dsimp only); omega)⟩
set_option maxRecDepth 100000 in
set_option maxHeartbeats 4000000 in
theorem s_X12_findNext {h0 : Nat} {L : Nat → Nat} {σ : HS} (hI : OKM h0 L σ) (a1 : Int32) (hz : 0 ≤ a1.toInt ∧ a1.toInt < 40) {post : Int32 → HS → Prop} (kk : ∀ (r : Int32) (σ' : HS), OKM h0 L σ' → Fr h0 L [118, 119] [] σ σ' → ((0 ≤ r.toInt ∧ r.toInt ≤ 1) ∧ (r.toInt = 1 → 0 ≤ (sI σ' h0 119).toInt)) → post r σ') : F_X12_findNext h0 L a1 post σ := by
  unfold F_X12_findNext
  have k_m1 : ((-1) : Int32).toInt = (-1) := rfl
  have k_0 : (0 : Int32).toInt = 0 := rfl
  have k_1 : (1 : Int32).toInt = 1 := rfl
  have k_2 : (2 : Int32).toInt = 2 := rfl
  have k_3 : (3 : Int32).toInt = 3 := rfl
  have k_80 : (80 : Int32).toInt = 80 := rfl
  have rg_a1 := i_range a1
  have hfr : Fr h0 L [118, 119] [] σ σ := Fr.rf
  refine ⟨by omega, ?_⟩
  intro z1 ez1
  have vz1 := hI.aI 43 40 0 79 (by decide) (by decide) rfl rfl rfl (i := a1.toInt) (by omega) ez1
  have wz1 : z1.toInt = (sI σ (L 43) a1.toInt.toNat).toInt := by rw [ez1]
  refine ⟨by omega, ?_⟩
  intro z2 ez2
  have vz2 := hI.aI 53 40 0 3 (by decide) (by decide) rfl rfl rfl (i := a1.toInt) (by omega) ez2
  have wz2 : z2.toInt = (sI σ (L 53) a1.toInt.toNat).toInt := by rw [ez2]
  refine jn_in (fun (x : Unit) (σ' : HS) => OKM h0 L σ' ∧ Fr h0 L [118, 119] [] σ σ' ∧ (True)) (fun x3 σ4 hJ => ?_) (fun K5 hK5 => ?_)
  · obtain ⟨hI, hfr, hv⟩ := hJ
    (try dsimp only at hv)
    refine ⟨by omega, ?_⟩
    intro z8 ez8
    have vz8 := hI.aI 53 40 0 3 (by decide) (by decide) rfl rfl rfl (i := a1.toInt) (by omega) ez8
    have wz8 : z8.toInt = (sI σ4 (L 53) a1.toInt.toNat).toInt := by rw [ez8]
    refine jn_in (fun (x : Unit) (σ' : HS) => OKM h0 L σ' ∧ Fr h0 L [118, 119] [] σ σ' ∧ (True)) (fun x9 σ10 hJ => ?_) (fun K11 hK11 => ?_)
    · obtain ⟨hI, hfr, hv⟩ := hJ
      (try dsimp only at hv)
      refine lw_in (fun (x : Int32 × Int32) (σ' : HS) => OKM h0 L σ' ∧ Fr h0 L [118, 119] [] σ σ' ∧ ((0 ≤ x.1.toInt ∧ x.1.toInt ≤ 80) ∧ (-1 ≤ x.2.toInt ∧ x.2.toInt ≤ 79))) (fun (x : Int32 × Int32) (σ' : HS) => (80 - x.1.toInt).toNat) ⟨hI, hfr, (by (try dsimp only); omega)⟩ (fun x14 σ15 hJ K16 hK16 => ?_)
      obtain ⟨hI, hfr, hv⟩ := hJ
      (try dsimp only at hv)
      have rg_x14_1 := i_range x14.1
      have rg_x14_2 := i_range x14.2
      refine ⟨fun c1 => ?_, fun c1 => ?_⟩
      · intro σ18 eσ18
        have hMp := hI.2
        have hI := hI.pF 118 0 3 rfl rfl (by omega) eσ18
        have hfr := hfr.fI hMp eσ18 (by decide) rfl
        have uσ18 : (sI σ18 h0 118).toInt = (3 : Int32).toInt := by rw [eσ18]; exact congrArg Int32.toInt u2_same
        have f1σ18 : Fr h0 L [118] [] σ15 σ18 := Fr.rf.fI hMp eσ18 (by decide) rfl
        have tk1 : (sI σ18 h0 119).toInt = (sI σ15 h0 119).toInt := by rw [(f1σ18.1 119 (by decide)).1]
        intro σ19 eσ19
        have hMp := hI.2
        have hI := hI.pF 119 (-1) 79 rfl rfl (by omega) eσ19
        have hfr := hfr.fI hMp eσ19 (by decide) rfl
        have uσ19 : (sI σ19 h0 119).toInt = x14.2.toInt := by rw [eσ19]; exact congrArg Int32.toInt u2_same
        have f1σ19 : Fr h0 L [119] [] σ18 σ19 := Fr.rf.fI hMp eσ19 (by decide) rfl
        refine jn_dup ?_
        refine ⟨fun c2 => ?_, fun c2 => ?_⟩
        · (try dsimp only)
          refine ⟨by omega, ?_⟩
          exact kk 0 σ19 hI hfr (by (try dsimp only); omega)
        · (try dsimp only)
          refine ⟨by omega, ?_⟩
          exact kk 1 σ19 hI hfr (by (try dsimp only); omega)
      · refine ⟨by omega, ?_⟩
        intro z25 ez25
        have vz25 := hI.aI 1 160 0 1 (by decide) (by decide) rfl rfl rfl (i := x14.1.toInt) (by omega) ez25
        have wz25 : z25.toInt = (sI σ15 (L 1) x14.1.toInt.toNat).toInt := by rw [ez25]
        refine jn_in (fun (x : Int32) (σ' : HS) => OKM h0 L σ' ∧ Fr h0 L [118, 119] [] σ σ' ∧ ((0 ≤ x.toInt ∧ x.toInt ≤ 1))) (fun x26 σ27 hJ => ?_) (fun K28 hK28 => ?_)
        · obtain ⟨hI, hfr, hv⟩ := hJ
          (try dsimp only at hv)
          have rg_x26 := i_range x26
          refine jn_dup ?_
          refine jn_dup ?_
          refine ⟨fun c3 => ?_, fun c3 => ?_⟩
          · (try dsimp only)
            (try dsimp only)
            intro z36 ez36
            try have hz36 := i_add ez36 (by omega) (by omega)
            have rg_z36 := i_range z36
            exact hK16 (z36, x14.2) σ27 ⟨hI, hfr, (by (try dsimp only); omega)⟩ (by (try dsimp only); omega)
          · refine jn_dup ?_
            refine ⟨fun c4 => ?_, fun c4 => ?_⟩
            · (try dsimp only)
              (try dsimp only)
              intro z36 ez36
              try have hz36 := i_add ez36 (by omega) (by omega)
              have rg_z36 := i_range z36
              exact hK16 (z36, x14.1) σ27 ⟨hI, hfr, (by (try dsimp only); omega)⟩ (by (try dsimp only); omega)
            · refine s_X12_between hI x14.1 x14.2 (by omega) (fun z48 pz48 => ?_)
              have rg_z48 := i_range z48
              refine ⟨fun c5 => ?_, fun c5 => ?_⟩
              · (try dsimp only)
                (try dsimp only)
                intro z36 ez36
                try have hz36 := i_add ez36 (by omega) (by omega)
                have rg_z36 := i_range z36
                exact hK16 (z36, x14.2) σ27 ⟨hI, hfr, (by (try dsimp only); omega)⟩ (by (try dsimp only); omega)
              · (try dsimp only)
                (try dsimp only)
                intro z36 ez36
                try have hz36 := i_add ez36 (by omega) (by omega)
                have rg_z36 := i_range z36
                exact hK16 (z36, x14.1) σ27 ⟨hI, hfr, (by (try dsimp only); omega)⟩ (by (try dsimp only); omega)
        · skip
          refine jn_dup ?_
          refine ⟨fun c6 => ?_, fun c6 => ?_⟩
          · (try dsimp only)
            exact hK28 0 σ15 ⟨hI, hfr, (by (try dsimp only); omega)⟩
          · refine ⟨by omega, ?_⟩
            intro z54 ez54
            have vz54 := hI.aI 2 160 (-1) 79 (by decide) (by decide) rfl rfl rfl (i := x14.1.toInt) (by omega) ez54
            have wz54 : z54.toInt = (sI σ15 (L 2) x14.1.toInt.toNat).toInt := by rw [ez54]
            refine ⟨fun c7 => ?_, fun c7 => ?_⟩
            · (try dsimp only)
              exact hK28 0 σ15 ⟨hI, hfr, (by (try dsimp only); omega)⟩
            · refine ⟨by omega, ?_⟩
              intro z55 ez55
              have vz55 := hI.aI 53 40 0 3 (by decide) (by decide) rfl rfl rfl (i := a1.toInt) (by omega) ez55
              have wz55 : z55.toInt = (sI σ15 (L 53) a1.toInt.toNat).toInt := by rw [ez55]
              refine jn_dup ?_
              refine ⟨fun c8 => ?_, fun c8 => ?_⟩
              · (try dsimp only)
                refine s_X12_matches hI a1 x14.1 0 (by omega) (fun z62 pz62 => ?_)
                have rg_z62 := i_range z62
                refine ⟨fun c9 => ?_, fun c9 => ?_⟩
                · (try dsimp only)
                  exact hK28 0 σ15 ⟨hI, hfr, (by (try dsimp only); omega)⟩
                · exact hK28 1 σ15 ⟨hI, hfr, (by (try dsimp only); omega)⟩
              · refine s_X12_against hI x14.1 a1 (by omega) (fun z64 pz64 => ?_)
                have rg_z64 := i_range z64
                refine ⟨fun c10 => ?_, fun c10 => ?_⟩
                · (try dsimp only)
                  exact hK28 0 σ15 ⟨hI, hfr, (by (try dsimp only); omega)⟩
                · (try dsimp only)
                  refine s_X12_matches hI a1 x14.1 0 (by omega) (fun z62 pz62 => ?_)
                  have rg_z62 := i_range z62
                  refine ⟨fun c11 => ?_, fun c11 => ?_⟩
                  · (try dsimp only)
                    exact hK28 0 σ15 ⟨hI, hfr, (by (try dsimp only); omega)⟩
                  · exact hK28 1 σ15 ⟨hI, hfr, (by (try dsimp only); omega)⟩
    · skip
      refine ⟨fun c12 => ?_, fun c12 => ?_⟩
      · exact hK11 () σ4 ⟨hI, hfr, trivial⟩
      · refine s_X12_matches hI a1 z1 2 (by omega) (fun z66 pz66 => ?_)
        have rg_z66 := i_range z66
        refine ⟨fun c13 => ?_, fun c13 => ?_⟩
        · exact hK11 () σ4 ⟨hI, hfr, trivial⟩
        · intro σ67 eσ67
          have hMp := hI.2
          have hI := hI.pF 118 0 3 rfl rfl (by omega) eσ67
          have hfr := hfr.fI hMp eσ67 (by decide) rfl
          have uσ67 : (sI σ67 h0 118).toInt = (2 : Int32).toInt := by rw [eσ67]; exact congrArg Int32.toInt u2_same
          have f1σ67 : Fr h0 L [118] [] σ4 σ67 := Fr.rf.fI hMp eσ67 (by decide) rfl
          have tk3 : (sI σ67 h0 119).toInt = (sI σ4 h0 119).toInt := by rw [(f1σ67.1 119 (by decide)).1]
          refine ⟨by omega, ?_⟩
          intro z68 ez68
          have vz68 := hI.aI 2 160 (-1) 79 (by decide) (by decide) rfl rfl rfl (i := z1.toInt) (by omega) ez68
          have wz68 : z68.toInt = (sI σ67 (L 2) z1.toInt.toNat).toInt := by rw [ez68]
          refine jn_dup ?_
          refine ⟨fun c14 => ?_, fun c14 => ?_⟩
          · refine ⟨by omega, ?_⟩
            intro z75 ez75
            have vz75 := hI.aI 2 160 (-1) 79 (by decide) (by decide) rfl rfl rfl (i := z1.toInt) (by omega) ez75
            have wz75 : z75.toInt = (sI σ67 (L 2) z1.toInt.toNat).toInt := by rw [ez75]
            (try dsimp only)
            intro σ74 eσ74
            have hMp := hI.2
            have hI := hI.pF 119 (-1) 79 rfl rfl (by omega) eσ74
            have hfr := hfr.fI hMp eσ74 (by decide) rfl
            have uσ74 : (sI σ74 h0 119).toInt = z75.toInt := by rw [eσ74]; exact congrArg Int32.toInt u2_same
            have f1σ74 : Fr h0 L [119] [] σ67 σ74 := Fr.rf.fI hMp eσ74 (by decide) rfl
            refine ⟨by omega, ?_⟩
            exact kk 1 σ74 hI hfr (by (try dsimp only); omega)
          · (try dsimp only)
            intro σ74 eσ74
            have hMp := hI.2
            have hI := hI.pF 119 (-1) 79 rfl rfl (by omega) eσ74
            have hfr := hfr.fI hMp eσ74 (by decide) rfl
            have uσ74 : (sI σ74 h0 119).toInt = z1.toInt := by rw [eσ74]; exact congrArg Int32.toInt u2_same
            have f1σ74 : Fr h0 L [119] [] σ67 σ74 := Fr.rf.fI hMp eσ74 (by decide) rfl
            refine ⟨by omega, ?_⟩
            exact kk 1 σ74 hI hfr (by (try dsimp only); omega)
  · skip
    refine ⟨fun c15 => ?_, fun c15 => ?_⟩
    · exact hK5 () σ ⟨hI, hfr, trivial⟩
    · refine s_X12_matches hI a1 z1 1 (by omega) (fun z77 pz77 => ?_)
      have rg_z77 := i_range z77
      refine ⟨fun c16 => ?_, fun c16 => ?_⟩
      · exact hK5 () σ ⟨hI, hfr, trivial⟩
      · intro σ78 eσ78
        have hMp := hI.2
        have hI := hI.pF 118 0 3 rfl rfl (by omega) eσ78
        have hfr := hfr.fI hMp eσ78 (by decide) rfl
        have uσ78 : (sI σ78 h0 118).toInt = (1 : Int32).toInt := by rw [eσ78]; exact congrArg Int32.toInt u2_same
        have f1σ78 : Fr h0 L [118] [] σ σ78 := Fr.rf.fI hMp eσ78 (by decide) rfl
        have tk6 : (sI σ78 h0 119).toInt = (sI σ h0 119).toInt := by rw [(f1σ78.1 119 (by decide)).1]
        intro σ79 eσ79
        have hMp := hI.2
        have hI := hI.pF 119 (-1) 79 rfl rfl (by omega) eσ79
        have hfr := hfr.fI hMp eσ79 (by decide) rfl
        have uσ79 : (sI σ79 h0 119).toInt = z1.toInt := by rw [eσ79]; exact congrArg Int32.toInt u2_same
        have f1σ79 : Fr h0 L [119] [] σ78 σ79 := Fr.rf.fI hMp eσ79 (by decide) rfl
        refine ⟨by omega, ?_⟩
        exact kk 1 σ79 hI hfr (by (try dsimp only); omega)
set_option maxRecDepth 100000 in
set_option maxHeartbeats 4000000 in
theorem s_X12_remember {h0 : Nat} {L : Nat → Nat} {σ : HS} (hI : OKM h0 L σ) (a1 : Int32) (hz : 0 ≤ a1.toInt ∧ a1.toInt < 40 ∧ 0 ≤ (sI σ h0 119).toInt) {post : HS → Prop} (kk : ∀ (σ' : HS), OKM h0 L σ' → Fr h0 L [] [53, 54, 55] σ σ' → (True) → post σ') : F_X12_remember h0 L a1 post σ := by
  unfold F_X12_remember
  have k_0 : (0 : Int32).toInt = 0 := rfl
  have k_1 : (1 : Int32).toInt = 1 := rfl
  have k_3 : (3 : Int32).toInt = 3 := rfl
  have k_12 : (12 : Int32).toInt = 12 := rfl
  have rg_a1 := i_range a1
  have hfr : Fr h0 L [] [53, 54, 55] σ σ := Fr.rf
  intro z1 ez1
  have vz1 := hI.fI 118 0 3 (by decide) rfl rfl rfl ez1
  have wz1 : z1.toInt = (sI σ h0 118).toInt := by rw [ez1, (hfr.1 118 (by decide)).1]
  refine ⟨by omega, ?_⟩
  intro σ2 eσ2
  have hMp := hI.2
  have hI := hI.pA 53 0 3 (by decide) (by decide) rfl rfl (by omega) eσ2
  have hfr := hfr.aI hMp (by decide) eσ2 (by decide)
  have f1σ2 : Fr h0 L [] [53] σ σ2 := Fr.rf.aI hMp (by decide) eσ2 (by decide)
  have tk1 : (sI σ2 h0 119).toInt = (sI σ h0 119).toInt := by rw [(f1σ2.1 119 (by decide)).1]
  intro z3 ez3
  have vz3 := hI.fI 118 0 3 (by decide) rfl rfl rfl ez3
  have wz3 : z3.toInt = (sI σ h0 118).toInt := by rw [ez3, (hfr.1 118 (by decide)).1]
  refine jn_dup ?_
  refine ⟨fun c1 => ?_, fun c1 => ?_⟩
  · (try dsimp only)
    exact kk σ2 hI hfr trivial
  · intro z9 ez9
    have vz9 := hI.fI 119 (-1) 79 (by decide) rfl rfl rfl ez9
    have wz9 : z9.toInt = (sI σ h0 119).toInt := by rw [ez9, (hfr.1 119 (by decide)).1]
    refine ⟨by omega, ?_⟩
    intro z10 ez10
    have vz10 := hI.aI 5 160 0 12 (by decide) (by decide) rfl rfl rfl (i := z9.toInt) (by omega) ez10
    have wz10 : z10.toInt = (sI σ (L 5) z9.toInt.toNat).toInt := by rw [ez10, (hfr.2.1 5 (by decide) (by decide) _).1]
    refine ⟨by omega, ?_⟩
    intro σ11 eσ11
    have hMp := hI.2
    have hI := hI.pA 55 0 12 (by decide) (by decide) rfl rfl (by omega) eσ11
    have hfr := hfr.aI hMp (by decide) eσ11 (by decide)
    have f1σ11 : Fr h0 L [] [55] σ2 σ11 := Fr.rf.aI hMp (by decide) eσ11 (by decide)
    have tk2 : (sI σ11 h0 119).toInt = (sI σ2 h0 119).toInt := by rw [(f1σ11.1 119 (by decide)).1]
    refine lw_in (fun (x : Int32) (σ' : HS) => OKM h0 L σ' ∧ Fr h0 L [] [53, 54, 55] σ σ' ∧ ((0 ≤ x.toInt ∧ x.toInt ≤ 12))) (fun (x : Int32) (σ' : HS) => (12 - x.toInt).toNat) ⟨hI, hfr, (by (try dsimp only); omega)⟩ (fun x12 σ13 hJ K14 hK14 => ?_)
    obtain ⟨hI, hfr, hv⟩ := hJ
    (try dsimp only at hv)
    have rg_x12 := i_range x12
    refine ⟨fun c2 => ?_, fun c2 => ?_⟩
    · (try dsimp only)
      exact kk σ13 hI hfr trivial
    · intro z16 ez16
      try have hz16 := i_mulk 12 rfl ez16 (by omega) (by omega)
      have rg_z16 := i_range z16
      intro z17 ez17
      try have hz17 := i_add ez17 (by omega) (by omega)
      have rg_z17 := i_range z17
      intro z18 ez18
      have vz18 := hI.fI 119 (-1) 79 (by decide) rfl rfl rfl ez18
      have wz18 : z18.toInt = (sI σ h0 119).toInt := by rw [ez18, (hfr.1 119 (by decide)).1]
      intro z19 ez19
      try have hz19 := i_mulk 12 rfl ez19 (by omega) (by omega)
      have rg_z19 := i_range z19
      intro z20 ez20
      try have hz20 := i_add ez20 (by omega) (by omega)
      have rg_z20 := i_range z20
      refine ⟨by omega, ?_⟩
      intro z21 ez21
      have vz21 := hI.aI 4 1920 (-128) 127 (by decide) (by decide) rfl rfl rfl (i := z20.toInt) (by omega) ez21
      have wz21 : z21.toInt = (sI σ (L 4) z20.toInt.toNat).toInt := by rw [ez21, (hfr.2.1 4 (by decide) (by decide) _).1]
      refine ⟨by omega, ?_⟩
      intro σ22 eσ22
      have hMp := hI.2
      have hI := hI.pA 54 (-128) 127 (by decide) (by decide) rfl rfl (i_byte _) eσ22
      have hfr := hfr.aI hMp (by decide) eσ22 (by decide)
      have f1σ22 : Fr h0 L [] [54] σ13 σ22 := Fr.rf.aI hMp (by decide) eσ22 (by decide)
      have tk3 : (sI σ22 h0 119).toInt = (sI σ13 h0 119).toInt := by rw [(f1σ22.1 119 (by decide)).1]
      intro z23 ez23
      try have hz23 := i_add ez23 (by omega) (by omega)
      have rg_z23 := i_range z23
      exact hK14 z23 σ22 ⟨hI, hfr, (by (try dsimp only); omega)⟩ (by (try dsimp only); omega)
set_option maxRecDepth 100000 in
set_option maxHeartbeats 4000000 in
theorem s_X12_child {h0 : Nat} {L : Nat → Nat} {σ : HS} (hI : OKM h0 L σ) (a1 : Int32) (a2 : Int32) (hz : 0 ≤ a2.toInt ∧ a2.toInt < 130 ∧ (sI σ (L 78) a2.toInt.toNat).toInt + (sI σ (L 79) a2.toInt.toNat).toInt ≤ 130 ∧ (sI σ (L 79) a2.toInt.toNat).toInt ≤ 12) {post : Int32 → HS → Prop} (kk : ∀ (r : Int32) (_ : -1 ≤ r.toInt ∧ r.toInt ≤ 79 ∧ (0 ≤ r.toInt → (sI σ (L 1) r.toInt.toNat).toInt = 1 ∧ (sI σ (L 2) r.toInt.toNat).toInt = a1.toInt)), post r σ) : F_X12_child h0 L a1 a2 post σ := by
  unfold F_X12_child
  have k_m1 : ((-1) : Int32).toInt = (-1) := rfl
  have k_0 : (0 : Int32).toInt = 0 := rfl
  have k_1 : (1 : Int32).toInt = 1 := rfl
  have k_12 : (12 : Int32).toInt = 12 := rfl
  have k_80 : (80 : Int32).toInt = 80 := rfl
  have rg_a1 := i_range a1
  have rg_a2 := i_range a2
  refine lw_in (fun (x : Int32) (σ' : HS) => σ = σ' ∧ ((0 ≤ x.toInt ∧ x.toInt ≤ 80))) (fun (x : Int32) (σ' : HS) => (80 - x.toInt).toNat) ⟨rfl, (by (try dsimp only); omega)⟩ (fun x1 σ2 hJ K3 hK3 => ?_)
  obtain ⟨hsg, hv⟩ := hJ
  subst hsg
  (try dsimp only at hv)
  have rg_x1 := i_range x1
  refine ⟨fun c1 => ?_, fun c1 => ?_⟩
  · exact kk (-1) (by (try dsimp only); omega)
  · refine ⟨by omega, ?_⟩
    intro z5 ez5
    have vz5 := hI.aI 1 160 0 1 (by decide) (by decide) rfl rfl rfl (i := x1.toInt) (by omega) ez5
    have wz5 : z5.toInt = (sI σ (L 1) x1.toInt.toNat).toInt := by rw [ez5]
    refine jn_in (fun (x : Int32) (σ' : HS) => σ = σ' ∧ ((0 ≤ x.toInt ∧ x.toInt ≤ 1) ∧ (x.toInt ≠ 0 → (sI σ (L 1) x1.toInt.toNat).toInt = 1 ∧ (sI σ (L 2) x1.toInt.toNat).toInt = a1.toInt))) (fun x6 σ7 hJ => ?_) (fun K8 hK8 => ?_)
    · obtain ⟨hsg, hv⟩ := hJ
      subst hsg
      (try dsimp only at hv)
      have rg_x6 := i_range x6
      refine lw_in (fun (x : Int32 × Int32) (σ' : HS) => σ = σ' ∧ ((0 ≤ x.1.toInt ∧ x.1.toInt ≤ 120) ∧ (0 ≤ x.2.toInt ∧ x.2.toInt ≤ 1) ∧ (x.2.toInt ≠ 0 → (sI σ (L 1) x1.toInt.toNat).toInt = 1 ∧ (sI σ (L 2) x1.toInt.toNat).toInt = a1.toInt) ∧ (0 ≤ x.1.toInt) ∧ (x.1.toInt ≤ 12))) (fun (x : Int32 × Int32) (σ' : HS) => (13 - x.1.toInt).toNat) ⟨rfl, (by (try dsimp only); omega)⟩ (fun x11 σ12 hJ K13 hK13 => ?_)
      obtain ⟨hsg, hv⟩ := hJ
      subst hsg
      (try dsimp only at hv)
      have rg_x11_1 := i_range x11.1
      have rg_x11_2 := i_range x11.2
      refine ⟨by omega, ?_⟩
      intro z15 ez15
      have vz15 := hI.aI 79 130 0 120 (by decide) (by decide) rfl rfl rfl (i := a2.toInt) (by omega) ez15
      have wz15 : z15.toInt = (sI σ (L 79) a2.toInt.toNat).toInt := by rw [ez15]
      refine jn_dup ?_
      refine ⟨fun c2 => ?_, fun c2 => ?_⟩
      · (try dsimp only)
        refine ⟨fun c3 => ?_, fun c3 => ?_⟩
        · intro z21 ez21
          try have hz21 := i_add ez21 (by omega) (by omega)
          have rg_z21 := i_range z21
          exact hK3 z21 σ ⟨rfl, (by (try dsimp only); omega)⟩ (by (try dsimp only); omega)
        · exact kk x1 (by (try dsimp only); omega)
      · refine ⟨fun c4 => ?_, fun c4 => ?_⟩
        · (try dsimp only)
          refine ⟨fun c5 => ?_, fun c5 => ?_⟩
          · intro z21 ez21
            try have hz21 := i_add ez21 (by omega) (by omega)
            have rg_z21 := i_range z21
            exact hK3 z21 σ ⟨rfl, (by (try dsimp only); omega)⟩ (by (try dsimp only); omega)
          · exact kk x1 (by (try dsimp only); omega)
        · intro z22 ez22
          try have hz22 := i_mulk 12 rfl ez22 (by omega) (by omega)
          have rg_z22 := i_range z22
          intro z23 ez23
          try have hz23 := i_add ez23 (by omega) (by omega)
          have rg_z23 := i_range z23
          refine ⟨by omega, ?_⟩
          intro z24 ez24
          have vz24 := hI.aI 4 1920 (-128) 127 (by decide) (by decide) rfl rfl rfl (i := z23.toInt) (by omega) ez24
          have wz24 : z24.toInt = (sI σ (L 4) z23.toInt.toNat).toInt := by rw [ez24]
          refine s_X12_folded hI z24  (fun z26 pz26 => ?_)
          have rg_z26 := i_range z26
          refine ⟨by omega, ?_⟩
          intro z27 ez27
          have vz27 := hI.aI 78 130 0 121 (by decide) (by decide) rfl rfl rfl (i := a2.toInt) (by omega) ez27
          have wz27 : z27.toInt = (sI σ (L 78) a2.toInt.toNat).toInt := by rw [ez27]
          intro z28 ez28
          try have hz28 := i_add ez28 (by omega) (by omega)
          have rg_z28 := i_range z28
          refine ⟨by omega, ?_⟩
          intro z29 ez29
          have vz29 := hI.aI 77 130 0 65535 (by decide) (by decide) rfl rfl rfl (i := z28.toInt) (by omega) ez29
          have wz29 : z29.toInt = (sI σ (L 77) z28.toInt.toNat).toInt := by rw [ez29]
          refine s_X12_folded hI z29  (fun z31 pz31 => ?_)
          have rg_z31 := i_range z31
          refine jn_dup ?_
          refine ⟨fun c6 => ?_, fun c6 => ?_⟩
          · (try dsimp only)
            intro z37 ez37
            try have hz37 := i_add ez37 (by omega) (by omega)
            have rg_z37 := i_range z37
            exact hK13 (z37, 0) σ ⟨rfl, (by (try dsimp only); omega)⟩ (by (try dsimp only); omega)
          · (try dsimp only)
            intro z37 ez37
            try have hz37 := i_add ez37 (by omega) (by omega)
            have rg_z37 := i_range z37
            exact hK13 (z37, 1) σ ⟨rfl, (by (try dsimp only); omega)⟩ (by (try dsimp only); omega)
    · skip
      refine jn_dup ?_
      refine ⟨fun c7 => ?_, fun c7 => ?_⟩
      · (try dsimp only)
        exact hK8 0 σ ⟨rfl, (by (try dsimp only); omega)⟩
      · refine ⟨by omega, ?_⟩
        intro z43 ez43
        have vz43 := hI.aI 2 160 (-1) 79 (by decide) (by decide) rfl rfl rfl (i := x1.toInt) (by omega) ez43
        have wz43 : z43.toInt = (sI σ (L 2) x1.toInt.toNat).toInt := by rw [ez43]
        refine ⟨fun c8 => ?_, fun c8 => ?_⟩
        · (try dsimp only)
          exact hK8 0 σ ⟨rfl, (by (try dsimp only); omega)⟩
        · refine ⟨by omega, ?_⟩
          intro z44 ez44
          have vz44 := hI.aI 5 160 0 12 (by decide) (by decide) rfl rfl rfl (i := x1.toInt) (by omega) ez44
          have wz44 : z44.toInt = (sI σ (L 5) x1.toInt.toNat).toInt := by rw [ez44]
          refine ⟨by omega, ?_⟩
          intro z45 ez45
          have vz45 := hI.aI 79 130 0 120 (by decide) (by decide) rfl rfl rfl (i := a2.toInt) (by omega) ez45
          have wz45 : z45.toInt = (sI σ (L 79) a2.toInt.toNat).toInt := by rw [ez45]
          refine ⟨fun c9 => ?_, fun c9 => ?_⟩
          · (try dsimp only)
            exact hK8 0 σ ⟨rfl, (by (try dsimp only); omega)⟩
          · exact hK8 1 σ ⟨rfl, (by (try dsimp only); omega)⟩

/-! searches and counts of the reference -/
set_option maxRecDepth 100000 in
set_option maxHeartbeats 4000000 in
theorem s_X12_count {h0 : Nat} {L : Nat → Nat} {σ : HS} (hI : OKM h0 L σ) (j N : Nat) (hj : j < 80) (hp : ph (30 + j) = 22) (hN : lnL.getD j 0 = N) (hN2 : N < 2 ^ 31)  {post : Int32 → HS → Prop} (kk : ∀ (r : Int32) (_ : (0 ≤ r.toInt ∧ r.toInt ≤ N) ∧ ((∀ o : Nat, o < N → 0 < (sJ σ (L j) o).toInt) → r.toInt = N)), post r σ) : F_X12_count h0 L j N post σ := by
  unfold F_X12_count
  have k_0 : (0 : Int32).toInt = 0 := rfl
  have k_1 : (1 : Int32).toInt = 1 := rfl
  have kl_0 : (0 : Int64).toInt = 0 := rfl
  refine lw_in (fun (x : Int32 × Int32) (σ' : HS) => σ = σ' ∧ ((0 ≤ x.1.toInt) ∧ (x.1.toInt ≤ N) ∧ (0 ≤ x.2.toInt) ∧ (x.2.toInt ≤ x.1.toInt)) ∧ ((∀ o : Nat, o < N → 0 < (sJ σ (L j) o).toInt) → x.2.toInt = x.1.toInt)) (fun (x : Int32 × Int32) (σ' : HS) => (N - x.1.toInt).toNat) ⟨rfl, (by (try dsimp only); omega), (fun _ => rfl)⟩ (fun x1 σ2 hJ K3 hK3 => ?_)
  obtain ⟨hsg, hv, hall⟩ := hJ
  subst hsg
  (try dsimp only at hv)
  have rg_x1_1 := i_range x1.1
  have rg_x1_2 := i_range x1.2
  intro z5 ez5
  refine ⟨fun c1 => ?_, fun c1 => ?_⟩
  · exact kk x1.2 ⟨(by (try dsimp only); omega), fun q => by have h1 := hall q; omega⟩
  · refine ⟨by omega, ?_⟩
    intro z6 ez6
    have wz6 : z6.toInt = (sJ σ (L j) x1.1.toInt.toNat).toInt := by rw [ez6]
    refine jn_dup ?_
    refine ⟨fun c2 => ?_, fun c2 => ?_⟩
    · (try dsimp only)
      intro z12 ez12
      try have hz12 := i_add ez12 (by omega) (by omega)
      have rg_z12 := i_range z12
      intro z13 ez13
      try have hz13 := i_add ez13 (by omega) (by omega)
      have rg_z13 := i_range z13
      exact hK3 (z13, z12) σ ⟨rfl, (by (try dsimp only); omega), (fun q => by have h1 := hall q; have h2 := q x1.1.toInt.toNat (by omega); (try dsimp only); omega)⟩ (by (try dsimp only); omega)
    · (try dsimp only)
      intro z12 ez12
      try have hz12 := i_add ez12 (by omega) (by omega)
      have rg_z12 := i_range z12
      intro z13 ez13
      try have hz13 := i_add ez13 (by omega) (by omega)
      have rg_z13 := i_range z13
      exact hK3 (z13, z12) σ ⟨rfl, (by (try dsimp only); omega), (fun q => by have h1 := hall q; have h2 := q x1.1.toInt.toNat (by omega); (try dsimp only); omega)⟩ (by (try dsimp only); omega)
set_option maxRecDepth 100000 in
set_option maxHeartbeats 4000000 in
theorem s_X12_vacant {h0 : Nat} {L : Nat → Nat} {σ : HS} (hI : OKM h0 L σ) (j N : Nat) (hj : j < 80) (hp : ph (30 + j) = 22) (hN : lnL.getD j 0 = N) (hN2 : N < 2 ^ 31)  {post : Int32 → HS → Prop} (kk : ∀ (r : Int32) (_ : (0 ≤ r.toInt ∧ r.toInt ≤ N) ∧ (r.toInt = N → ∀ o : Nat, o < N → 0 < (sJ σ (L j) o).toInt) ∧ (r.toInt < N → (sJ σ (L j) r.toInt.toNat).toInt ≤ 0)), post r σ) : F_X12_vacant h0 L j N post σ := by
  unfold F_X12_vacant
  have k_0 : (0 : Int32).toInt = 0 := rfl
  have k_1 : (1 : Int32).toInt = 1 := rfl
  have kl_0 : (0 : Int64).toInt = 0 := rfl
  refine lw_in (fun (x : Int32) (σ' : HS) => σ = σ' ∧ ((0 ≤ x.toInt) ∧ (x.toInt ≤ N)) ∧ (∀ o : Nat, o < x.toInt.toNat → 0 < (sJ σ (L j) o).toInt)) (fun (x : Int32) (σ' : HS) => (N - x.toInt).toNat) ⟨rfl, (by (try dsimp only); omega), (fun o ho => by exfalso; (try dsimp only at ho); omega)⟩ (fun x1 σ2 hJ K3 hK3 => ?_)
  obtain ⟨hsg, hv, hall⟩ := hJ
  subst hsg
  (try dsimp only at hv)
  have rg_x1 := i_range x1
  intro z5 ez5
  refine jn_dup ?_
  refine ⟨fun c1 => ?_, fun c1 => ?_⟩
  · (try dsimp only)
    exact kk x1 ⟨(by (try dsimp only); omega), fun q o ho => hall o (by omega), fun q => by omega⟩
  · refine ⟨by omega, ?_⟩
    intro z11 ez11
    have wz11 : z11.toInt = (sJ σ (L j) x1.toInt.toNat).toInt := by rw [ez11]
    refine ⟨fun c2 => ?_, fun c2 => ?_⟩
    · (try dsimp only)
      exact kk x1 ⟨(by (try dsimp only); omega), fun q o ho => hall o (by omega), fun q => by omega⟩
    · intro z12 ez12
      try have hz12 := i_add ez12 (by omega) (by omega)
      have rg_z12 := i_range z12
      exact hK3 z12 σ ⟨rfl, (by (try dsimp only); omega), (fun o ho => by (try dsimp only at *); rcases (show o < x1.toInt.toNat ∨ o = x1.toInt.toNat by omega) with q | q; exact hall o q; subst q; omega)⟩ (by (try dsimp only); omega)
set_option maxRecDepth 100000 in
set_option maxHeartbeats 4000000 in
theorem s_X12_openBy {h0 : Nat} {L : Nat → Nat} {σ : HS} (hI : OKM h0 L σ) (a1 : Int64)  {post : Int32 → HS → Prop} (kk : ∀ (r : Int32) (_ : -1 ≤ r.toInt ∧ r.toInt ≤ 39 ∧ (0 ≤ r.toInt → a1.toInt ≠ 0 ∧ (sJ σ (L 41) r.toInt.toNat).toInt = a1.toInt)), post r σ) : F_X12_openBy h0 L a1 post σ := by
  unfold F_X12_openBy
  have k_m1 : ((-1) : Int32).toInt = (-1) := rfl
  have k_0 : (0 : Int32).toInt = 0 := rfl
  have k_1 : (1 : Int32).toInt = 1 := rfl
  have k_40 : (40 : Int32).toInt = 40 := rfl
  have kl_0 : (0 : Int64).toInt = 0 := rfl
  have rg_a1 := l_range a1
  refine lw_in (fun (x : Int32) (σ' : HS) => σ = σ' ∧ ((0 ≤ x.toInt ∧ x.toInt ≤ 40))) (fun (x : Int32) (σ' : HS) => (40 - x.toInt).toNat) ⟨rfl, (by (try dsimp only); omega)⟩ (fun x1 σ2 hJ K3 hK3 => ?_)
  obtain ⟨hsg, hv⟩ := hJ
  subst hsg
  (try dsimp only at hv)
  have rg_x1 := i_range x1
  refine ⟨fun c1 => ?_, fun c1 => ?_⟩
  · exact kk (-1) (by (try dsimp only); omega)
  · refine jn_dup ?_
    refine ⟨fun c2 => ?_, fun c2 => ?_⟩
    · (try dsimp only)
      intro z10 ez10
      try have hz10 := i_add ez10 (by omega) (by omega)
      have rg_z10 := i_range z10
      exact hK3 z10 σ ⟨rfl, (by (try dsimp only); omega)⟩ (by (try dsimp only); omega)
    · refine ⟨by omega, ?_⟩
      intro z11 ez11
      have wz11 : z11.toInt = (sJ σ (L 41) x1.toInt.toNat).toInt := by rw [ez11]
      refine ⟨fun c3 => ?_, fun c3 => ?_⟩
      · (try dsimp only)
        intro z10 ez10
        try have hz10 := i_add ez10 (by omega) (by omega)
        have rg_z10 := i_range z10
        exact hK3 z10 σ ⟨rfl, (by (try dsimp only); omega)⟩ (by (try dsimp only); omega)
      · exact kk x1 (by (try dsimp only); omega)
set_option maxRecDepth 100000 in
set_option maxHeartbeats 4000000 in
theorem s_X12_findSession {h0 : Nat} {L : Nat → Nat} {σ : HS} (hI : OKM h0 L σ) (a1 : Int64)  {post : Int32 → HS → Prop} (kk : ∀ (r : Int32) (_ : -1 ≤ r.toInt ∧ r.toInt ≤ 7), post r σ) : F_X12_findSession h0 L a1 post σ := by
  unfold F_X12_findSession
  have k_m1 : ((-1) : Int32).toInt = (-1) := rfl
  have k_0 : (0 : Int32).toInt = 0 := rfl
  have k_1 : (1 : Int32).toInt = 1 := rfl
  have k_8 : (8 : Int32).toInt = 8 := rfl
  have kl_0 : (0 : Int64).toInt = 0 := rfl
  have rg_a1 := l_range a1
  refine lw_in (fun (x : Int32) (σ' : HS) => σ = σ' ∧ ((0 ≤ x.toInt ∧ x.toInt ≤ 8))) (fun (x : Int32) (σ' : HS) => (8 - x.toInt).toNat) ⟨rfl, (by (try dsimp only); omega)⟩ (fun x1 σ2 hJ K3 hK3 => ?_)
  obtain ⟨hsg, hv⟩ := hJ
  subst hsg
  (try dsimp only at hv)
  have rg_x1 := i_range x1
  refine ⟨fun c1 => ?_, fun c1 => ?_⟩
  · exact kk (-1) (by (try dsimp only); omega)
  · refine jn_dup ?_
    refine ⟨fun c2 => ?_, fun c2 => ?_⟩
    · (try dsimp only)
      intro z10 ez10
      try have hz10 := i_add ez10 (by omega) (by omega)
      have rg_z10 := i_range z10
      exact hK3 z10 σ ⟨rfl, (by (try dsimp only); omega)⟩ (by (try dsimp only); omega)
    · refine ⟨by omega, ?_⟩
      intro z11 ez11
      have wz11 : z11.toInt = (sJ σ (L 34) x1.toInt.toNat).toInt := by rw [ez11]
      refine ⟨fun c3 => ?_, fun c3 => ?_⟩
      · (try dsimp only)
        intro z10 ez10
        try have hz10 := i_add ez10 (by omega) (by omega)
        have rg_z10 := i_range z10
        exact hK3 z10 σ ⟨rfl, (by (try dsimp only); omega)⟩ (by (try dsimp only); omega)
      · refine ⟨by omega, ?_⟩
        intro z12 ez12
        have vz12 := hI.aI 35 8 0 5 (by decide) (by decide) rfl rfl rfl (i := x1.toInt) (by omega) ez12
        have wz12 : z12.toInt = (sI σ (L 35) x1.toInt.toNat).toInt := by rw [ez12]
        intro z13 ez13
        have vz13 := hI.fI 88 0 5 (by decide) rfl rfl rfl ez13
        have wz13 : z13.toInt = (sI σ h0 88).toInt := by rw [ez13]
        refine ⟨fun c4 => ?_, fun c4 => ?_⟩
        · (try dsimp only)
          intro z10 ez10
          try have hz10 := i_add ez10 (by omega) (by omega)
          have rg_z10 := i_range z10
          exact hK3 z10 σ ⟨rfl, (by (try dsimp only); omega)⟩ (by (try dsimp only); omega)
        · exact kk x1 (by (try dsimp only); omega)
set_option maxRecDepth 100000 in
set_option maxHeartbeats 4000000 in
theorem s_X12_findTree {h0 : Nat} {L : Nat → Nat} {σ : HS} (hI : OKM h0 L σ) (a1 : Int64)  {post : Int32 → HS → Prop} (kk : ∀ (r : Int32) (_ : -1 ≤ r.toInt ∧ r.toInt ≤ 15 ∧ (0 ≤ r.toInt → (sJ σ (L 38) r.toInt.toNat).toInt ≠ 0)), post r σ) : F_X12_findTree h0 L a1 post σ := by
  unfold F_X12_findTree
  have k_m1 : ((-1) : Int32).toInt = (-1) := rfl
  have k_0 : (0 : Int32).toInt = 0 := rfl
  have k_1 : (1 : Int32).toInt = 1 := rfl
  have k_16 : (16 : Int32).toInt = 16 := rfl
  have kl_0 : (0 : Int64).toInt = 0 := rfl
  have rg_a1 := l_range a1
  refine lw_in (fun (x : Int32) (σ' : HS) => σ = σ' ∧ ((0 ≤ x.toInt ∧ x.toInt ≤ 16))) (fun (x : Int32) (σ' : HS) => (16 - x.toInt).toNat) ⟨rfl, (by (try dsimp only); omega)⟩ (fun x1 σ2 hJ K3 hK3 => ?_)
  obtain ⟨hsg, hv⟩ := hJ
  subst hsg
  (try dsimp only at hv)
  have rg_x1 := i_range x1
  refine ⟨fun c1 => ?_, fun c1 => ?_⟩
  · exact kk (-1) (by (try dsimp only); omega)
  · refine jn_dup ?_
    refine ⟨fun c2 => ?_, fun c2 => ?_⟩
    · (try dsimp only)
      intro z10 ez10
      try have hz10 := i_add ez10 (by omega) (by omega)
      have rg_z10 := i_range z10
      exact hK3 z10 σ ⟨rfl, (by (try dsimp only); omega)⟩ (by (try dsimp only); omega)
    · refine ⟨by omega, ?_⟩
      intro z11 ez11
      have wz11 : z11.toInt = (sJ σ (L 38) x1.toInt.toNat).toInt := by rw [ez11]
      refine ⟨fun c3 => ?_, fun c3 => ?_⟩
      · (try dsimp only)
        intro z10 ez10
        try have hz10 := i_add ez10 (by omega) (by omega)
        have rg_z10 := i_range z10
        exact hK3 z10 σ ⟨rfl, (by (try dsimp only); omega)⟩ (by (try dsimp only); omega)
      · refine ⟨by omega, ?_⟩
        intro z12 ez12
        have vz12 := hI.aI 39 16 0 7 (by decide) (by decide) rfl rfl rfl (i := x1.toInt) (by omega) ez12
        have wz12 : z12.toInt = (sI σ (L 39) x1.toInt.toNat).toInt := by rw [ez12]
        intro z13 ez13
        have vz13 := hI.fI 98 (-1) 7 (by decide) rfl rfl rfl ez13
        have wz13 : z13.toInt = (sI σ h0 98).toInt := by rw [ez13]
        refine ⟨fun c4 => ?_, fun c4 => ?_⟩
        · (try dsimp only)
          intro z10 ez10
          try have hz10 := i_add ez10 (by omega) (by omega)
          have rg_z10 := i_range z10
          exact hK3 z10 σ ⟨rfl, (by (try dsimp only); omega)⟩ (by (try dsimp only); omega)
        · exact kk x1 (by (try dsimp only); omega)
set_option maxRecDepth 100000 in
set_option maxHeartbeats 4000000 in
theorem s_X12_eldestSession {h0 : Nat} {L : Nat → Nat} {σ : HS} (hI : OKM h0 L σ) (a1 : Int32)  {post : Int32 → HS → Prop} (kk : ∀ (r : Int32) (_ : -1 ≤ r.toInt ∧ r.toInt ≤ 7 ∧ (0 ≤ r.toInt → 0 < (sJ σ (L 34) r.toInt.toNat).toInt ∧ (sI σ (L 35) r.toInt.toNat).toInt = a1.toInt)), post r σ) : F_X12_eldestSession h0 L a1 post σ := by
  unfold F_X12_eldestSession
  have k_m1 : ((-1) : Int32).toInt = (-1) := rfl
  have k_0 : (0 : Int32).toInt = 0 := rfl
  have k_1 : (1 : Int32).toInt = 1 := rfl
  have k_8 : (8 : Int32).toInt = 8 := rfl
  have kl_0 : (0 : Int64).toInt = 0 := rfl
  have rg_a1 := i_range a1
  refine lw_in (fun (x : Int32 × Int32) (σ' : HS) => σ = σ' ∧ ((0 ≤ x.1.toInt ∧ x.1.toInt ≤ 8) ∧ (-1 ≤ x.2.toInt ∧ x.2.toInt ≤ 7) ∧ (0 ≤ x.2.toInt → 0 < (sJ σ' (L 34) x.2.toInt.toNat).toInt ∧ (sI σ' (L 35) x.2.toInt.toNat).toInt = a1.toInt))) (fun (x : Int32 × Int32) (σ' : HS) => (8 - x.1.toInt).toNat) ⟨rfl, (by (try dsimp only); omega)⟩ (fun x1 σ2 hJ K3 hK3 => ?_)
  obtain ⟨hsg, hv⟩ := hJ
  subst hsg
  (try dsimp only at hv)
  have rg_x1_1 := i_range x1.1
  have rg_x1_2 := i_range x1.2
  refine ⟨fun c1 => ?_, fun c1 => ?_⟩
  · exact kk x1.2 (by (try dsimp only); omega)
  · refine ⟨by omega, ?_⟩
    intro z5 ez5
    have wz5 : z5.toInt = (sJ σ (L 34) x1.1.toInt.toNat).toInt := by rw [ez5]
    refine jn_in (fun (x : Int32) (σ' : HS) => σ = σ' ∧ ((0 ≤ x.toInt ∧ x.toInt ≤ 1) ∧ (x.toInt ≠ 0 → 0 < (sJ σ' (L 34) x1.1.toInt.toNat).toInt ∧ (sI σ' (L 35) x1.1.toInt.toNat).toInt = a1.toInt))) (fun x6 σ7 hJ => ?_) (fun K8 hK8 => ?_)
    · obtain ⟨hsg, hv⟩ := hJ
      subst hsg
      (try dsimp only at hv)
      have rg_x6 := i_range x6
      refine jn_dup ?_
      refine jn_dup ?_
      refine ⟨fun c2 => ?_, fun c2 => ?_⟩
      · (try dsimp only)
        (try dsimp only)
        intro z16 ez16
        try have hz16 := i_add ez16 (by omega) (by omega)
        have rg_z16 := i_range z16
        exact hK3 (z16, x1.2) σ ⟨rfl, (by (try dsimp only); omega)⟩ (by (try dsimp only); omega)
      · refine jn_dup ?_
        refine ⟨fun c3 => ?_, fun c3 => ?_⟩
        · (try dsimp only)
          (try dsimp only)
          intro z16 ez16
          try have hz16 := i_add ez16 (by omega) (by omega)
          have rg_z16 := i_range z16
          exact hK3 (z16, x1.1) σ ⟨rfl, (by (try dsimp only); omega)⟩ (by (try dsimp only); omega)
        · refine ⟨by omega, ?_⟩
          intro z27 ez27
          have wz27 : z27.toInt = (sJ σ (L 34) x1.1.toInt.toNat).toInt := by rw [ez27]
          refine ⟨by omega, ?_⟩
          intro z28 ez28
          have wz28 : z28.toInt = (sJ σ (L 34) x1.2.toInt.toNat).toInt := by rw [ez28]
          refine ⟨fun c4 => ?_, fun c4 => ?_⟩
          · (try dsimp only)
            (try dsimp only)
            intro z16 ez16
            try have hz16 := i_add ez16 (by omega) (by omega)
            have rg_z16 := i_range z16
            exact hK3 (z16, x1.2) σ ⟨rfl, (by (try dsimp only); omega)⟩ (by (try dsimp only); omega)
          · (try dsimp only)
            (try dsimp only)
            intro z16 ez16
            try have hz16 := i_add ez16 (by omega) (by omega)
            have rg_z16 := i_range z16
            exact hK3 (z16, x1.1) σ ⟨rfl, (by (try dsimp only); omega)⟩ (by (try dsimp only); omega)
    · skip
      refine jn_dup ?_
      refine ⟨fun c5 => ?_, fun c5 => ?_⟩
      · (try dsimp only)
        exact hK8 0 σ ⟨rfl, (by (try dsimp only); omega)⟩
      · refine ⟨by omega, ?_⟩
        intro z34 ez34
        have vz34 := hI.aI 35 8 0 5 (by decide) (by decide) rfl rfl rfl (i := x1.1.toInt) (by omega) ez34
        have wz34 : z34.toInt = (sI σ (L 35) x1.1.toInt.toNat).toInt := by rw [ez34]
        refine ⟨fun c6 => ?_, fun c6 => ?_⟩
        · (try dsimp only)
          exact hK8 0 σ ⟨rfl, (by (try dsimp only); omega)⟩
        · exact hK8 1 σ ⟨rfl, (by (try dsimp only); omega)⟩
set_option maxRecDepth 100000 in
set_option maxHeartbeats 4000000 in
theorem s_X12_eldestTree {h0 : Nat} {L : Nat → Nat} {σ : HS} (hI : OKM h0 L σ) (a1 : Int32)  {post : Int32 → HS → Prop} (kk : ∀ (r : Int32) (_ : -1 ≤ r.toInt ∧ r.toInt ≤ 15 ∧ (0 ≤ r.toInt → 0 < (sJ σ (L 38) r.toInt.toNat).toInt ∧ (sI σ (L 39) r.toInt.toNat).toInt = a1.toInt)), post r σ) : F_X12_eldestTree h0 L a1 post σ := by
  unfold F_X12_eldestTree
  have k_m1 : ((-1) : Int32).toInt = (-1) := rfl
  have k_0 : (0 : Int32).toInt = 0 := rfl
  have k_1 : (1 : Int32).toInt = 1 := rfl
  have k_16 : (16 : Int32).toInt = 16 := rfl
  have kl_0 : (0 : Int64).toInt = 0 := rfl
  have rg_a1 := i_range a1
  refine lw_in (fun (x : Int32 × Int32) (σ' : HS) => σ = σ' ∧ ((0 ≤ x.1.toInt ∧ x.1.toInt ≤ 16) ∧ (-1 ≤ x.2.toInt ∧ x.2.toInt ≤ 15) ∧ (0 ≤ x.2.toInt → 0 < (sJ σ' (L 38) x.2.toInt.toNat).toInt ∧ (sI σ' (L 39) x.2.toInt.toNat).toInt = a1.toInt))) (fun (x : Int32 × Int32) (σ' : HS) => (16 - x.1.toInt).toNat) ⟨rfl, (by (try dsimp only); omega)⟩ (fun x1 σ2 hJ K3 hK3 => ?_)
  obtain ⟨hsg, hv⟩ := hJ
  subst hsg
  (try dsimp only at hv)
  have rg_x1_1 := i_range x1.1
  have rg_x1_2 := i_range x1.2
  refine ⟨fun c1 => ?_, fun c1 => ?_⟩
  · exact kk x1.2 (by (try dsimp only); omega)
  · refine ⟨by omega, ?_⟩
    intro z5 ez5
    have wz5 : z5.toInt = (sJ σ (L 38) x1.1.toInt.toNat).toInt := by rw [ez5]
    refine jn_in (fun (x : Int32) (σ' : HS) => σ = σ' ∧ ((0 ≤ x.toInt ∧ x.toInt ≤ 1) ∧ (x.toInt ≠ 0 → 0 < (sJ σ' (L 38) x1.1.toInt.toNat).toInt ∧ (sI σ' (L 39) x1.1.toInt.toNat).toInt = a1.toInt))) (fun x6 σ7 hJ => ?_) (fun K8 hK8 => ?_)
    · obtain ⟨hsg, hv⟩ := hJ
      subst hsg
      (try dsimp only at hv)
      have rg_x6 := i_range x6
      refine jn_dup ?_
      refine jn_dup ?_
      refine ⟨fun c2 => ?_, fun c2 => ?_⟩
      · (try dsimp only)
        (try dsimp only)
        intro z16 ez16
        try have hz16 := i_add ez16 (by omega) (by omega)
        have rg_z16 := i_range z16
        exact hK3 (z16, x1.2) σ ⟨rfl, (by (try dsimp only); omega)⟩ (by (try dsimp only); omega)
      · refine jn_dup ?_
        refine ⟨fun c3 => ?_, fun c3 => ?_⟩
        · (try dsimp only)
          (try dsimp only)
          intro z16 ez16
          try have hz16 := i_add ez16 (by omega) (by omega)
          have rg_z16 := i_range z16
          exact hK3 (z16, x1.1) σ ⟨rfl, (by (try dsimp only); omega)⟩ (by (try dsimp only); omega)
        · refine ⟨by omega, ?_⟩
          intro z27 ez27
          have wz27 : z27.toInt = (sJ σ (L 38) x1.1.toInt.toNat).toInt := by rw [ez27]
          refine ⟨by omega, ?_⟩
          intro z28 ez28
          have wz28 : z28.toInt = (sJ σ (L 38) x1.2.toInt.toNat).toInt := by rw [ez28]
          refine ⟨fun c4 => ?_, fun c4 => ?_⟩
          · (try dsimp only)
            (try dsimp only)
            intro z16 ez16
            try have hz16 := i_add ez16 (by omega) (by omega)
            have rg_z16 := i_range z16
            exact hK3 (z16, x1.2) σ ⟨rfl, (by (try dsimp only); omega)⟩ (by (try dsimp only); omega)
          · (try dsimp only)
            (try dsimp only)
            intro z16 ez16
            try have hz16 := i_add ez16 (by omega) (by omega)
            have rg_z16 := i_range z16
            exact hK3 (z16, x1.1) σ ⟨rfl, (by (try dsimp only); omega)⟩ (by (try dsimp only); omega)
    · skip
      refine jn_dup ?_
      refine ⟨fun c5 => ?_, fun c5 => ?_⟩
      · (try dsimp only)
        exact hK8 0 σ ⟨rfl, (by (try dsimp only); omega)⟩
      · refine ⟨by omega, ?_⟩
        intro z34 ez34
        have vz34 := hI.aI 39 16 0 7 (by decide) (by decide) rfl rfl rfl (i := x1.1.toInt) (by omega) ez34
        have wz34 : z34.toInt = (sI σ (L 39) x1.1.toInt.toNat).toInt := by rw [ez34]
        refine ⟨fun c6 => ?_, fun c6 => ?_⟩
        · (try dsimp only)
          exact hK8 0 σ ⟨rfl, (by (try dsimp only); omega)⟩
        · exact hK8 1 σ ⟨rfl, (by (try dsimp only); omega)⟩
set_option maxRecDepth 100000 in
set_option maxHeartbeats 4000000 in
theorem s_X12_eldestOpen {h0 : Nat} {L : Nat → Nat} {σ : HS} (hI : OKM h0 L σ) (a1 : Int32)  {post : Int32 → HS → Prop} (kk : ∀ (r : Int32) (_ : -1 ≤ r.toInt ∧ r.toInt ≤ 39 ∧ (0 ≤ r.toInt → 0 < (sJ σ (L 41) r.toInt.toNat).toInt ∧ (sI σ (L 42) r.toInt.toNat).toInt = a1.toInt)), post r σ) : F_X12_eldestOpen h0 L a1 post σ := by
  unfold F_X12_eldestOpen
  have k_m1 : ((-1) : Int32).toInt = (-1) := rfl
  have k_0 : (0 : Int32).toInt = 0 := rfl
  have k_1 : (1 : Int32).toInt = 1 := rfl
  have k_40 : (40 : Int32).toInt = 40 := rfl
  have kl_0 : (0 : Int64).toInt = 0 := rfl
  have rg_a1 := i_range a1
  refine lw_in (fun (x : Int32 × Int32) (σ' : HS) => σ = σ' ∧ ((0 ≤ x.1.toInt ∧ x.1.toInt ≤ 40) ∧ (-1 ≤ x.2.toInt ∧ x.2.toInt ≤ 39) ∧ (0 ≤ x.2.toInt → 0 < (sJ σ' (L 41) x.2.toInt.toNat).toInt ∧ (sI σ' (L 42) x.2.toInt.toNat).toInt = a1.toInt))) (fun (x : Int32 × Int32) (σ' : HS) => (40 - x.1.toInt).toNat) ⟨rfl, (by (try dsimp only); omega)⟩ (fun x1 σ2 hJ K3 hK3 => ?_)
  obtain ⟨hsg, hv⟩ := hJ
  subst hsg
  (try dsimp only at hv)
  have rg_x1_1 := i_range x1.1
  have rg_x1_2 := i_range x1.2
  refine ⟨fun c1 => ?_, fun c1 => ?_⟩
  · exact kk x1.2 (by (try dsimp only); omega)
  · refine ⟨by omega, ?_⟩
    intro z5 ez5
    have wz5 : z5.toInt = (sJ σ (L 41) x1.1.toInt.toNat).toInt := by rw [ez5]
    refine jn_in (fun (x : Int32) (σ' : HS) => σ = σ' ∧ ((0 ≤ x.toInt ∧ x.toInt ≤ 1) ∧ (x.toInt ≠ 0 → 0 < (sJ σ' (L 41) x1.1.toInt.toNat).toInt ∧ (sI σ' (L 42) x1.1.toInt.toNat).toInt = a1.toInt))) (fun x6 σ7 hJ => ?_) (fun K8 hK8 => ?_)
    · obtain ⟨hsg, hv⟩ := hJ
      subst hsg
      (try dsimp only at hv)
      have rg_x6 := i_range x6
      refine jn_dup ?_
      refine jn_dup ?_
      refine ⟨fun c2 => ?_, fun c2 => ?_⟩
      · (try dsimp only)
        (try dsimp only)
        intro z16 ez16
        try have hz16 := i_add ez16 (by omega) (by omega)
        have rg_z16 := i_range z16
        exact hK3 (z16, x1.2) σ ⟨rfl, (by (try dsimp only); omega)⟩ (by (try dsimp only); omega)
      · refine jn_dup ?_
        refine ⟨fun c3 => ?_, fun c3 => ?_⟩
        · (try dsimp only)
          (try dsimp only)
          intro z16 ez16
          try have hz16 := i_add ez16 (by omega) (by omega)
          have rg_z16 := i_range z16
          exact hK3 (z16, x1.1) σ ⟨rfl, (by (try dsimp only); omega)⟩ (by (try dsimp only); omega)
        · refine ⟨by omega, ?_⟩
          intro z27 ez27
          have wz27 : z27.toInt = (sJ σ (L 41) x1.1.toInt.toNat).toInt := by rw [ez27]
          refine ⟨by omega, ?_⟩
          intro z28 ez28
          have wz28 : z28.toInt = (sJ σ (L 41) x1.2.toInt.toNat).toInt := by rw [ez28]
          refine ⟨fun c4 => ?_, fun c4 => ?_⟩
          · (try dsimp only)
            (try dsimp only)
            intro z16 ez16
            try have hz16 := i_add ez16 (by omega) (by omega)
            have rg_z16 := i_range z16
            exact hK3 (z16, x1.2) σ ⟨rfl, (by (try dsimp only); omega)⟩ (by (try dsimp only); omega)
          · (try dsimp only)
            (try dsimp only)
            intro z16 ez16
            try have hz16 := i_add ez16 (by omega) (by omega)
            have rg_z16 := i_range z16
            exact hK3 (z16, x1.1) σ ⟨rfl, (by (try dsimp only); omega)⟩ (by (try dsimp only); omega)
    · skip
      refine jn_dup ?_
      refine ⟨fun c5 => ?_, fun c5 => ?_⟩
      · (try dsimp only)
        exact hK8 0 σ ⟨rfl, (by (try dsimp only); omega)⟩
      · refine ⟨by omega, ?_⟩
        intro z34 ez34
        have vz34 := hI.aI 42 40 0 15 (by decide) (by decide) rfl rfl rfl (i := x1.1.toInt) (by omega) ez34
        have wz34 : z34.toInt = (sI σ (L 42) x1.1.toInt.toNat).toInt := by rw [ez34]
        refine ⟨fun c6 => ?_, fun c6 => ?_⟩
        · (try dsimp only)
          exact hK8 0 σ ⟨rfl, (by (try dsimp only); omega)⟩
        · exact hK8 1 σ ⟨rfl, (by (try dsimp only); omega)⟩
set_option maxRecDepth 100000 in
set_option maxHeartbeats 4000000 in
theorem s_X12_isOpened {h0 : Nat} {L : Nat → Nat} {σ : HS} (hI : OKM h0 L σ) (a1 : Int32)  {post : Int32 → HS → Prop} (kk : ∀ (r : Int32) (_ : (0 ≤ r.toInt ∧ r.toInt ≤ 1) ∧ (r.toInt = 0 → ∀ o : Nat, o < 40 → ¬ (0 < (sJ σ (L 41) o).toInt ∧ (sI σ (L 43) o).toInt = a1.toInt))), post r σ) : F_X12_isOpened h0 L a1 post σ := by
  unfold F_X12_isOpened
  have k_0 : (0 : Int32).toInt = 0 := rfl
  have k_1 : (1 : Int32).toInt = 1 := rfl
  have k_40 : (40 : Int32).toInt = 40 := rfl
  have kl_0 : (0 : Int64).toInt = 0 := rfl
  have rg_a1 := i_range a1
  refine lw_in (fun (x : Int32 × Int32) (σ' : HS) => σ = σ' ∧ ((0 ≤ x.1.toInt ∧ x.1.toInt ≤ 40) ∧ (0 ≤ x.2.toInt ∧ x.2.toInt ≤ 1)) ∧ (x.2.toInt = 0 → ∀ o : Nat, o < x.1.toInt.toNat → ¬ (0 < (sJ σ (L 41) o).toInt ∧ (sI σ (L 43) o).toInt = a1.toInt))) (fun (x : Int32 × Int32) (σ' : HS) => (40 - x.1.toInt).toNat) ⟨rfl, (by (try dsimp only); omega), (fun _ o ho => by exfalso; (try dsimp only at ho); omega)⟩ (fun x1 σ2 hJ K3 hK3 => ?_)
  obtain ⟨hsg, hv, hall⟩ := hJ
  subst hsg
  (try dsimp only at hv)
  have rg_x1_1 := i_range x1.1
  have rg_x1_2 := i_range x1.2
  refine ⟨fun c1 => ?_, fun c1 => ?_⟩
  · refine ⟨by omega, ?_⟩
    exact kk x1.2 ⟨(by (try dsimp only); omega), fun q o ho => hall q o (by omega)⟩
  · refine ⟨by omega, ?_⟩
    intro z5 ez5
    have wz5 : z5.toInt = (sJ σ (L 41) x1.1.toInt.toNat).toInt := by rw [ez5]
    refine jn_dup ?_
    refine jn_dup ?_
    refine ⟨fun c2 => ?_, fun c2 => ?_⟩
    · (try dsimp only)
      (try dsimp only)
      intro z11 ez11
      try have hz11 := i_orm ez11 (by omega) (by omega)
      try have h2z11 := i_or ez11 (by omega) (by omega)
      have rg_z11 := i_range z11
      intro z12 ez12
      try have hz12 := i_add ez12 (by omega) (by omega)
      have rg_z12 := i_range z12
      exact hK3 (z12, z11) σ ⟨rfl, (by (try dsimp only); omega), (fun hg o ho => by (try dsimp only at *); rcases (show o < x1.1.toInt.toNat ∨ o = x1.1.toInt.toNat by omega) with q | q; exact hall (by omega) o q; subst q; omega)⟩ (by (try dsimp only); omega)
    · refine ⟨by omega, ?_⟩
      intro z18 ez18
      have vz18 := hI.aI 43 40 0 79 (by decide) (by decide) rfl rfl rfl (i := x1.1.toInt) (by omega) ez18
      have wz18 : z18.toInt = (sI σ (L 43) x1.1.toInt.toNat).toInt := by rw [ez18]
      refine ⟨fun c3 => ?_, fun c3 => ?_⟩
      · (try dsimp only)
        (try dsimp only)
        intro z11 ez11
        try have hz11 := i_orm ez11 (by omega) (by omega)
        try have h2z11 := i_or ez11 (by omega) (by omega)
        have rg_z11 := i_range z11
        intro z12 ez12
        try have hz12 := i_add ez12 (by omega) (by omega)
        have rg_z12 := i_range z12
        exact hK3 (z12, z11) σ ⟨rfl, (by (try dsimp only); omega), (fun hg o ho => by (try dsimp only at *); rcases (show o < x1.1.toInt.toNat ∨ o = x1.1.toInt.toNat by omega) with q | q; exact hall (by omega) o q; subst q; omega)⟩ (by (try dsimp only); omega)
      · (try dsimp only)
        intro z11 ez11
        try have hz11 := i_orm ez11 (by omega) (by omega)
        try have h2z11 := i_or ez11 (by omega) (by omega)
        have rg_z11 := i_range z11
        intro z12 ez12
        try have hz12 := i_add ez12 (by omega) (by omega)
        have rg_z12 := i_range z12
        exact hK3 (z12, z11) σ ⟨rfl, (by (try dsimp only); omega), (fun hg o ho => by (try dsimp only at *); rcases (show o < x1.1.toInt.toNat ∨ o = x1.1.toInt.toNat by omega) with q | q; exact hall (by omega) o q; subst q; omega)⟩ (by (try dsimp only); omega)
set_option maxRecDepth 100000 in
set_option maxHeartbeats 4000000 in
theorem s_X12_isEmpty {h0 : Nat} {L : Nat → Nat} {σ : HS} (hI : OKM h0 L σ) (a1 : Int32)  {post : Int32 → HS → Prop} (kk : ∀ (r : Int32) (_ : (0 ≤ r.toInt ∧ r.toInt ≤ 1) ∧ (r.toInt = 1 → ∀ o : Nat, o < 80 → ¬ ((sI σ (L 1) o).toInt = 1 ∧ (sI σ (L 2) o).toInt = a1.toInt))), post r σ) : F_X12_isEmpty h0 L a1 post σ := by
  unfold F_X12_isEmpty
  have k_0 : (0 : Int32).toInt = 0 := rfl
  have k_1 : (1 : Int32).toInt = 1 := rfl
  have k_80 : (80 : Int32).toInt = 80 := rfl
  have rg_a1 := i_range a1
  refine lw_in (fun (x : Int32 × Int32) (σ' : HS) => σ = σ' ∧ ((0 ≤ x.1.toInt ∧ x.1.toInt ≤ 80) ∧ (0 ≤ x.2.toInt ∧ x.2.toInt ≤ 1)) ∧ (x.2.toInt = 0 → ∀ o : Nat, o < x.1.toInt.toNat → ¬ ((sI σ (L 1) o).toInt = 1 ∧ (sI σ (L 2) o).toInt = a1.toInt))) (fun (x : Int32 × Int32) (σ' : HS) => (80 - x.1.toInt).toNat) ⟨rfl, (by (try dsimp only); omega), (fun _ o ho => by exfalso; (try dsimp only at ho); omega)⟩ (fun x1 σ2 hJ K3 hK3 => ?_)
  obtain ⟨hsg, hv, hall⟩ := hJ
  subst hsg
  (try dsimp only at hv)
  have rg_x1_1 := i_range x1.1
  have rg_x1_2 := i_range x1.2
  refine ⟨fun c1 => ?_, fun c1 => ?_⟩
  · refine jn_dup ?_
    refine ⟨fun c2 => ?_, fun c2 => ?_⟩
    · (try dsimp only)
      refine ⟨by omega, ?_⟩
      exact kk 0 ⟨(by (try dsimp only); omega), fun q o ho => hall (by omega) o (by omega)⟩
    · (try dsimp only)
      refine ⟨by omega, ?_⟩
      exact kk 1 ⟨(by (try dsimp only); omega), fun q o ho => hall (by omega) o (by omega)⟩
  · refine ⟨by omega, ?_⟩
    intro z10 ez10
    have vz10 := hI.aI 1 160 0 1 (by decide) (by decide) rfl rfl rfl (i := x1.1.toInt) (by omega) ez10
    have wz10 : z10.toInt = (sI σ (L 1) x1.1.toInt.toNat).toInt := by rw [ez10]
    refine jn_dup ?_
    refine jn_dup ?_
    refine ⟨fun c3 => ?_, fun c3 => ?_⟩
    · (try dsimp only)
      (try dsimp only)
      intro z16 ez16
      try have hz16 := i_orm ez16 (by omega) (by omega)
      try have h2z16 := i_or ez16 (by omega) (by omega)
      have rg_z16 := i_range z16
      intro z17 ez17
      try have hz17 := i_add ez17 (by omega) (by omega)
      have rg_z17 := i_range z17
      exact hK3 (z17, z16) σ ⟨rfl, (by (try dsimp only); omega), (fun hg o ho => by (try dsimp only at *); rcases (show o < x1.1.toInt.toNat ∨ o = x1.1.toInt.toNat by omega) with q | q; exact hall (by omega) o q; subst q; omega)⟩ (by (try dsimp only); omega)
    · refine ⟨by omega, ?_⟩
      intro z23 ez23
      have vz23 := hI.aI 2 160 (-1) 79 (by decide) (by decide) rfl rfl rfl (i := x1.1.toInt) (by omega) ez23
      have wz23 : z23.toInt = (sI σ (L 2) x1.1.toInt.toNat).toInt := by rw [ez23]
      refine ⟨fun c4 => ?_, fun c4 => ?_⟩
      · (try dsimp only)
        (try dsimp only)
        intro z16 ez16
        try have hz16 := i_orm ez16 (by omega) (by omega)
        try have h2z16 := i_or ez16 (by omega) (by omega)
        have rg_z16 := i_range z16
        intro z17 ez17
        try have hz17 := i_add ez17 (by omega) (by omega)
        have rg_z17 := i_range z17
        exact hK3 (z17, z16) σ ⟨rfl, (by (try dsimp only); omega), (fun hg o ho => by (try dsimp only at *); rcases (show o < x1.1.toInt.toNat ∨ o = x1.1.toInt.toNat by omega) with q | q; exact hall (by omega) o q; subst q; omega)⟩ (by (try dsimp only); omega)
      · (try dsimp only)
        intro z16 ez16
        try have hz16 := i_orm ez16 (by omega) (by omega)
        try have h2z16 := i_or ez16 (by omega) (by omega)
        have rg_z16 := i_range z16
        intro z17 ez17
        try have hz17 := i_add ez17 (by omega) (by omega)
        have rg_z17 := i_range z17
        exact hK3 (z17, z16) σ ⟨rfl, (by (try dsimp only); omega), (fun hg o ho => by (try dsimp only at *); rcases (show o < x1.1.toInt.toNat ∨ o = x1.1.toInt.toNat by omega) with q | q; exact hall (by omega) o q; subst q; omega)⟩ (by (try dsimp only); omega)
set_option maxRecDepth 100000 in
set_option maxHeartbeats 4000000 in
theorem s_X12_openWith {h0 : Nat} {L : Nat → Nat} {σ : HS} (hI : OKM h0 L σ) (a1 : Int32) (a2 : Int32)  {post : Int32 → HS → Prop} (kk : ∀ (r : Int32) (_ : -1 ≤ r.toInt ∧ r.toInt ≤ 39), post r σ) : F_X12_openWith h0 L a1 a2 post σ := by
  unfold F_X12_openWith
  have k_m1 : ((-1) : Int32).toInt = (-1) := rfl
  have k_0 : (0 : Int32).toInt = 0 := rfl
  have k_1 : (1 : Int32).toInt = 1 := rfl
  have k_40 : (40 : Int32).toInt = 40 := rfl
  have kl_0 : (0 : Int64).toInt = 0 := rfl
  have rg_a1 := i_range a1
  have rg_a2 := i_range a2
  refine lw_in (fun (x : Int32) (σ' : HS) => σ = σ' ∧ ((0 ≤ x.toInt ∧ x.toInt ≤ 40))) (fun (x : Int32) (σ' : HS) => (40 - x.toInt).toNat) ⟨rfl, (by (try dsimp only); omega)⟩ (fun x1 σ2 hJ K3 hK3 => ?_)
  obtain ⟨hsg, hv⟩ := hJ
  subst hsg
  (try dsimp only at hv)
  have rg_x1 := i_range x1
  refine ⟨fun c1 => ?_, fun c1 => ?_⟩
  · exact kk (-1) (by (try dsimp only); omega)
  · refine ⟨by omega, ?_⟩
    intro z5 ez5
    have wz5 : z5.toInt = (sJ σ (L 41) x1.toInt.toNat).toInt := by rw [ez5]
    refine jn_in (fun (x : Int32) (σ' : HS) => σ = σ' ∧ ((0 ≤ x.toInt ∧ x.toInt ≤ 1))) (fun x6 σ7 hJ => ?_) (fun K8 hK8 => ?_)
    · obtain ⟨hsg, hv⟩ := hJ
      subst hsg
      (try dsimp only at hv)
      have rg_x6 := i_range x6
      refine jn_dup ?_
      refine ⟨fun c2 => ?_, fun c2 => ?_⟩
      · (try dsimp only)
        intro z16 ez16
        try have hz16 := i_add ez16 (by omega) (by omega)
        have rg_z16 := i_range z16
        exact hK3 z16 σ ⟨rfl, (by (try dsimp only); omega)⟩ (by (try dsimp only); omega)
      · refine jn_dup ?_
        refine ⟨fun c3 => ?_, fun c3 => ?_⟩
        · refine ⟨by omega, ?_⟩
          intro z22 ez22
          have vz22 := hI.aI 46 40 0 255 (by decide) (by decide) rfl rfl rfl (i := x1.toInt) (by omega) ez22
          have wz22 : z22.toInt = (sI σ (L 46) x1.toInt.toNat).toInt := by rw [ez22]
          refine ⟨fun c4 => ?_, fun c4 => ?_⟩
          · (try dsimp only)
            intro z16 ez16
            try have hz16 := i_add ez16 (by omega) (by omega)
            have rg_z16 := i_range z16
            exact hK3 z16 σ ⟨rfl, (by (try dsimp only); omega)⟩ (by (try dsimp only); omega)
          · (try dsimp only)
            exact kk x1 (by (try dsimp only); omega)
        · refine ⟨by omega, ?_⟩
          intro z23 ez23
          have vz23 := hI.aI 47 40 0 1 (by decide) (by decide) rfl rfl rfl (i := x1.toInt) (by omega) ez23
          have wz23 : z23.toInt = (sI σ (L 47) x1.toInt.toNat).toInt := by rw [ez23]
          refine ⟨fun c5 => ?_, fun c5 => ?_⟩
          · (try dsimp only)
            intro z16 ez16
            try have hz16 := i_add ez16 (by omega) (by omega)
            have rg_z16 := i_range z16
            exact hK3 z16 σ ⟨rfl, (by (try dsimp only); omega)⟩ (by (try dsimp only); omega)
          · (try dsimp only)
            exact kk x1 (by (try dsimp only); omega)
    · skip
      refine jn_dup ?_
      refine ⟨fun c6 => ?_, fun c6 => ?_⟩
      · (try dsimp only)
        exact hK8 0 σ ⟨rfl, (by (try dsimp only); omega)⟩
      · refine ⟨by omega, ?_⟩
        intro z29 ez29
        have vz29 := hI.aI 43 40 0 79 (by decide) (by decide) rfl rfl rfl (i := x1.toInt) (by omega) ez29
        have wz29 : z29.toInt = (sI σ (L 43) x1.toInt.toNat).toInt := by rw [ez29]
        refine ⟨fun c7 => ?_, fun c7 => ?_⟩
        · (try dsimp only)
          exact hK8 0 σ ⟨rfl, (by (try dsimp only); omega)⟩
        · exact hK8 1 σ ⟨rfl, (by (try dsimp only); omega)⟩
set_option maxRecDepth 100000 in
set_option maxHeartbeats 4000000 in
theorem s_X12_nodes {h0 : Nat} {L : Nat → Nat} {σ : HS} (hI : OKM h0 L σ) (a1 : Int32) (hz : 0 ≤ a1.toInt ∧ a1.toInt ≤ 80) {post : Int32 → HS → Prop} (kk : ∀ (r : Int32) (_ : (0 ≤ r.toInt ∧ r.toInt ≤ 80) ∧ (a1.toInt = 0 → (∀ o : Nat, o < 80 → (sI σ (L 1) o).toInt = 1) → r.toInt = 80)), post r σ) : F_X12_nodes h0 L a1 post σ := by
  unfold F_X12_nodes
  have k_0 : (0 : Int32).toInt = 0 := rfl
  have k_1 : (1 : Int32).toInt = 1 := rfl
  have k_80 : (80 : Int32).toInt = 80 := rfl
  have rg_a1 := i_range a1
  refine lw_in (fun (x : Int32 × Int32) (σ' : HS) => σ = σ' ∧ ((0 ≤ x.1.toInt ∧ x.1.toInt ≤ 160) ∧ (a1.toInt ≤ x.1.toInt) ∧ (x.1.toInt ≤ a1.toInt + 80) ∧ (0 ≤ x.2.toInt) ∧ (x.2.toInt ≤ x.1.toInt - a1.toInt)) ∧ (a1.toInt = 0 → (∀ o : Nat, o < 80 → (sI σ (L 1) o).toInt = 1) → x.2.toInt = x.1.toInt)) (fun (x : Int32 × Int32) (σ' : HS) => (160 - x.1.toInt).toNat) ⟨rfl, (by (try dsimp only); omega), (fun q _ => by (try dsimp only); omega)⟩ (fun x1 σ2 hJ K3 hK3 => ?_)
  obtain ⟨hsg, hv, hall⟩ := hJ
  subst hsg
  (try dsimp only at hv)
  have rg_x1_1 := i_range x1.1
  have rg_x1_2 := i_range x1.2
  intro z5 ez5
  try have hz5 := i_add ez5 (by omega) (by omega)
  have rg_z5 := i_range z5
  refine ⟨fun c1 => ?_, fun c1 => ?_⟩
  · exact kk x1.2 ⟨(by (try dsimp only); omega), fun q q2 => by have h1 := hall q q2; omega⟩
  · refine ⟨by omega, ?_⟩
    intro z6 ez6
    have vz6 := hI.aI 1 160 0 1 (by decide) (by decide) rfl rfl rfl (i := x1.1.toInt) (by omega) ez6
    have wz6 : z6.toInt = (sI σ (L 1) x1.1.toInt.toNat).toInt := by rw [ez6]
    refine jn_dup ?_
    refine ⟨fun c2 => ?_, fun c2 => ?_⟩
    · (try dsimp only)
      intro z12 ez12
      try have hz12 := i_add ez12 (by omega) (by omega)
      have rg_z12 := i_range z12
      intro z13 ez13
      try have hz13 := i_add ez13 (by omega) (by omega)
      have rg_z13 := i_range z13
      exact hK3 (z13, z12) σ ⟨rfl, (by (try dsimp only); omega), (fun q q2 => by have h1 := hall q q2; have h2 := q2 x1.1.toInt.toNat (by omega); (try dsimp only); omega)⟩ (by (try dsimp only); omega)
    · (try dsimp only)
      intro z12 ez12
      try have hz12 := i_add ez12 (by omega) (by omega)
      have rg_z12 := i_range z12
      intro z13 ez13
      try have hz13 := i_add ez13 (by omega) (by omega)
      have rg_z13 := i_range z13
      exact hK3 (z13, z12) σ ⟨rfl, (by (try dsimp only); omega), (fun q q2 => by have h1 := hall q q2; have h2 := q2 x1.1.toInt.toNat (by omega); (try dsimp only); omega)⟩ (by (try dsimp only); omega)
set_option maxRecDepth 100000 in
set_option maxHeartbeats 4000000 in
theorem s_X12_freeNode {h0 : Nat} {L : Nat → Nat} {σ : HS} (hI : OKM h0 L σ)   {post : Int32 → HS → Prop} (kk : ∀ (r : Int32) (_ : (0 ≤ r.toInt ∧ r.toInt ≤ 80) ∧ (r.toInt < 80 → (sI σ (L 1) r.toInt.toNat).toInt = 0) ∧ (r.toInt = 80 → ∀ o : Nat, o < 80 → (sI σ (L 1) o).toInt = 1)), post r σ) : F_X12_freeNode h0 L  post σ := by
  unfold F_X12_freeNode
  have k_0 : (0 : Int32).toInt = 0 := rfl
  have k_1 : (1 : Int32).toInt = 1 := rfl
  have k_80 : (80 : Int32).toInt = 80 := rfl
  refine lw_in (fun (x : Int32) (σ' : HS) => σ = σ' ∧ ((0 ≤ x.toInt ∧ x.toInt ≤ 80)) ∧ (∀ o : Nat, o < x.toInt.toNat → (sI σ (L 1) o).toInt = 1)) (fun (x : Int32) (σ' : HS) => (80 - x.toInt).toNat) ⟨rfl, (by (try dsimp only); omega), (fun o ho => by exfalso; (try dsimp only at ho); omega)⟩ (fun x1 σ2 hJ K3 hK3 => ?_)
  obtain ⟨hsg, hv, hall⟩ := hJ
  subst hsg
  (try dsimp only at hv)
  have rg_x1 := i_range x1
  refine jn_dup ?_
  refine ⟨fun c1 => ?_, fun c1 => ?_⟩
  · (try dsimp only)
    exact kk x1 ⟨(by (try dsimp only); omega), fun q => by omega, fun q o ho => hall o (by omega)⟩
  · refine ⟨by omega, ?_⟩
    intro z10 ez10
    have vz10 := hI.aI 1 160 0 1 (by decide) (by decide) rfl rfl rfl (i := x1.toInt) (by omega) ez10
    have wz10 : z10.toInt = (sI σ (L 1) x1.toInt.toNat).toInt := by rw [ez10]
    refine ⟨fun c2 => ?_, fun c2 => ?_⟩
    · (try dsimp only)
      exact kk x1 ⟨(by (try dsimp only); omega), fun q => by omega, fun q o ho => hall o (by omega)⟩
    · intro z11 ez11
      try have hz11 := i_add ez11 (by omega) (by omega)
      have rg_z11 := i_range z11
      exact hK3 z11 σ ⟨rfl, (by (try dsimp only); omega), (fun o ho => by (try dsimp only at *); rcases (show o < x1.toInt.toNat ∨ o = x1.toInt.toNat by omega) with q | q; exact hall o q; subst q; omega)⟩ (by (try dsimp only); omega)

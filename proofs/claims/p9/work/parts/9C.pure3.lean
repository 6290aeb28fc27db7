/-! the class: pure methods over the house's lists -/
set_option maxRecDepth 100000 in
set_option maxHeartbeats 4000000 in
theorem t_X9_isWithin {G : GE} {E : CE} {W : CW} {c : Int} {κ : CS} (hV : CV G E W c κ) (h : Nat) (hs_h : W.1 h = 6) (a1 : Option Nat) (n_a1 : a1 = none ∨ ∃ b, a1 = some b ∧ W.1 b = 5) (a2 : Option Nat) (n_a2 : a2 = none ∨ ∃ b, a2 = some b ∧ W.1 b = 5)  {post : Int32 → CS → Prop} (kk : ∀ r : Int32, (0 ≤ r.toInt ∧ r.toInt ≤ 1) → post r κ) : F_X9_isWithin G h a1 a2 post κ := by
  unfold F_X9_isWithin
  have k_0 : (0 : Int32).toInt = 0 := rfl
  have k_1 : (1 : Int32).toInt = 1 := rfl
  have kl_0 : (0 : Int64).toInt = 0 := rfl
  have kl_1 : (1 : Int64).toInt = 1 := rfl
  refine lc_in (fun (x : Int32 × Option Nat) (κ' : CS) => κ = κ' ∧ (((0 ≤ x.1.toInt)) ∧ (x.2 = none ∨ ∃ b, x.2 = some b ∧ W.1 b = 5))) (fun (x : Int32 × Option Nat) (_ : CS) => (2147483647 - x.1.toInt).toNat) ⟨rfl, ⟨(by (try dsimp only); omega), n_a1⟩⟩ (fun x1 κ2 hJ K3 hK3 => ?_)
  obtain ⟨hsg, hv⟩ := hJ
  subst hsg
  (try dsimp only at hv)
  obtain ⟨hv, nq5_1⟩ := hv
  (try dsimp only at hv)
  have rg_x1_1 := i_range x1.1
  refine ⟨(hV.mm hs_h (by decide) rfl), ?_⟩
  intro z5 ez5
  obtain ⟨bz5, ebz5, hsz5⟩ := hV.1.nn hs_h (by decide) rfl 0 rfl (by decide)
  rw [← ez5] at ebz5
  refine ⟨(W.2 bz5), (AL.of hV ebz5 hsz5 (by decide) rfl (by decide)), ?_⟩
  intro z6 ez6
  have lnz6 := nI_ln ez6 (hV.lm hsz5 (by decide) rfl)
  have lmz6 := (hV.lm hsz5 (by decide) rfl)
  have lxz6 := hV.1.fx hsz5 (by decide) rfl 80 rfl (by decide)
  refine jc_dup ?_
  refine ⟨fun c1 => ?_, fun c1 => ?_⟩
  · (try dsimp only)
    refine ⟨by omega, ?_⟩
    exact kk 0 (by omega)
  · refine ⟨fun c2 => ?_, fun c2 => ?_⟩
    · (try dsimp only)
      refine ⟨by omega, ?_⟩
      exact kk 0 (by omega)
    · obtain ⟨bn1, ebn1, hsn1⟩ := nq5_1.resolve_left c2
      refine ⟨fun c3 => ?_, fun c3 => ?_⟩
      · refine ⟨bn1, ebn1, (hV.mm hsn1 (by decide) rfl), ?_⟩
        intro z12 ez12
        have vz12 := hV.1.iv hsn1 (by decide) rfl 4 (-2147483648) 2147483647 rfl ez12
        have wz12 : z12.toInt = (sI κ.1 bn1 4).toInt := by rw [ez12]
        refine ⟨(hV.mm hs_h (by decide) rfl), ?_⟩
        refine t_X9_node hV h hs_h z12  (fun z14 pz14 => ?_)
        intro z15 ez15
        try have hz15 := i_add ez15 (by omega) (by omega)
        have rg_z15 := i_range z15
        exact hK3 (z15, z14) κ ⟨rfl, ⟨(by (try dsimp only); omega), pz14⟩⟩ (by (try dsimp only); omega)
      · refine ⟨by omega, ?_⟩
        exact kk 1 (by omega)
set_option maxRecDepth 100000 in
set_option maxHeartbeats 4000000 in
theorem t_X11_canBe {G : GE} {E : CE} {W : CW} {c : Int} {κ : CS} (hV : CV G E W c κ) (h : Nat) (hs_h : W.1 h = 1) (a1 : Option Nat) (b_a1 : Nat) (e_a1 : a1 = some b_a1) (hs_a1 : W.1 b_a1 = 9)  {post : Int32 → CS → Prop} (kk : ∀ r : Int32, (0 ≤ r.toInt ∧ r.toInt ≤ 1) → post r κ) : F_X11_canBe G h a1 post κ := by
  unfold F_X11_canBe
  have k_0 : (0 : Int32).toInt = 0 := rfl
  have k_1 : (1 : Int32).toInt = 1 := rfl
  have kl_0 : (0 : Int64).toInt = 0 := rfl
  have kl_1 : (1 : Int64).toInt = 1 := rfl
  refine lc_in (fun (x : Int32) (κ' : CS) => κ = κ' ∧ (((0 ≤ x.toInt)))) (fun (x : Int32) (_ : CS) => (2147483647 - x.toInt).toNat) ⟨rfl, (by (try dsimp only); omega)⟩ (fun x1 κ2 hJ K3 hK3 => ?_)
  obtain ⟨hsg, hv⟩ := hJ
  subst hsg
  (try dsimp only at hv)
  have rg_x1 := i_range x1
  refine ⟨(hV.mm hs_h (by decide) rfl), ?_⟩
  intro z5 ez5
  obtain ⟨bz5, ebz5, hsz5⟩ := hV.1.nn hs_h (by decide) rfl 11 rfl (by decide)
  rw [← ez5] at ebz5
  refine ⟨bz5, ebz5, (hV.mm hsz5 (by decide) rfl), ?_⟩
  refine t_Jx4a65c_size_8abf5 hV bz5 hsz5 (by decide) (fun z7 pz7 => ?_)
  have rg_z7 := i_range z7
  refine ⟨fun c1 => ?_, fun c1 => ?_⟩
  · refine ⟨by omega, ?_⟩
    exact kk 1 (by omega)
  · refine ⟨(hV.mm hs_h (by decide) rfl), ?_⟩
    intro z8 ez8
    have ebz8 : z8 = some bz5 := (ez8.trans ez5.symm).trans ebz5
    refine ⟨bz5, ebz8, (hV.mm hsz5 (by decide) rfl), ?_⟩
    refine t_Jx4a65c_get_915e3 hV bz5 hsz5 (by decide) x1 (by omega) (fun z10 pz10 => ?_)
    obtain ⟨bz10, ebz10, hsz10⟩ := pz10
    have hsz10 : W.1 bz10 = 9 := hsz10
    refine ⟨Or.inr ⟨bz10, ebz10, (hV.mm hsz10 (by decide) rfl)⟩, ?_⟩
    refine ⟨bz10, ebz10, (hV.mm hsz10 (by decide) rfl), ?_⟩
    intro z11 ez11
    obtain ⟨bz11, ebz11, hsz11⟩ := hV.1.nn hsz10 (by decide) rfl 0 rfl (by decide)
    rw [← ez11] at ebz11
    refine ⟨bz11, ebz11, (hV.mm hsz11 (by decide) rfl), ?_⟩
    intro z12 ez12
    obtain ⟨bz12, ebz12, hsz12⟩ := hV.1.nn hsz11 (by decide) rfl 2 rfl (by decide)
    rw [← ez12] at ebz12
    refine ⟨b_a1, e_a1, (hV.mm hs_a1 (by decide) rfl), ?_⟩
    intro z13 ez13
    obtain ⟨bz13, ebz13, hsz13⟩ := hV.1.nn hs_a1 (by decide) rfl 0 rfl (by decide)
    rw [← ez13] at ebz13
    refine ⟨bz13, ebz13, (hV.mm hsz13 (by decide) rfl), ?_⟩
    intro z14 ez14
    obtain ⟨bz14, ebz14, hsz14⟩ := hV.1.nn hsz13 (by decide) rfl 2 rfl (by decide)
    rw [← ez14] at ebz14
    refine jc_dup ?_
    refine ⟨fun c2 => ?_, fun c2 => ?_⟩
    · (try dsimp only)
      intro z20 ez20
      try have hz20 := i_add ez20 (by omega) (by omega)
      have rg_z20 := i_range z20
      exact hK3 z20 κ ⟨rfl, (by (try dsimp only); omega)⟩ (by (try dsimp only); omega)
    · refine ⟨bz10, ebz10, (hV.mm hsz10 (by decide) rfl), ?_⟩
      intro z21 ez21
      have vz21 := hV.1.iv hsz10 (by decide) rfl 3 0 1 rfl ez21
      have wz21 : z21.toInt = (sI κ.1 bz10 3).toInt := by rw [ez21]
      refine jc_dup ?_
      refine ⟨fun c3 => ?_, fun c3 => ?_⟩
      · (try dsimp only)
        refine ⟨b_a1, e_a1, (hV.mm hs_a1 (by decide) rfl), ?_⟩
        intro z27 ez27
        have vz27 := l_range z27
        have wz27 : z27.toInt = (sJ κ.1 b_a1 1).toInt := by rw [ez27]
        refine ⟨b_a1, e_a1, (hV.mm hs_a1 (by decide) rfl), ?_⟩
        intro z28 ez28
        have vz28 := l_range z28
        have wz28 : z28.toInt = (sJ κ.1 b_a1 2).toInt := by rw [ez28]
        refine ⟨bz10, ebz10, (hV.mm hsz10 (by decide) rfl), ?_⟩
        refine t_X3_meets hV bz10 hsz10 z27 z28  (fun z30 pz30 => ?_)
        have rg_z30 := i_range z30
        refine ⟨fun c4 => ?_, fun c4 => ?_⟩
        · (try dsimp only)
          intro z20 ez20
          try have hz20 := i_add ez20 (by omega) (by omega)
          have rg_z20 := i_range z20
          exact hK3 z20 κ ⟨rfl, (by (try dsimp only); omega)⟩ (by (try dsimp only); omega)
        · refine ⟨by omega, ?_⟩
          exact kk 0 (by omega)
      · refine ⟨b_a1, e_a1, (hV.mm hs_a1 (by decide) rfl), ?_⟩
        intro z31 ez31
        have vz31 := hV.1.iv hs_a1 (by decide) rfl 3 0 1 rfl ez31
        have wz31 : z31.toInt = (sI κ.1 b_a1 3).toInt := by rw [ez31]
        refine ⟨fun c5 => ?_, fun c5 => ?_⟩
        · (try dsimp only)
          intro z20 ez20
          try have hz20 := i_add ez20 (by omega) (by omega)
          have rg_z20 := i_range z20
          exact hK3 z20 κ ⟨rfl, (by (try dsimp only); omega)⟩ (by (try dsimp only); omega)
        · (try dsimp only)
          refine ⟨b_a1, e_a1, (hV.mm hs_a1 (by decide) rfl), ?_⟩
          intro z27 ez27
          have vz27 := l_range z27
          have wz27 : z27.toInt = (sJ κ.1 b_a1 1).toInt := by rw [ez27]
          refine ⟨b_a1, e_a1, (hV.mm hs_a1 (by decide) rfl), ?_⟩
          intro z28 ez28
          have vz28 := l_range z28
          have wz28 : z28.toInt = (sJ κ.1 b_a1 2).toInt := by rw [ez28]
          refine ⟨bz10, ebz10, (hV.mm hsz10 (by decide) rfl), ?_⟩
          refine t_X3_meets hV bz10 hsz10 z27 z28  (fun z30 pz30 => ?_)
          have rg_z30 := i_range z30
          refine ⟨fun c6 => ?_, fun c6 => ?_⟩
          · (try dsimp only)
            intro z20 ez20
            try have hz20 := i_add ez20 (by omega) (by omega)
            have rg_z20 := i_range z20
            exact hK3 z20 κ ⟨rfl, (by (try dsimp only); omega)⟩ (by (try dsimp only); omega)
          · refine ⟨by omega, ?_⟩
            exact kk 0 (by omega)
set_option maxRecDepth 100000 in
set_option maxHeartbeats 4000000 in
theorem t_X11_isOpened {G : GE} {E : CE} {W : CW} {c : Int} {κ : CS} (hV : CV G E W c κ) (h : Nat) (hs_h : W.1 h = 1) (a1 : Option Nat) (b_a1 : Nat) (e_a1 : a1 = some b_a1) (hs_a1 : W.1 b_a1 = 5)  {post : Int32 → CS → Prop} (kk : ∀ r : Int32, (0 ≤ r.toInt ∧ r.toInt ≤ 1) → post r κ) : F_X11_isOpened G h a1 post κ := by
  unfold F_X11_isOpened
  have k_0 : (0 : Int32).toInt = 0 := rfl
  have k_1 : (1 : Int32).toInt = 1 := rfl
  have kl_0 : (0 : Int64).toInt = 0 := rfl
  have kl_1 : (1 : Int64).toInt = 1 := rfl
  refine lc_in (fun (x : Int32) (κ' : CS) => κ = κ' ∧ (((0 ≤ x.toInt)))) (fun (x : Int32) (_ : CS) => (2147483647 - x.toInt).toNat) ⟨rfl, (by (try dsimp only); omega)⟩ (fun x1 κ2 hJ K3 hK3 => ?_)
  obtain ⟨hsg, hv⟩ := hJ
  subst hsg
  (try dsimp only at hv)
  have rg_x1 := i_range x1
  refine ⟨(hV.mm hs_h (by decide) rfl), ?_⟩
  intro z5 ez5
  obtain ⟨bz5, ebz5, hsz5⟩ := hV.1.nn hs_h (by decide) rfl 10 rfl (by decide)
  rw [← ez5] at ebz5
  refine ⟨bz5, ebz5, (hV.mm hsz5 (by decide) rfl), ?_⟩
  refine t_Jx4a65c_size_8abf5 hV bz5 hsz5 (by decide) (fun z7 pz7 => ?_)
  have rg_z7 := i_range z7
  refine ⟨fun c1 => ?_, fun c1 => ?_⟩
  · refine ⟨by omega, ?_⟩
    exact kk 0 (by omega)
  · refine ⟨(hV.mm hs_h (by decide) rfl), ?_⟩
    intro z8 ez8
    have ebz8 : z8 = some bz5 := (ez8.trans ez5.symm).trans ebz5
    refine ⟨bz5, ebz8, (hV.mm hsz5 (by decide) rfl), ?_⟩
    refine t_Jx4a65c_get_915e3 hV bz5 hsz5 (by decide) x1 (by omega) (fun z10 pz10 => ?_)
    obtain ⟨bz10, ebz10, hsz10⟩ := pz10
    have hsz10 : W.1 bz10 = 10 := hsz10
    refine ⟨Or.inr ⟨bz10, ebz10, (hV.mm hsz10 (by decide) rfl)⟩, ?_⟩
    refine ⟨bz10, ebz10, (hV.mm hsz10 (by decide) rfl), ?_⟩
    intro z11 ez11
    obtain ⟨bz11, ebz11, hsz11⟩ := hV.1.nn hsz10 (by decide) rfl 2 rfl (by decide)
    rw [← ez11] at ebz11
    refine ⟨fun c2 => ?_, fun c2 => ?_⟩
    · intro z12 ez12
      try have hz12 := i_add ez12 (by omega) (by omega)
      have rg_z12 := i_range z12
      exact hK3 z12 κ ⟨rfl, (by (try dsimp only); omega)⟩ (by (try dsimp only); omega)
    · refine ⟨by omega, ?_⟩
      exact kk 1 (by omega)
set_option maxRecDepth 100000 in
set_option maxHeartbeats 4000000 in
theorem t_X11_hasLocks {G : GE} {E : CE} {W : CW} {c : Int} {κ : CS} (hV : CV G E W c κ) (h : Nat) (hs_h : W.1 h = 1) (a1 : Option Nat) (b_a1 : Nat) (e_a1 : a1 = some b_a1) (hs_a1 : W.1 b_a1 = 5)  {post : Int32 → CS → Prop} (kk : ∀ r : Int32, (0 ≤ r.toInt ∧ r.toInt ≤ 1) → post r κ) : F_X11_hasLocks G h a1 post κ := by
  unfold F_X11_hasLocks
  have k_0 : (0 : Int32).toInt = 0 := rfl
  have k_1 : (1 : Int32).toInt = 1 := rfl
  have kl_0 : (0 : Int64).toInt = 0 := rfl
  have kl_1 : (1 : Int64).toInt = 1 := rfl
  refine lc_in (fun (x : Int32) (κ' : CS) => κ = κ' ∧ (((0 ≤ x.toInt)))) (fun (x : Int32) (_ : CS) => (2147483647 - x.toInt).toNat) ⟨rfl, (by (try dsimp only); omega)⟩ (fun x1 κ2 hJ K3 hK3 => ?_)
  obtain ⟨hsg, hv⟩ := hJ
  subst hsg
  (try dsimp only at hv)
  have rg_x1 := i_range x1
  refine ⟨(hV.mm hs_h (by decide) rfl), ?_⟩
  intro z5 ez5
  obtain ⟨bz5, ebz5, hsz5⟩ := hV.1.nn hs_h (by decide) rfl 11 rfl (by decide)
  rw [← ez5] at ebz5
  refine ⟨bz5, ebz5, (hV.mm hsz5 (by decide) rfl), ?_⟩
  refine t_Jx4a65c_size_8abf5 hV bz5 hsz5 (by decide) (fun z7 pz7 => ?_)
  have rg_z7 := i_range z7
  refine ⟨fun c1 => ?_, fun c1 => ?_⟩
  · refine ⟨by omega, ?_⟩
    exact kk 0 (by omega)
  · refine ⟨(hV.mm hs_h (by decide) rfl), ?_⟩
    intro z8 ez8
    have ebz8 : z8 = some bz5 := (ez8.trans ez5.symm).trans ebz5
    refine ⟨bz5, ebz8, (hV.mm hsz5 (by decide) rfl), ?_⟩
    refine t_Jx4a65c_get_915e3 hV bz5 hsz5 (by decide) x1 (by omega) (fun z10 pz10 => ?_)
    obtain ⟨bz10, ebz10, hsz10⟩ := pz10
    have hsz10 : W.1 bz10 = 9 := hsz10
    refine ⟨Or.inr ⟨bz10, ebz10, (hV.mm hsz10 (by decide) rfl)⟩, ?_⟩
    refine ⟨bz10, ebz10, (hV.mm hsz10 (by decide) rfl), ?_⟩
    intro z11 ez11
    obtain ⟨bz11, ebz11, hsz11⟩ := hV.1.nn hsz10 (by decide) rfl 0 rfl (by decide)
    rw [← ez11] at ebz11
    refine ⟨bz11, ebz11, (hV.mm hsz11 (by decide) rfl), ?_⟩
    intro z12 ez12
    obtain ⟨bz12, ebz12, hsz12⟩ := hV.1.nn hsz11 (by decide) rfl 2 rfl (by decide)
    rw [← ez12] at ebz12
    refine ⟨fun c2 => ?_, fun c2 => ?_⟩
    · intro z13 ez13
      try have hz13 := i_add ez13 (by omega) (by omega)
      have rg_z13 := i_range z13
      exact hK3 z13 κ ⟨rfl, (by (try dsimp only); omega)⟩ (by (try dsimp only); omega)
    · refine ⟨by omega, ?_⟩
      exact kk 1 (by omega)
set_option maxRecDepth 100000 in
set_option maxHeartbeats 4000000 in
theorem t_X11_holder {G : GE} {E : CE} {W : CW} {c : Int} {κ : CS} (hV : CV G E W c κ) (h : Nat) (hs_h : W.1 h = 1) (a1 : Option Nat) (b_a1 : Nat) (e_a1 : a1 = some b_a1) (hs_a1 : W.1 b_a1 = 5)  {post : Option Nat → CS → Prop} (kk : ∀ r : Option Nat, (r = none ∨ ∃ b, r = some b ∧ W.1 b = 10) → post r κ) : F_X11_holder G h a1 post κ := by
  unfold F_X11_holder
  have k_0 : (0 : Int32).toInt = 0 := rfl
  have k_1 : (1 : Int32).toInt = 1 := rfl
  have k_8 : (8 : Int32).toInt = 8 := rfl
  have kl_1 : (1 : Int64).toInt = 1 := rfl
  refine lc_in (fun (x : Int32) (κ' : CS) => κ = κ' ∧ (((0 ≤ x.toInt)))) (fun (x : Int32) (_ : CS) => (2147483647 - x.toInt).toNat) ⟨rfl, (by (try dsimp only); omega)⟩ (fun x1 κ2 hJ K3 hK3 => ?_)
  obtain ⟨hsg, hv⟩ := hJ
  subst hsg
  (try dsimp only at hv)
  have rg_x1 := i_range x1
  refine ⟨(hV.mm hs_h (by decide) rfl), ?_⟩
  intro z5 ez5
  obtain ⟨bz5, ebz5, hsz5⟩ := hV.1.nn hs_h (by decide) rfl 10 rfl (by decide)
  rw [← ez5] at ebz5
  refine ⟨bz5, ebz5, (hV.mm hsz5 (by decide) rfl), ?_⟩
  refine t_Jx4a65c_size_8abf5 hV bz5 hsz5 (by decide) (fun z7 pz7 => ?_)
  have rg_z7 := i_range z7
  refine ⟨fun c1 => ?_, fun c1 => ?_⟩
  · exact kk (none : Option Nat) (Or.inl rfl)
  · refine ⟨(hV.mm hs_h (by decide) rfl), ?_⟩
    intro z8 ez8
    have ebz8 : z8 = some bz5 := (ez8.trans ez5.symm).trans ebz5
    refine ⟨bz5, ebz8, (hV.mm hsz5 (by decide) rfl), ?_⟩
    refine t_Jx4a65c_get_915e3 hV bz5 hsz5 (by decide) x1 (by omega) (fun z10 pz10 => ?_)
    obtain ⟨bz10, ebz10, hsz10⟩ := pz10
    have hsz10 : W.1 bz10 = 10 := hsz10
    refine ⟨Or.inr ⟨bz10, ebz10, (hV.mm hsz10 (by decide) rfl)⟩, ?_⟩
    refine ⟨bz10, ebz10, (hV.mm hsz10 (by decide) rfl), ?_⟩
    intro z11 ez11
    obtain ⟨bz11, ebz11, hsz11⟩ := hV.1.nn hsz10 (by decide) rfl 2 rfl (by decide)
    rw [← ez11] at ebz11
    refine jc_dup ?_
    refine ⟨fun c2 => ?_, fun c2 => ?_⟩
    · (try dsimp only)
      intro z17 ez17
      try have hz17 := i_add ez17 (by omega) (by omega)
      have rg_z17 := i_range z17
      exact hK3 z17 κ ⟨rfl, (by (try dsimp only); omega)⟩ (by (try dsimp only); omega)
    · refine ⟨bz10, ebz10, (hV.mm hsz10 (by decide) rfl), ?_⟩
      intro z18 ez18
      have vz18 := hV.1.iv hsz10 (by decide) rfl 7 (-2147483648) 2147483647 rfl ez18
      have wz18 : z18.toInt = (sI κ.1 bz10 7).toInt := by rw [ez18]
      refine ⟨fun c3 => ?_, fun c3 => ?_⟩
      · (try dsimp only)
        intro z17 ez17
        try have hz17 := i_add ez17 (by omega) (by omega)
        have rg_z17 := i_range z17
        exact hK3 z17 κ ⟨rfl, (by (try dsimp only); omega)⟩ (by (try dsimp only); omega)
      · exact kk z10 (Or.inr ⟨bz10, ebz10, hsz10⟩)
set_option maxRecDepth 100000 in
set_option maxHeartbeats 4000000 in
theorem t_X11_granted {G : GE} {E : CE} {W : CW} {c : Int} {κ : CS} (hV : CV G E W c κ) (h : Nat) (hs_h : W.1 h = 1) (a1 : Option Nat) (b_a1 : Nat) (e_a1 : a1 = some b_a1) (hs_a1 : W.1 b_a1 = 5) (a2 : Int32)  {post : Int32 → CS → Prop} (kk : ∀ r : Int32, (True) → post r κ) : F_X11_granted G h a1 a2 post κ := by
  unfold F_X11_granted
  have k_0 : (0 : Int32).toInt = 0 := rfl
  have k_1 : (1 : Int32).toInt = 1 := rfl
  have kl_0 : (0 : Int64).toInt = 0 := rfl
  have rg_a2 := i_range a2
  refine ⟨b_a1, e_a1, (hV.mm hs_a1 (by decide) rfl), ?_⟩
  intro z1 ez1
  have vz1 := hV.1.iv hs_a1 (by decide) rfl 2 0 1 rfl ez1
  have wz1 : z1.toInt = (sI κ.1 b_a1 2).toInt := by rw [ez1]
  refine jc_dup ?_
  refine ⟨fun c1 => ?_, fun c1 => ?_⟩
  · (try dsimp only)
    exact kk 0 trivial
  · refine ⟨fun c2 => ?_, fun c2 => ?_⟩
    · refine ⟨(hV.mm hs_h (by decide) rfl), ?_⟩
      refine t_X11_isOpened hV h hs_h a1 b_a1 e_a1 hs_a1  (fun z8 pz8 => ?_)
      have rg_z8 := i_range z8
      refine ⟨fun c3 => ?_, fun c3 => ?_⟩
      · refine ⟨(hV.mm hs_h (by decide) rfl), ?_⟩
        refine t_X11_holder hV h hs_h a1 b_a1 e_a1 hs_a1  (fun z10 pz10 => ?_)
        refine jc_dup ?_
        refine jc_dup ?_
        refine ⟨fun c4 => ?_, fun c4 => ?_⟩
        · obtain ⟨bn3, ebn3, hsn3⟩ := pz10.resolve_left c4
          (try dsimp only)
          (try dsimp only)
          exact kk 0 trivial
        · refine ⟨(hV.mm hs_h (by decide) rfl), ?_⟩
          refine t_X11_hasLocks hV h hs_h a1 b_a1 e_a1 hs_a1  (fun z22 pz22 => ?_)
          have rg_z22 := i_range z22
          refine ⟨fun c5 => ?_, fun c5 => ?_⟩
          · (try dsimp only)
            (try dsimp only)
            exact kk 0 trivial
          · (try dsimp only)
            exact kk 1 trivial
      · exact kk a2 trivial
    · (try dsimp only)
      exact kk 0 trivial
set_option maxRecDepth 100000 in
set_option maxHeartbeats 4000000 in
theorem t_X11_refusal {G : GE} {E : CE} {W : CW} {c : Int} {κ : CS} (hV : CV G E W c κ) (h : Nat) (hs_h : W.1 h = 1) (a1 : Option Nat) (b_a1 : Nat) (e_a1 : a1 = some b_a1) (hs_a1 : W.1 b_a1 = 5) (a2 : Option Nat) (b_a2 : Nat) (e_a2 : a2 = some b_a2) (hs_a2 : W.1 b_a2 = 13)  {post : Int32 → CS → Prop} (kk : ∀ r : Int32, (True) → post r κ) : F_X11_refusal G h a1 a2 post κ := by
  unfold F_X11_refusal
  have k_m1073741790 : ((-1073741790) : Int32).toInt = (-1073741790) := rfl
  have k_m1073741771 : ((-1073741771) : Int32).toInt = (-1073741771) := rfl
  have k_m1073741738 : ((-1073741738) : Int32).toInt = (-1073741738) := rfl
  have k_m1073741670 : ((-1073741670) : Int32).toInt = (-1073741670) := rfl
  have k_m1073741638 : ((-1073741638) : Int32).toInt = (-1073741638) := rfl
  have k_m1073741565 : ((-1073741565) : Int32).toInt = (-1073741565) := rfl
  have k_m1073741535 : ((-1073741535) : Int32).toInt = (-1073741535) := rfl
  have k_m1 : ((-1) : Int32).toInt = (-1) := rfl
  have k_0 : (0 : Int32).toInt = 0 := rfl
  have k_1 : (1 : Int32).toInt = 1 := rfl
  have k_2 : (2 : Int32).toInt = 2 := rfl
  have k_6 : (6 : Int32).toInt = 6 := rfl
  have k_40 : (40 : Int32).toInt = 40 := rfl
  have kl_m1073741790 : ((-1073741790) : Int64).toInt = (-1073741790) := rfl
  have kl_m1073741771 : ((-1073741771) : Int64).toInt = (-1073741771) := rfl
  have kl_m1073741738 : ((-1073741738) : Int64).toInt = (-1073741738) := rfl
  have kl_m1073741638 : ((-1073741638) : Int64).toInt = (-1073741638) := rfl
  have kl_m1073741565 : ((-1073741565) : Int64).toInt = (-1073741565) := rfl
  have kl_m1073741535 : ((-1073741535) : Int64).toInt = (-1073741535) := rfl
  have kl_1 : (1 : Int64).toInt = 1 := rfl
  have kl_6 : (6 : Int64).toInt = 6 := rfl
  refine ⟨b_a1, e_a1, (hV.mm hs_a1 (by decide) rfl), ?_⟩
  intro z1 ez1
  have vz1 := hV.1.iv hs_a1 (by decide) rfl 3 0 1 rfl ez1
  have wz1 : z1.toInt = (sI κ.1 b_a1 3).toInt := by rw [ez1]
  refine ⟨fun c1 => ?_, fun c1 => ?_⟩
  · refine ⟨b_a2, e_a2, (hV.mm hs_a2 (by decide) rfl), ?_⟩
    intro z2 ez2
    have vz2 := hV.1.iv hs_a2 (by decide) rfl 4 (-2147483648) 2147483647 rfl ez2
    have wz2 : z2.toInt = (sI κ.1 b_a2 4).toInt := by rw [ez2]
    refine ⟨fun c2 => ?_, fun c2 => ?_⟩
    · refine ⟨b_a1, e_a1, (hV.mm hs_a1 (by decide) rfl), ?_⟩
      intro z3 ez3
      have vz3 := hV.1.iv hs_a1 (by decide) rfl 2 0 1 rfl ez3
      have wz3 : z3.toInt = (sI κ.1 b_a1 2).toInt := by rw [ez3]
      refine jc_in (fun (x : Unit) (κ' : CS) => κ = κ' ∧ ((True))) (fun x4 κ5 hJ => ?_) (fun K6 hK6 => ?_)
      · obtain ⟨hsg, hv⟩ := hJ
        subst hsg
        (try dsimp only at hv)
        refine ⟨b_a1, e_a1, (hV.mm hs_a1 (by decide) rfl), ?_⟩
        intro z9 ez9
        have vz9 := hV.1.iv hs_a1 (by decide) rfl 2 0 1 rfl ez9
        have wz9 : z9.toInt = (sI κ.1 b_a1 2).toInt := by rw [ez9]
        refine jc_in (fun (x : Unit) (κ' : CS) => κ = κ' ∧ ((True))) (fun x10 κ11 hJ => ?_) (fun K12 hK12 => ?_)
        · obtain ⟨hsg, hv⟩ := hJ
          subst hsg
          (try dsimp only at hv)
          refine ⟨b_a1, e_a1, (hV.mm hs_a1 (by decide) rfl), ?_⟩
          intro z15 ez15
          have vz15 := hV.1.iv hs_a1 (by decide) rfl 7 (-2147483648) 2147483647 rfl ez15
          have wz15 : z15.toInt = (sI κ.1 b_a1 7).toInt := by rw [ez15]
          intro z16 ez16
          try have hz16 := i_and1 ez16 (by omega)
          have rg_z16 := i_range z16
          refine jc_in (fun (x : Int32) (κ' : CS) => κ = κ' ∧ (((0 ≤ x.toInt ∧ x.toInt ≤ 1)))) (fun x17 κ18 hJ => ?_) (fun K19 hK19 => ?_)
          · obtain ⟨hsg, hv⟩ := hJ
            subst hsg
            (try dsimp only at hv)
            have rg_x17 := i_range x17
            refine jc_in (fun (x : Unit) (κ' : CS) => κ = κ' ∧ ((True))) (fun x22 κ23 hJ => ?_) (fun K24 hK24 => ?_)
            · obtain ⟨hsg, hv⟩ := hJ
              subst hsg
              (try dsimp only at hv)
              refine ⟨b_a2, e_a2, (hV.mm hs_a2 (by decide) rfl), ?_⟩
              intro z27 ez27
              have vz27 := hV.1.iv hs_a2 (by decide) rfl 7 0 1 rfl ez27
              have wz27 : z27.toInt = (sI κ.1 b_a2 7).toInt := by rw [ez27]
              refine jc_in (fun (x : Unit) (κ' : CS) => κ = κ' ∧ ((True))) (fun x28 κ29 hJ => ?_) (fun K30 hK30 => ?_)
              · obtain ⟨hsg, hv⟩ := hJ
                subst hsg
                (try dsimp only at hv)
                refine ⟨(hV.mm hs_h (by decide) rfl), ?_⟩
                intro z33 ez33
                obtain ⟨bz33, ebz33, hsz33⟩ := hV.1.nn hs_h (by decide) rfl 10 rfl (by decide)
                rw [← ez33] at ebz33
                refine ⟨bz33, ebz33, (hV.mm hsz33 (by decide) rfl), ?_⟩
                refine t_Jx4a65c_size_8abf5 hV bz33 hsz33 (by decide) (fun z35 pz35 => ?_)
                have rg_z35 := i_range z35
                refine jc_dup ?_
                refine ⟨fun c3 => ?_, fun c3 => ?_⟩
                · (try dsimp only)
                  exact kk 0 trivial
                · (try dsimp only)
                  exact kk (-1073741670) trivial
              · skip
                refine ⟨fun c4 => ?_, fun c4 => ?_⟩
                · exact hK30 () κ ⟨rfl, trivial⟩
                · refine jc_dup ?_
                  refine ⟨fun c5 => ?_, fun c5 => ?_⟩
                  · (try dsimp only)
                    exact kk (-1073741535) trivial
                  · refine ⟨b_a1, e_a1, (hV.mm hs_a1 (by decide) rfl), ?_⟩
                    intro z46 ez46
                    have vz46 := hV.1.iv hs_a1 (by decide) rfl 4 (-2147483648) 2147483647 rfl ez46
                    have wz46 : z46.toInt = (sI κ.1 b_a1 4).toInt := by rw [ez46]
                    refine ⟨fun c6 => ?_, fun c6 => ?_⟩
                    · exact hK30 () κ ⟨rfl, trivial⟩
                    · (try dsimp only)
                      exact kk (-1073741535) trivial
            · skip
              refine ⟨fun c7 => ?_, fun c7 => ?_⟩
              · exact hK24 () κ ⟨rfl, trivial⟩
              · refine ⟨b_a2, e_a2, (hV.mm hs_a2 (by decide) rfl), ?_⟩
                intro z47 ez47
                have vz47 := hV.1.iv hs_a2 (by decide) rfl 1 (-2147483648) 2147483647 rfl ez47
                have wz47 : z47.toInt = (sI κ.1 b_a2 1).toInt := by rw [ez47]
                intro z48 ez48
                try have hz48 := i_and ez48 (by omega)
                have rg_z48 := i_range z48
                refine jc_dup ?_
                refine ⟨fun c8 => ?_, fun c8 => ?_⟩
                · (try dsimp only)
                  exact kk (-1073741790) trivial
                · refine ⟨b_a2, e_a2, (hV.mm hs_a2 (by decide) rfl), ?_⟩
                  refine t_X10_empties hV b_a2 hs_a2  (fun z55 pz55 => ?_)
                  have rg_z55 := i_range z55
                  refine ⟨fun c9 => ?_, fun c9 => ?_⟩
                  · exact hK24 () κ ⟨rfl, trivial⟩
                  · (try dsimp only)
                    exact kk (-1073741790) trivial
          · skip
            refine ⟨fun c10 => ?_, fun c10 => ?_⟩
            · exact hK19 0 κ ⟨rfl, (by (try dsimp only); omega)⟩
            · exact hK19 1 κ ⟨rfl, (by (try dsimp only); omega)⟩
        · skip
          refine ⟨fun c11 => ?_, fun c11 => ?_⟩
          · exact hK12 () κ ⟨rfl, trivial⟩
          · refine ⟨b_a2, e_a2, (hV.mm hs_a2 (by decide) rfl), ?_⟩
            intro z56 ez56
            have vz56 := hV.1.iv hs_a2 (by decide) rfl 5 0 1 rfl ez56
            have wz56 : z56.toInt = (sI κ.1 b_a2 5).toInt := by rw [ez56]
            refine ⟨fun c12 => ?_, fun c12 => ?_⟩
            · exact hK12 () κ ⟨rfl, trivial⟩
            · exact kk (-1073741565) trivial
      · skip
        refine ⟨fun c13 => ?_, fun c13 => ?_⟩
        · exact hK6 () κ ⟨rfl, trivial⟩
        · refine ⟨b_a2, e_a2, (hV.mm hs_a2 (by decide) rfl), ?_⟩
          intro z57 ez57
          have vz57 := hV.1.iv hs_a2 (by decide) rfl 6 0 1 rfl ez57
          have wz57 : z57.toInt = (sI κ.1 b_a2 6).toInt := by rw [ez57]
          refine jc_dup ?_
          refine ⟨fun c14 => ?_, fun c14 => ?_⟩
          · (try dsimp only)
            exact kk (-1073741638) trivial
          · refine ⟨b_a2, e_a2, (hV.mm hs_a2 (by decide) rfl), ?_⟩
            refine t_X10_empties hV b_a2 hs_a2  (fun z64 pz64 => ?_)
            have rg_z64 := i_range z64
            refine ⟨fun c15 => ?_, fun c15 => ?_⟩
            · exact hK6 () κ ⟨rfl, trivial⟩
            · (try dsimp only)
              exact kk (-1073741638) trivial
    · exact kk (-1073741771) trivial
  · exact kk (-1073741738) trivial
set_option maxRecDepth 100000 in
set_option maxHeartbeats 4000000 in
theorem t_X11_sharesWithOthers {G : GE} {E : CE} {W : CW} {c : Int} {κ : CS} (hV : CV G E W c κ) (h : Nat) (hs_h : W.1 h = 1) (a1 : Option Nat) (b_a1 : Nat) (e_a1 : a1 = some b_a1) (hs_a1 : W.1 b_a1 = 5) (a2 : Option Nat) (b_a2 : Nat) (e_a2 : a2 = some b_a2) (hs_a2 : W.1 b_a2 = 13)  {post : Int32 → CS → Prop} (kk : ∀ r : Int32, (0 ≤ r.toInt ∧ r.toInt ≤ 1) → post r κ) : F_X11_sharesWithOthers G h a1 a2 post κ := by
  unfold F_X11_sharesWithOthers
  have k_m1 : ((-1) : Int32).toInt = (-1) := rfl
  have k_0 : (0 : Int32).toInt = 0 := rfl
  have k_1 : (1 : Int32).toInt = 1 := rfl
  have kl_m1 : ((-1) : Int64).toInt = (-1) := rfl
  have kl_0 : (0 : Int64).toInt = 0 := rfl
  have kl_1 : (1 : Int64).toInt = 1 := rfl
  refine ⟨b_a2, e_a2, (hV.mm hs_a2 (by decide) rfl), ?_⟩
  intro z1 ez1
  have vz1 := hV.1.iv hs_a2 (by decide) rfl 1 (-2147483648) 2147483647 rfl ez1
  have wz1 : z1.toInt = (sI κ.1 b_a2 1).toInt := by rw [ez1]
  refine t_X11_wanted hV z1  (fun z3 pz3 => ?_)
  have rg_z3 := i_range z3
  refine lc_in (fun (x : Int32) (κ' : CS) => κ = κ' ∧ (((0 ≤ x.toInt)))) (fun (x : Int32) (_ : CS) => (2147483647 - x.toInt).toNat) ⟨rfl, (by (try dsimp only); omega)⟩ (fun x4 κ5 hJ K6 hK6 => ?_)
  obtain ⟨hsg, hv⟩ := hJ
  subst hsg
  (try dsimp only at hv)
  have rg_x4 := i_range x4
  refine ⟨(hV.mm hs_h (by decide) rfl), ?_⟩
  intro z8 ez8
  obtain ⟨bz8, ebz8, hsz8⟩ := hV.1.nn hs_h (by decide) rfl 10 rfl (by decide)
  rw [← ez8] at ebz8
  refine ⟨bz8, ebz8, (hV.mm hsz8 (by decide) rfl), ?_⟩
  refine t_Jx4a65c_size_8abf5 hV bz8 hsz8 (by decide) (fun z10 pz10 => ?_)
  have rg_z10 := i_range z10
  refine ⟨fun c1 => ?_, fun c1 => ?_⟩
  · refine ⟨by omega, ?_⟩
    exact kk 1 (by omega)
  · refine ⟨(hV.mm hs_h (by decide) rfl), ?_⟩
    intro z11 ez11
    have ebz11 : z11 = some bz8 := (ez11.trans ez8.symm).trans ebz8
    refine ⟨bz8, ebz11, (hV.mm hsz8 (by decide) rfl), ?_⟩
    refine t_Jx4a65c_get_915e3 hV bz8 hsz8 (by decide) x4 (by omega) (fun z13 pz13 => ?_)
    obtain ⟨bz13, ebz13, hsz13⟩ := pz13
    have hsz13 : W.1 bz13 = 10 := hsz13
    refine ⟨Or.inr ⟨bz13, ebz13, (hV.mm hsz13 (by decide) rfl)⟩, ?_⟩
    refine ⟨bz13, ebz13, (hV.mm hsz13 (by decide) rfl), ?_⟩
    intro z14 ez14
    have vz14 := hV.1.iv hsz13 (by decide) rfl 3 (-2147483648) 2147483647 rfl ez14
    have wz14 : z14.toInt = (sI κ.1 bz13 3).toInt := by rw [ez14]
    refine t_X11_wanted hV z14  (fun z16 pz16 => ?_)
    have rg_z16 := i_range z16
    refine ⟨bz13, ebz13, (hV.mm hsz13 (by decide) rfl), ?_⟩
    intro z17 ez17
    obtain ⟨bz17, ebz17, hsz17⟩ := hV.1.nn hsz13 (by decide) rfl 2 rfl (by decide)
    rw [← ez17] at ebz17
    refine jc_dup ?_
    refine ⟨fun c2 => ?_, fun c2 => ?_⟩
    · (try dsimp only)
      intro z23 ez23
      try have hz23 := i_add ez23 (by omega) (by omega)
      have rg_z23 := i_range z23
      exact hK6 z23 κ ⟨rfl, (by (try dsimp only); omega)⟩ (by (try dsimp only); omega)
    · refine ⟨fun c3 => ?_, fun c3 => ?_⟩
      · (try dsimp only)
        intro z23 ez23
        try have hz23 := i_add ez23 (by omega) (by omega)
        have rg_z23 := i_range z23
        exact hK6 z23 κ ⟨rfl, (by (try dsimp only); omega)⟩ (by (try dsimp only); omega)
      · refine ⟨fun c4 => ?_, fun c4 => ?_⟩
        · (try dsimp only)
          intro z23 ez23
          try have hz23 := i_add ez23 (by omega) (by omega)
          have rg_z23 := i_range z23
          exact hK6 z23 κ ⟨rfl, (by (try dsimp only); omega)⟩ (by (try dsimp only); omega)
        · refine ⟨bz13, ebz13, (hV.mm hsz13 (by decide) rfl), ?_⟩
          intro z24 ez24
          have vz24 := hV.1.iv hsz13 (by decide) rfl 4 (-2147483648) 2147483647 rfl ez24
          have wz24 : z24.toInt = (sI κ.1 bz13 4).toInt := by rw [ez24]
          intro z25 ez25
          have rg_z25 := i_range z25
          intro z26 ez26
          try have hz26 := i_and ez26 (by omega)
          have rg_z26 := i_range z26
          refine jc_dup ?_
          refine ⟨fun c5 => ?_, fun c5 => ?_⟩
          · (try dsimp only)
            refine ⟨by omega, ?_⟩
            exact kk 0 (by omega)
          · refine ⟨b_a2, e_a2, (hV.mm hs_a2 (by decide) rfl), ?_⟩
            intro z32 ez32
            have vz32 := hV.1.iv hs_a2 (by decide) rfl 3 (-2147483648) 2147483647 rfl ez32
            have wz32 : z32.toInt = (sI κ.1 b_a2 3).toInt := by rw [ez32]
            intro z33 ez33
            have rg_z33 := i_range z33
            intro z34 ez34
            try have hz34 := i_and ez34 (by omega)
            have rg_z34 := i_range z34
            refine ⟨fun c6 => ?_, fun c6 => ?_⟩
            · (try dsimp only)
              intro z23 ez23
              try have hz23 := i_add ez23 (by omega) (by omega)
              have rg_z23 := i_range z23
              exact hK6 z23 κ ⟨rfl, (by (try dsimp only); omega)⟩ (by (try dsimp only); omega)
            · (try dsimp only)
              refine ⟨by omega, ?_⟩
              exact kk 0 (by omega)
set_option maxRecDepth 100000 in
set_option maxHeartbeats 4000000 in
theorem t_X11_sessionOf {G : GE} {E : CE} {W : CW} {c : Int} {κ : CS} (hV : CV G E W c κ) (h : Nat) (hs_h : W.1 h = 1) (a1 : Option Nat) (b_a1 : Nat) (e_a1 : a1 = some b_a1) (hs_a1 : W.1 b_a1 = 8)  {post : Option Nat → CS → Prop} (kk : ∀ r : Option Nat, (r = none ∨ ∃ b, r = some b ∧ W.1 b = 11) → post r κ) : F_X11_sessionOf G h a1 post κ := by
  unfold F_X11_sessionOf
  have k_0 : (0 : Int32).toInt = 0 := rfl
  have k_1 : (1 : Int32).toInt = 1 := rfl
  have kl_1 : (1 : Int64).toInt = 1 := rfl
  refine lc_in (fun (x : Int32) (κ' : CS) => κ = κ' ∧ (((0 ≤ x.toInt)))) (fun (x : Int32) (_ : CS) => (2147483647 - x.toInt).toNat) ⟨rfl, (by (try dsimp only); omega)⟩ (fun x1 κ2 hJ K3 hK3 => ?_)
  obtain ⟨hsg, hv⟩ := hJ
  subst hsg
  (try dsimp only at hv)
  have rg_x1 := i_range x1
  refine ⟨(hV.mm hs_h (by decide) rfl), ?_⟩
  intro z5 ez5
  obtain ⟨bz5, ebz5, hsz5⟩ := hV.1.nn hs_h (by decide) rfl 8 rfl (by decide)
  rw [← ez5] at ebz5
  refine ⟨bz5, ebz5, (hV.mm hsz5 (by decide) rfl), ?_⟩
  refine t_Jx4a65c_size_8abf5 hV bz5 hsz5 (by decide) (fun z7 pz7 => ?_)
  have rg_z7 := i_range z7
  refine ⟨fun c1 => ?_, fun c1 => ?_⟩
  · exact kk (none : Option Nat) (Or.inl rfl)
  · refine ⟨(hV.mm hs_h (by decide) rfl), ?_⟩
    intro z8 ez8
    have ebz8 : z8 = some bz5 := (ez8.trans ez5.symm).trans ebz5
    refine ⟨bz5, ebz8, (hV.mm hsz5 (by decide) rfl), ?_⟩
    refine t_Jx4a65c_get_915e3 hV bz5 hsz5 (by decide) x1 (by omega) (fun z10 pz10 => ?_)
    obtain ⟨bz10, ebz10, hsz10⟩ := pz10
    have hsz10 : W.1 bz10 = 11 := hsz10
    refine ⟨Or.inr ⟨bz10, ebz10, (hV.mm hsz10 (by decide) rfl)⟩, ?_⟩
    refine ⟨bz10, ebz10, (hV.mm hsz10 (by decide) rfl), ?_⟩
    intro z11 ez11
    have vz11 := l_range z11
    have wz11 : z11.toInt = (sJ κ.1 bz10 0).toInt := by rw [ez11]
    refine ⟨b_a1, e_a1, (hV.mm hs_a1 (by decide) rfl), ?_⟩
    intro z12 ez12
    have vz12 := l_range z12
    have wz12 : z12.toInt = (sJ κ.1 b_a1 11).toInt := by rw [ez12]
    refine jc_dup ?_
    refine ⟨fun c2 => ?_, fun c2 => ?_⟩
    · (try dsimp only)
      intro z18 ez18
      try have hz18 := i_add ez18 (by omega) (by omega)
      have rg_z18 := i_range z18
      exact hK3 z18 κ ⟨rfl, (by (try dsimp only); omega)⟩ (by (try dsimp only); omega)
    · refine ⟨bz10, ebz10, (hV.mm hsz10 (by decide) rfl), ?_⟩
      intro z19 ez19
      obtain ⟨bz19, ebz19, hsz19⟩ := hV.1.nn hsz10 (by decide) rfl 1 rfl (by decide)
      rw [← ez19] at ebz19
      refine ⟨b_a1, e_a1, (hV.mm hs_a1 (by decide) rfl), ?_⟩
      intro z20 ez20
      obtain ⟨bz20, ebz20, hsz20⟩ := hV.1.nn hs_a1 (by decide) rfl 0 rfl (by decide)
      rw [← ez20] at ebz20
      refine ⟨fun c3 => ?_, fun c3 => ?_⟩
      · (try dsimp only)
        intro z18 ez18
        try have hz18 := i_add ez18 (by omega) (by omega)
        have rg_z18 := i_range z18
        exact hK3 z18 κ ⟨rfl, (by (try dsimp only); omega)⟩ (by (try dsimp only); omega)
      · exact kk z10 (Or.inr ⟨bz10, ebz10, hsz10⟩)
set_option maxRecDepth 100000 in
set_option maxHeartbeats 4000000 in
theorem t_X11_treeOf {G : GE} {E : CE} {W : CW} {c : Int} {κ : CS} (hV : CV G E W c κ) (h : Nat) (hs_h : W.1 h = 1) (a1 : Option Nat) (b_a1 : Nat) (e_a1 : a1 = some b_a1) (hs_a1 : W.1 b_a1 = 8)  {post : Option Nat → CS → Prop} (kk : ∀ r : Option Nat, (r = none ∨ ∃ b, r = some b ∧ W.1 b = 12) → post r κ) : F_X11_treeOf G h a1 post κ := by
  unfold F_X11_treeOf
  have k_0 : (0 : Int32).toInt = 0 := rfl
  have k_1 : (1 : Int32).toInt = 1 := rfl
  have kl_1 : (1 : Int64).toInt = 1 := rfl
  refine lc_in (fun (x : Int32) (κ' : CS) => κ = κ' ∧ (((0 ≤ x.toInt)))) (fun (x : Int32) (_ : CS) => (2147483647 - x.toInt).toNat) ⟨rfl, (by (try dsimp only); omega)⟩ (fun x1 κ2 hJ K3 hK3 => ?_)
  obtain ⟨hsg, hv⟩ := hJ
  subst hsg
  (try dsimp only at hv)
  have rg_x1 := i_range x1
  refine ⟨(hV.mm hs_h (by decide) rfl), ?_⟩
  intro z5 ez5
  obtain ⟨bz5, ebz5, hsz5⟩ := hV.1.nn hs_h (by decide) rfl 9 rfl (by decide)
  rw [← ez5] at ebz5
  refine ⟨bz5, ebz5, (hV.mm hsz5 (by decide) rfl), ?_⟩
  refine t_Jx4a65c_size_8abf5 hV bz5 hsz5 (by decide) (fun z7 pz7 => ?_)
  have rg_z7 := i_range z7
  refine ⟨fun c1 => ?_, fun c1 => ?_⟩
  · exact kk (none : Option Nat) (Or.inl rfl)
  · refine ⟨(hV.mm hs_h (by decide) rfl), ?_⟩
    intro z8 ez8
    have ebz8 : z8 = some bz5 := (ez8.trans ez5.symm).trans ebz5
    refine ⟨bz5, ebz8, (hV.mm hsz5 (by decide) rfl), ?_⟩
    refine t_Jx4a65c_get_915e3 hV bz5 hsz5 (by decide) x1 (by omega) (fun z10 pz10 => ?_)
    obtain ⟨bz10, ebz10, hsz10⟩ := pz10
    have hsz10 : W.1 bz10 = 12 := hsz10
    refine ⟨Or.inr ⟨bz10, ebz10, (hV.mm hsz10 (by decide) rfl)⟩, ?_⟩
    refine ⟨bz10, ebz10, (hV.mm hsz10 (by decide) rfl), ?_⟩
    intro z11 ez11
    have vz11 := l_range z11
    have wz11 : z11.toInt = (sJ κ.1 bz10 0).toInt := by rw [ez11]
    refine ⟨b_a1, e_a1, (hV.mm hs_a1 (by decide) rfl), ?_⟩
    intro z12 ez12
    have vz12 := l_range z12
    have wz12 : z12.toInt = (sJ κ.1 b_a1 10).toInt := by rw [ez12]
    refine jc_dup ?_
    refine ⟨fun c2 => ?_, fun c2 => ?_⟩
    · (try dsimp only)
      intro z18 ez18
      try have hz18 := i_add ez18 (by omega) (by omega)
      have rg_z18 := i_range z18
      exact hK3 z18 κ ⟨rfl, (by (try dsimp only); omega)⟩ (by (try dsimp only); omega)
    · refine ⟨bz10, ebz10, (hV.mm hsz10 (by decide) rfl), ?_⟩
      intro z19 ez19
      obtain ⟨bz19, ebz19, hsz19⟩ := hV.1.nn hsz10 (by decide) rfl 1 rfl (by decide)
      rw [← ez19] at ebz19
      refine ⟨b_a1, e_a1, (hV.mm hs_a1 (by decide) rfl), ?_⟩
      intro z20 ez20
      have nz20 := hV.1.nl hs_a1 (by decide) rfl 13 rfl (by decide)
      rw [← ez20] at nz20
      refine ⟨fun c3 => ?_, fun c3 => ?_⟩
      · (try dsimp only)
        intro z18 ez18
        try have hz18 := i_add ez18 (by omega) (by omega)
        have rg_z18 := i_range z18
        exact hK3 z18 κ ⟨rfl, (by (try dsimp only); omega)⟩ (by (try dsimp only); omega)
      · exact kk z10 (Or.inr ⟨bz10, ebz10, hsz10⟩)
set_option maxRecDepth 100000 in
set_option maxHeartbeats 4000000 in
theorem t_X11_othersLock {G : GE} {E : CE} {W : CW} {c : Int} {κ : CS} (hV : CV G E W c κ) (h : Nat) (hs_h : W.1 h = 1) (a1 : Option Nat) (b_a1 : Nat) (e_a1 : a1 = some b_a1) (hs_a1 : W.1 b_a1 = 10) (a2 : Int64) (a4 : Int64) (a6 : Int32)  {post : Int32 → CS → Prop} (kk : ∀ r : Int32, (0 ≤ r.toInt ∧ r.toInt ≤ 1) → post r κ) : F_X11_othersLock G h a1 a2 a4 a6 post κ := by
  unfold F_X11_othersLock
  have k_0 : (0 : Int32).toInt = 0 := rfl
  have k_1 : (1 : Int32).toInt = 1 := rfl
  have kl_0 : (0 : Int64).toInt = 0 := rfl
  have kl_1 : (1 : Int64).toInt = 1 := rfl
  have rg_a2 := l_range a2
  have rg_a4 := l_range a4
  have rg_a6 := i_range a6
  refine lc_in (fun (x : Int32) (κ' : CS) => κ = κ' ∧ (((0 ≤ x.toInt)))) (fun (x : Int32) (_ : CS) => (2147483647 - x.toInt).toNat) ⟨rfl, (by (try dsimp only); omega)⟩ (fun x1 κ2 hJ K3 hK3 => ?_)
  obtain ⟨hsg, hv⟩ := hJ
  subst hsg
  (try dsimp only at hv)
  have rg_x1 := i_range x1
  refine ⟨(hV.mm hs_h (by decide) rfl), ?_⟩
  intro z5 ez5
  obtain ⟨bz5, ebz5, hsz5⟩ := hV.1.nn hs_h (by decide) rfl 11 rfl (by decide)
  rw [← ez5] at ebz5
  refine ⟨bz5, ebz5, (hV.mm hsz5 (by decide) rfl), ?_⟩
  refine t_Jx4a65c_size_8abf5 hV bz5 hsz5 (by decide) (fun z7 pz7 => ?_)
  have rg_z7 := i_range z7
  refine ⟨fun c1 => ?_, fun c1 => ?_⟩
  · refine ⟨by omega, ?_⟩
    exact kk 0 (by omega)
  · refine ⟨(hV.mm hs_h (by decide) rfl), ?_⟩
    intro z8 ez8
    have ebz8 : z8 = some bz5 := (ez8.trans ez5.symm).trans ebz5
    refine ⟨bz5, ebz8, (hV.mm hsz5 (by decide) rfl), ?_⟩
    refine t_Jx4a65c_get_915e3 hV bz5 hsz5 (by decide) x1 (by omega) (fun z10 pz10 => ?_)
    obtain ⟨bz10, ebz10, hsz10⟩ := pz10
    have hsz10 : W.1 bz10 = 9 := hsz10
    refine ⟨Or.inr ⟨bz10, ebz10, (hV.mm hsz10 (by decide) rfl)⟩, ?_⟩
    refine ⟨bz10, ebz10, (hV.mm hsz10 (by decide) rfl), ?_⟩
    intro z11 ez11
    obtain ⟨bz11, ebz11, hsz11⟩ := hV.1.nn hsz10 (by decide) rfl 0 rfl (by decide)
    rw [← ez11] at ebz11
    refine ⟨bz11, ebz11, (hV.mm hsz11 (by decide) rfl), ?_⟩
    intro z12 ez12
    obtain ⟨bz12, ebz12, hsz12⟩ := hV.1.nn hsz11 (by decide) rfl 2 rfl (by decide)
    rw [← ez12] at ebz12
    refine ⟨b_a1, e_a1, (hV.mm hs_a1 (by decide) rfl), ?_⟩
    intro z13 ez13
    obtain ⟨bz13, ebz13, hsz13⟩ := hV.1.nn hs_a1 (by decide) rfl 2 rfl (by decide)
    rw [← ez13] at ebz13
    refine jc_dup ?_
    refine ⟨fun c2 => ?_, fun c2 => ?_⟩
    · (try dsimp only)
      intro z19 ez19
      try have hz19 := i_add ez19 (by omega) (by omega)
      have rg_z19 := i_range z19
      exact hK3 z19 κ ⟨rfl, (by (try dsimp only); omega)⟩ (by (try dsimp only); omega)
    · refine ⟨bz10, ebz10, (hV.mm hsz10 (by decide) rfl), ?_⟩
      intro z20 ez20
      have ebz20 : z20 = some bz11 := (ez20.trans ez11.symm).trans ebz11
      refine ⟨fun c3 => ?_, fun c3 => ?_⟩
      · (try dsimp only)
        intro z19 ez19
        try have hz19 := i_add ez19 (by omega) (by omega)
        have rg_z19 := i_range z19
        exact hK3 z19 κ ⟨rfl, (by (try dsimp only); omega)⟩ (by (try dsimp only); omega)
      · refine jc_dup ?_
        refine ⟨fun c4 => ?_, fun c4 => ?_⟩
        · (try dsimp only)
          refine ⟨bz10, ebz10, (hV.mm hsz10 (by decide) rfl), ?_⟩
          refine t_X3_meets hV bz10 hsz10 a2 a4  (fun z27 pz27 => ?_)
          have rg_z27 := i_range z27
          refine ⟨fun c5 => ?_, fun c5 => ?_⟩
          · (try dsimp only)
            intro z19 ez19
            try have hz19 := i_add ez19 (by omega) (by omega)
            have rg_z19 := i_range z19
            exact hK3 z19 κ ⟨rfl, (by (try dsimp only); omega)⟩ (by (try dsimp only); omega)
          · refine ⟨by omega, ?_⟩
            exact kk 1 (by omega)
        · refine ⟨bz10, ebz10, (hV.mm hsz10 (by decide) rfl), ?_⟩
          intro z28 ez28
          have vz28 := hV.1.iv hsz10 (by decide) rfl 3 0 1 rfl ez28
          have wz28 : z28.toInt = (sI κ.1 bz10 3).toInt := by rw [ez28]
          refine ⟨fun c6 => ?_, fun c6 => ?_⟩
          · (try dsimp only)
            intro z19 ez19
            try have hz19 := i_add ez19 (by omega) (by omega)
            have rg_z19 := i_range z19
            exact hK3 z19 κ ⟨rfl, (by (try dsimp only); omega)⟩ (by (try dsimp only); omega)
          · (try dsimp only)
            refine ⟨bz10, ebz10, (hV.mm hsz10 (by decide) rfl), ?_⟩
            refine t_X3_meets hV bz10 hsz10 a2 a4  (fun z27 pz27 => ?_)
            have rg_z27 := i_range z27
            refine ⟨fun c7 => ?_, fun c7 => ?_⟩
            · (try dsimp only)
              intro z19 ez19
              try have hz19 := i_add ez19 (by omega) (by omega)
              have rg_z19 := i_range z19
              exact hK3 z19 κ ⟨rfl, (by (try dsimp only); omega)⟩ (by (try dsimp only); omega)
            · refine ⟨by omega, ?_⟩
              exact kk 1 (by omega)
set_option maxRecDepth 100000 in
set_option maxHeartbeats 4000000 in
theorem t_X11_ownSharedLock {G : GE} {E : CE} {W : CW} {c : Int} {κ : CS} (hV : CV G E W c κ) (h : Nat) (hs_h : W.1 h = 1) (a1 : Option Nat) (b_a1 : Nat) (e_a1 : a1 = some b_a1) (hs_a1 : W.1 b_a1 = 10) (a2 : Int64) (a4 : Int64)  {post : Int32 → CS → Prop} (kk : ∀ r : Int32, (0 ≤ r.toInt ∧ r.toInt ≤ 1) → post r κ) : F_X11_ownSharedLock G h a1 a2 a4 post κ := by
  unfold F_X11_ownSharedLock
  have k_0 : (0 : Int32).toInt = 0 := rfl
  have k_1 : (1 : Int32).toInt = 1 := rfl
  have kl_0 : (0 : Int64).toInt = 0 := rfl
  have kl_1 : (1 : Int64).toInt = 1 := rfl
  have rg_a2 := l_range a2
  have rg_a4 := l_range a4
  refine lc_in (fun (x : Int32) (κ' : CS) => κ = κ' ∧ (((0 ≤ x.toInt)))) (fun (x : Int32) (_ : CS) => (2147483647 - x.toInt).toNat) ⟨rfl, (by (try dsimp only); omega)⟩ (fun x1 κ2 hJ K3 hK3 => ?_)
  obtain ⟨hsg, hv⟩ := hJ
  subst hsg
  (try dsimp only at hv)
  have rg_x1 := i_range x1
  refine ⟨(hV.mm hs_h (by decide) rfl), ?_⟩
  intro z5 ez5
  obtain ⟨bz5, ebz5, hsz5⟩ := hV.1.nn hs_h (by decide) rfl 11 rfl (by decide)
  rw [← ez5] at ebz5
  refine ⟨bz5, ebz5, (hV.mm hsz5 (by decide) rfl), ?_⟩
  refine t_Jx4a65c_size_8abf5 hV bz5 hsz5 (by decide) (fun z7 pz7 => ?_)
  have rg_z7 := i_range z7
  refine ⟨fun c1 => ?_, fun c1 => ?_⟩
  · refine ⟨by omega, ?_⟩
    exact kk 0 (by omega)
  · refine ⟨(hV.mm hs_h (by decide) rfl), ?_⟩
    intro z8 ez8
    have ebz8 : z8 = some bz5 := (ez8.trans ez5.symm).trans ebz5
    refine ⟨bz5, ebz8, (hV.mm hsz5 (by decide) rfl), ?_⟩
    refine t_Jx4a65c_get_915e3 hV bz5 hsz5 (by decide) x1 (by omega) (fun z10 pz10 => ?_)
    obtain ⟨bz10, ebz10, hsz10⟩ := pz10
    have hsz10 : W.1 bz10 = 9 := hsz10
    refine ⟨Or.inr ⟨bz10, ebz10, (hV.mm hsz10 (by decide) rfl)⟩, ?_⟩
    refine ⟨bz10, ebz10, (hV.mm hsz10 (by decide) rfl), ?_⟩
    intro z11 ez11
    obtain ⟨bz11, ebz11, hsz11⟩ := hV.1.nn hsz10 (by decide) rfl 0 rfl (by decide)
    rw [← ez11] at ebz11
    refine jc_dup ?_
    refine ⟨fun c2 => ?_, fun c2 => ?_⟩
    · (try dsimp only)
      intro z17 ez17
      try have hz17 := i_add ez17 (by omega) (by omega)
      have rg_z17 := i_range z17
      exact hK3 z17 κ ⟨rfl, (by (try dsimp only); omega)⟩ (by (try dsimp only); omega)
    · refine ⟨bz10, ebz10, (hV.mm hsz10 (by decide) rfl), ?_⟩
      intro z18 ez18
      have vz18 := hV.1.iv hsz10 (by decide) rfl 3 0 1 rfl ez18
      have wz18 : z18.toInt = (sI κ.1 bz10 3).toInt := by rw [ez18]
      refine ⟨fun c3 => ?_, fun c3 => ?_⟩
      · (try dsimp only)
        intro z17 ez17
        try have hz17 := i_add ez17 (by omega) (by omega)
        have rg_z17 := i_range z17
        exact hK3 z17 κ ⟨rfl, (by (try dsimp only); omega)⟩ (by (try dsimp only); omega)
      · refine ⟨bz10, ebz10, (hV.mm hsz10 (by decide) rfl), ?_⟩
        refine t_X3_meets hV bz10 hsz10 a2 a4  (fun z20 pz20 => ?_)
        have rg_z20 := i_range z20
        refine ⟨fun c4 => ?_, fun c4 => ?_⟩
        · (try dsimp only)
          intro z17 ez17
          try have hz17 := i_add ez17 (by omega) (by omega)
          have rg_z17 := i_range z17
          exact hK3 z17 κ ⟨rfl, (by (try dsimp only); omega)⟩ (by (try dsimp only); omega)
        · refine ⟨by omega, ?_⟩
          exact kk 1 (by omega)
set_option maxRecDepth 100000 in
set_option maxHeartbeats 4000000 in
theorem t_X11_firstOpenOf {G : GE} {E : CE} {W : CW} {c : Int} {κ : CS} (hV : CV G E W c κ) (h : Nat) (hs_h : W.1 h = 1) (a1 : Option Nat) (b_a1 : Nat) (e_a1 : a1 = some b_a1) (hs_a1 : W.1 b_a1 = 12)  {post : Option Nat → CS → Prop} (kk : ∀ r : Option Nat, (r = none ∨ ∃ b, r = some b ∧ W.1 b = 10) → post r κ) : F_X11_firstOpenOf G h a1 post κ := by
  unfold F_X11_firstOpenOf
  have k_0 : (0 : Int32).toInt = 0 := rfl
  have k_1 : (1 : Int32).toInt = 1 := rfl
  have kl_1 : (1 : Int64).toInt = 1 := rfl
  refine lc_in (fun (x : Int32) (κ' : CS) => κ = κ' ∧ (((0 ≤ x.toInt)))) (fun (x : Int32) (_ : CS) => (2147483647 - x.toInt).toNat) ⟨rfl, (by (try dsimp only); omega)⟩ (fun x1 κ2 hJ K3 hK3 => ?_)
  obtain ⟨hsg, hv⟩ := hJ
  subst hsg
  (try dsimp only at hv)
  have rg_x1 := i_range x1
  refine ⟨(hV.mm hs_h (by decide) rfl), ?_⟩
  intro z5 ez5
  obtain ⟨bz5, ebz5, hsz5⟩ := hV.1.nn hs_h (by decide) rfl 10 rfl (by decide)
  rw [← ez5] at ebz5
  refine ⟨bz5, ebz5, (hV.mm hsz5 (by decide) rfl), ?_⟩
  refine t_Jx4a65c_size_8abf5 hV bz5 hsz5 (by decide) (fun z7 pz7 => ?_)
  have rg_z7 := i_range z7
  refine ⟨fun c1 => ?_, fun c1 => ?_⟩
  · exact kk (none : Option Nat) (Or.inl rfl)
  · refine ⟨(hV.mm hs_h (by decide) rfl), ?_⟩
    intro z8 ez8
    have ebz8 : z8 = some bz5 := (ez8.trans ez5.symm).trans ebz5
    refine ⟨bz5, ebz8, (hV.mm hsz5 (by decide) rfl), ?_⟩
    refine t_Jx4a65c_get_915e3 hV bz5 hsz5 (by decide) x1 (by omega) (fun z10 pz10 => ?_)
    obtain ⟨bz10, ebz10, hsz10⟩ := pz10
    have hsz10 : W.1 bz10 = 10 := hsz10
    refine ⟨Or.inr ⟨bz10, ebz10, (hV.mm hsz10 (by decide) rfl)⟩, ?_⟩
    refine ⟨bz10, ebz10, (hV.mm hsz10 (by decide) rfl), ?_⟩
    intro z11 ez11
    obtain ⟨bz11, ebz11, hsz11⟩ := hV.1.nn hsz10 (by decide) rfl 1 rfl (by decide)
    rw [← ez11] at ebz11
    refine ⟨fun c2 => ?_, fun c2 => ?_⟩
    · intro z12 ez12
      try have hz12 := i_add ez12 (by omega) (by omega)
      have rg_z12 := i_range z12
      exact hK3 z12 κ ⟨rfl, (by (try dsimp only); omega)⟩ (by (try dsimp only); omega)
    · refine ⟨(hV.mm hs_h (by decide) rfl), ?_⟩
      intro z13 ez13
      have ebz13 : z13 = some bz5 := (ez13.trans ez5.symm).trans ebz5
      refine ⟨bz5, ebz13, (hV.mm hsz5 (by decide) rfl), ?_⟩
      refine t_Jx4a65c_get_915e3 hV bz5 hsz5 (by decide) x1 (by omega) (fun z15 pz15 => ?_)
      obtain ⟨bz15, ebz15, hsz15⟩ := pz15
      have hsz15 : W.1 bz15 = 10 := hsz15
      refine ⟨Or.inr ⟨bz15, ebz15, (hV.mm hsz15 (by decide) rfl)⟩, ?_⟩
      exact kk z15 (Or.inr ⟨bz15, ebz15, hsz15⟩)
set_option maxRecDepth 100000 in
set_option maxHeartbeats 4000000 in
theorem t_X11_isOpenedBelow {G : GE} {E : CE} {W : CW} {c : Int} {κ : CS} (hV : CV G E W c κ) (h : Nat) (hs_h : W.1 h = 1) (a1 : Option Nat) (b_a1 : Nat) (e_a1 : a1 = some b_a1) (hs_a1 : W.1 b_a1 = 5)  {post : Int32 → CS → Prop} (kk : ∀ r : Int32, (0 ≤ r.toInt ∧ r.toInt ≤ 1) → post r κ) : F_X11_isOpenedBelow G h a1 post κ := by
  unfold F_X11_isOpenedBelow
  have k_0 : (0 : Int32).toInt = 0 := rfl
  have k_1 : (1 : Int32).toInt = 1 := rfl
  have kl_0 : (0 : Int64).toInt = 0 := rfl
  have kl_1 : (1 : Int64).toInt = 1 := rfl
  refine lc_in (fun (x : Int32) (κ' : CS) => κ = κ' ∧ (((0 ≤ x.toInt)))) (fun (x : Int32) (_ : CS) => (2147483647 - x.toInt).toNat) ⟨rfl, (by (try dsimp only); omega)⟩ (fun x1 κ2 hJ K3 hK3 => ?_)
  obtain ⟨hsg, hv⟩ := hJ
  subst hsg
  (try dsimp only at hv)
  have rg_x1 := i_range x1
  refine ⟨(hV.mm hs_h (by decide) rfl), ?_⟩
  intro z5 ez5
  obtain ⟨bz5, ebz5, hsz5⟩ := hV.1.nn hs_h (by decide) rfl 10 rfl (by decide)
  rw [← ez5] at ebz5
  refine ⟨bz5, ebz5, (hV.mm hsz5 (by decide) rfl), ?_⟩
  refine t_Jx4a65c_size_8abf5 hV bz5 hsz5 (by decide) (fun z7 pz7 => ?_)
  have rg_z7 := i_range z7
  refine ⟨fun c1 => ?_, fun c1 => ?_⟩
  · refine ⟨by omega, ?_⟩
    exact kk 0 (by omega)
  · refine ⟨(hV.mm hs_h (by decide) rfl), ?_⟩
    intro z8 ez8
    have ebz8 : z8 = some bz5 := (ez8.trans ez5.symm).trans ebz5
    refine ⟨bz5, ebz8, (hV.mm hsz5 (by decide) rfl), ?_⟩
    refine t_Jx4a65c_get_915e3 hV bz5 hsz5 (by decide) x1 (by omega) (fun z10 pz10 => ?_)
    obtain ⟨bz10, ebz10, hsz10⟩ := pz10
    have hsz10 : W.1 bz10 = 10 := hsz10
    refine ⟨Or.inr ⟨bz10, ebz10, (hV.mm hsz10 (by decide) rfl)⟩, ?_⟩
    refine ⟨bz10, ebz10, (hV.mm hsz10 (by decide) rfl), ?_⟩
    intro z11 ez11
    obtain ⟨bz11, ebz11, hsz11⟩ := hV.1.nn hsz10 (by decide) rfl 2 rfl (by decide)
    rw [← ez11] at ebz11
    refine jc_dup ?_
    refine ⟨fun c2 => ?_, fun c2 => ?_⟩
    · (try dsimp only)
      intro z17 ez17
      try have hz17 := i_add ez17 (by omega) (by omega)
      have rg_z17 := i_range z17
      exact hK3 z17 κ ⟨rfl, (by (try dsimp only); omega)⟩ (by (try dsimp only); omega)
    · refine ⟨(hV.mm hs_h (by decide) rfl), ?_⟩
      intro z18 ez18
      obtain ⟨bz18, ebz18, hsz18⟩ := hV.1.nn hs_h (by decide) rfl 3 rfl (by decide)
      rw [← ez18] at ebz18
      refine ⟨bz18, ebz18, (hV.mm hsz18 (by decide) rfl), ?_⟩
      refine t_X9_isWithin hV bz18 hsz18 z11 (Or.inr ⟨bz11, ebz11, hsz11⟩) a1 (Or.inr ⟨b_a1, e_a1, hs_a1⟩)  (fun z20 pz20 => ?_)
      have rg_z20 := i_range z20
      refine ⟨fun c3 => ?_, fun c3 => ?_⟩
      · (try dsimp only)
        intro z17 ez17
        try have hz17 := i_add ez17 (by omega) (by omega)
        have rg_z17 := i_range z17
        exact hK3 z17 κ ⟨rfl, (by (try dsimp only); omega)⟩ (by (try dsimp only); omega)
      · refine ⟨by omega, ?_⟩
        exact kk 1 (by omega)
set_option maxRecDepth 100000 in
set_option maxHeartbeats 4000000 in
theorem t_X11_isOpen {G : GE} {E : CE} {W : CW} {c : Int} {κ : CS} (hV : CV G E W c κ) (h : Nat) (hs_h : W.1 h = 1) (a1 : Int32)  {post : Int32 → CS → Prop} (kk : ∀ r : Int32, (0 ≤ r.toInt ∧ r.toInt ≤ 1) → post r κ) : F_X11_isOpen G h a1 post κ := by
  unfold F_X11_isOpen
  have k_0 : (0 : Int32).toInt = 0 := rfl
  have k_1 : (1 : Int32).toInt = 1 := rfl
  have rg_a1 := i_range a1
  refine ⟨(hV.mm hs_h (by decide) rfl), ?_⟩
  refine t_X11_connection hV h hs_h a1  (fun z2 pz2 => ?_)
  refine jc_dup ?_
  refine jc_dup ?_
  refine ⟨fun c1 => ?_, fun c1 => ?_⟩
  · (try dsimp only)
    (try dsimp only)
    refine ⟨by omega, ?_⟩
    exact kk 0 (by omega)
  · obtain ⟨bn2, ebn2, hsn2⟩ := pz2.resolve_left c1
    refine ⟨bn2, ebn2, (hV.mm hsn2 (by decide) rfl), ?_⟩
    intro z13 ez13
    have vz13 := hV.1.iv hsn2 (by decide) rfl 0 0 1 rfl ez13
    have wz13 : z13.toInt = (sI κ.1 bn2 0).toInt := by rw [ez13]
    refine ⟨fun c2 => ?_, fun c2 => ?_⟩
    · (try dsimp only)
      (try dsimp only)
      refine ⟨by omega, ?_⟩
      exact kk 0 (by omega)
    · (try dsimp only)
      refine ⟨by omega, ?_⟩
      exact kk 1 (by omega)
set_option maxRecDepth 100000 in
set_option maxHeartbeats 4000000 in
theorem t_X11_outs {G : GE} {E : CE} {W : CW} {c : Int} {κ : CS} (hV : CV G E W c κ) (h : Nat) (hs_h : W.1 h = 1) (a1 : Int32)  {post : Int32 → CS → Prop} (kk : ∀ r : Int32, (True) → post r κ) : F_X11_outs G h a1 post κ := by
  unfold F_X11_outs
  have k_m1 : ((-1) : Int32).toInt = (-1) := rfl
  have k_0 : (0 : Int32).toInt = 0 := rfl
  have rg_a1 := i_range a1
  refine ⟨(hV.mm hs_h (by decide) rfl), ?_⟩
  refine t_X11_connection hV h hs_h a1  (fun z2 pz2 => ?_)
  refine jc_dup ?_
  refine ⟨fun c1 => ?_, fun c1 => ?_⟩
  · obtain ⟨bn2, ebn2, hsn2⟩ := pz2.resolve_left c1
    refine ⟨bn2, ebn2, (hV.mm hsn2 (by decide) rfl), ?_⟩
    intro z8 ez8
    obtain ⟨bz8, ebz8, hsz8⟩ := hV.1.nn hsn2 (by decide) rfl 4 rfl (by decide)
    rw [← ez8] at ebz8
    refine ⟨bz8, ebz8, (hV.mm hsz8 (by decide) rfl), ?_⟩
    intro z9 ez9
    have vz9 := hV.1.iv hsz8 (by decide) rfl 1 0 16000 rfl ez9
    have wz9 : z9.toInt = (sI κ.1 bz8 1).toInt := by rw [ez9]
    (try dsimp only)
    exact kk z9 trivial
  · (try dsimp only)
    exact kk (-1) trivial
set_option maxRecDepth 100000 in
set_option maxHeartbeats 4000000 in
theorem t_X11_out {G : GE} {E : CE} {W : CW} {c : Int} {κ : CS} (hV : CV G E W c κ) (h : Nat) (hs_h : W.1 h = 1) (a1 : Int32) (a2 : Int32)  {post : Int32 → CS → Prop} (kk : ∀ r : Int32, (True) → post r κ) : F_X11_out G h a1 a2 post κ := by
  unfold F_X11_out
  have k_m1 : ((-1) : Int32).toInt = (-1) := rfl
  have k_0 : (0 : Int32).toInt = 0 := rfl
  have k_1 : (1 : Int32).toInt = 1 := rfl
  have kl_m1 : ((-1) : Int64).toInt = (-1) := rfl
  have kl_1 : (1 : Int64).toInt = 1 := rfl
  have rg_a1 := i_range a1
  have rg_a2 := i_range a2
  refine ⟨(hV.mm hs_h (by decide) rfl), ?_⟩
  refine t_X11_connection hV h hs_h a1  (fun z2 pz2 => ?_)
  refine jc_dup ?_
  refine ⟨fun c1 => ?_, fun c1 => ?_⟩
  · (try dsimp only)
    exact kk (-1) trivial
  · obtain ⟨bn2, ebn2, hsn2⟩ := pz2.resolve_left c1
    refine ⟨fun c2 => ?_, fun c2 => ?_⟩
    · (try dsimp only)
      exact kk (-1) trivial
    · refine ⟨bn2, ebn2, (hV.mm hsn2 (by decide) rfl), ?_⟩
      intro z8 ez8
      obtain ⟨bz8, ebz8, hsz8⟩ := hV.1.nn hsn2 (by decide) rfl 4 rfl (by decide)
      rw [← ez8] at ebz8
      refine ⟨bz8, ebz8, (hV.mm hsz8 (by decide) rfl), ?_⟩
      intro z9 ez9
      have vz9 := hV.1.iv hsz8 (by decide) rfl 1 0 16000 rfl ez9
      have wz9 : z9.toInt = (sI κ.1 bz8 1).toInt := by rw [ez9]
      refine ⟨fun c3 => ?_, fun c3 => ?_⟩
      · refine ⟨bn2, ebn2, (hV.mm hsn2 (by decide) rfl), ?_⟩
        intro z10 ez10
        have ebz10 : z10 = some bz8 := (ez10.trans ez8.symm).trans ebz8
        refine ⟨bz8, ebz10, (hV.mm hsz8 (by decide) rfl), ?_⟩
        refine t_X6_number hV bz8 hsz8 (by rfl) a2 1  (fun z12 pz12 => ?_)
        have rg_z12 := l_range z12
        intro z13 ez13
        try have hz13 := l_toi ez13 (by omega) (by omega)
        have rg_z13 := i_range z13
        exact kk z13 trivial
      · (try dsimp only)
        exact kk (-1) trivial
set_option maxRecDepth 100000 in
set_option maxHeartbeats 4000000 in
theorem t_X11_told {G : GE} {E : CE} {W : CW} {c : Int} {κ : CS} (hV : CV G E W c κ) (h : Nat) (hs_h : W.1 h = 1) (a1 : Int32)  {post : Int32 → CS → Prop} (kk : ∀ r : Int32, (True) → post r κ) : F_X11_told G h a1 post κ := by
  unfold F_X11_told
  have k_m1 : ((-1) : Int32).toInt = (-1) := rfl
  have k_0 : (0 : Int32).toInt = 0 := rfl
  have kl_m1 : ((-1) : Int64).toInt = (-1) := rfl
  have rg_a1 := i_range a1
  refine ⟨fun c1 => ?_, fun c1 => ?_, fun c1 => ?_, fun c1 => ?_, fun c1 => ?_, fun c1 => ?_, fun c1 => ?_, fun c1 => ?_, fun c1 => ?_, fun c1 => ?_⟩
  · exact kk (-1) trivial
  · refine ⟨(hV.mm hs_h (by decide) rfl), ?_⟩
    intro z1 ez1
    have vz1 := l_range z1
    have wz1 : z1.toInt = (sJ κ.1 h 7).toInt := by rw [ez1]
    intro z2 ez2
    try have hz2 := l_toi ez2 (by omega) (by omega)
    have rg_z2 := i_range z2
    exact kk z2 trivial
  · refine ⟨(hV.mm hs_h (by decide) rfl), ?_⟩
    intro z3 ez3
    have vz3 := hV.1.iv hs_h (by decide) rfl 6 (-2147483648) 2147483647 rfl ez3
    have wz3 : z3.toInt = (sI κ.1 h 6).toInt := by rw [ez3]
    exact kk z3 trivial
  · refine ⟨(hV.mm hs_h (by decide) rfl), ?_⟩
    intro z4 ez4
    obtain ⟨bz4, ebz4, hsz4⟩ := hV.1.nn hs_h (by decide) rfl 3 rfl (by decide)
    rw [← ez4] at ebz4
    refine ⟨bz4, ebz4, (hV.mm hsz4 (by decide) rfl), ?_⟩
    intro z5 ez5
    have vz5 := hV.1.iv hsz4 (by decide) rfl 1 (-2147483648) 2147483647 rfl ez5
    have wz5 : z5.toInt = (sI κ.1 bz4 1).toInt := by rw [ez5]
    exact kk z5 trivial
  · refine ⟨(hV.mm hs_h (by decide) rfl), ?_⟩
    intro z6 ez6
    obtain ⟨bz6, ebz6, hsz6⟩ := hV.1.nn hs_h (by decide) rfl 10 rfl (by decide)
    rw [← ez6] at ebz6
    refine ⟨bz6, ebz6, (hV.mm hsz6 (by decide) rfl), ?_⟩
    refine t_Jx4a65c_size_8abf5 hV bz6 hsz6 (by decide) (fun z8 pz8 => ?_)
    have rg_z8 := i_range z8
    exact kk z8 trivial
  · refine ⟨(hV.mm hs_h (by decide) rfl), ?_⟩
    intro z9 ez9
    obtain ⟨bz9, ebz9, hsz9⟩ := hV.1.nn hs_h (by decide) rfl 11 rfl (by decide)
    rw [← ez9] at ebz9
    refine ⟨bz9, ebz9, (hV.mm hsz9 (by decide) rfl), ?_⟩
    refine t_Jx4a65c_size_8abf5 hV bz9 hsz9 (by decide) (fun z11 pz11 => ?_)
    have rg_z11 := i_range z11
    exact kk z11 trivial
  · refine ⟨(hV.mm hs_h (by decide) rfl), ?_⟩
    intro z12 ez12
    obtain ⟨bz12, ebz12, hsz12⟩ := hV.1.nn hs_h (by decide) rfl 12 rfl (by decide)
    rw [← ez12] at ebz12
    refine ⟨bz12, ebz12, (hV.mm hsz12 (by decide) rfl), ?_⟩
    refine t_Jx4a65c_size_8abf5 hV bz12 hsz12 (by decide) (fun z14 pz14 => ?_)
    have rg_z14 := i_range z14
    exact kk z14 trivial
  · refine ⟨(hV.mm hs_h (by decide) rfl), ?_⟩
    intro z15 ez15
    obtain ⟨bz15, ebz15, hsz15⟩ := hV.1.nn hs_h (by decide) rfl 8 rfl (by decide)
    rw [← ez15] at ebz15
    refine ⟨bz15, ebz15, (hV.mm hsz15 (by decide) rfl), ?_⟩
    refine t_Jx4a65c_size_8abf5 hV bz15 hsz15 (by decide) (fun z17 pz17 => ?_)
    have rg_z17 := i_range z17
    exact kk z17 trivial
  · refine ⟨(hV.mm hs_h (by decide) rfl), ?_⟩
    intro z18 ez18
    obtain ⟨bz18, ebz18, hsz18⟩ := hV.1.nn hs_h (by decide) rfl 9 rfl (by decide)
    rw [← ez18] at ebz18
    refine ⟨bz18, ebz18, (hV.mm hsz18 (by decide) rfl), ?_⟩
    refine t_Jx4a65c_size_8abf5 hV bz18 hsz18 (by decide) (fun z20 pz20 => ?_)
    have rg_z20 := i_range z20
    exact kk z20 trivial
  · refine ⟨(hV.mm hs_h (by decide) rfl), ?_⟩
    intro z21 ez21
    obtain ⟨bz21, ebz21, hsz21⟩ := hV.1.nn hs_h (by decide) rfl 4 rfl (by decide)
    rw [← ez21] at ebz21
    refine ⟨bz21, ebz21, (hV.mm hsz21 (by decide) rfl), ?_⟩
    intro z22 ez22
    have vz22 := hV.1.iv hsz21 (by decide) rfl 1 (-2147483648) 2147483647 rfl ez22
    have wz22 : z22.toInt = (sI κ.1 bz21 1).toInt := by rw [ez22]
    exact kk z22 trivial
set_option maxRecDepth 100000 in
set_option maxHeartbeats 4000000 in
theorem t_X11_nextStage {G : GE} {E : CE} {W : CW} {c : Int} {κ : CS} (hV : CV G E W c κ) (h : Nat) (hs_h : W.1 h = 1) (a1 : Option Nat) (b_a1 : Nat) (e_a1 : a1 = some b_a1) (hs_a1 : W.1 b_a1 = 10)  {post : Int32 → CS → Prop} (kk : ∀ r : Int32, (0 ≤ r.toInt ∧ r.toInt ≤ 2) → post r κ) : F_X11_nextStage G h a1 post κ := by
  unfold F_X11_nextStage
  have k_0 : (0 : Int32).toInt = 0 := rfl
  have k_1 : (1 : Int32).toInt = 1 := rfl
  have k_2 : (2 : Int32).toInt = 2 := rfl
  have kl_1 : (1 : Int64).toInt = 1 := rfl
  have kl_2 : (2 : Int64).toInt = 2 := rfl
  refine ⟨b_a1, e_a1, (hV.mm hs_a1 (by decide) rfl), ?_⟩
  intro z1 ez1
  have vz1 := hV.1.iv hs_a1 (by decide) rfl 12 0 2 rfl ez1
  have wz1 : z1.toInt = (sI κ.1 b_a1 12).toInt := by rw [ez1]
  refine jc_in (fun (x : Int32) (κ' : CS) => κ = κ' ∧ (((0 ≤ x.toInt ∧ x.toInt ≤ 2)))) (fun x2 κ3 hJ => ?_) (fun K4 hK4 => ?_)
  · obtain ⟨hsg, hv⟩ := hJ
    subst hsg
    (try dsimp only at hv)
    have rg_x2 := i_range x2
    refine jc_dup ?_
    refine ⟨fun c1 => ?_, fun c1 => ?_⟩
    · (try dsimp only)
      exact kk x2 (by omega)
    · refine ⟨b_a1, e_a1, (hV.mm hs_a1 (by decide) rfl), ?_⟩
      refine t_X5_matches hV b_a1 hs_a1 (some G.2.2.2.1) 2 (fun _ => 46) (Or.inr (Or.inr (Or.inl ⟨rfl, rfl⟩))) (Or.inr (Or.inl ⟨rfl, rfl, rfl⟩)) (by decide) (fun _ _ => by decide) 2  (fun z13 pz13 => ?_)
      have rg_z13 := i_range z13
      refine ⟨fun c2 => ?_, fun c2 => ?_⟩
      · (try dsimp only)
        exact kk x2 (by omega)
      · (try dsimp only)
        exact kk 2 (by omega)
  · skip
    refine ⟨fun c3 => ?_, fun c3 => ?_⟩
    · exact hK4 z1 κ ⟨rfl, (by (try dsimp only); omega)⟩
    · refine ⟨b_a1, e_a1, (hV.mm hs_a1 (by decide) rfl), ?_⟩
      refine t_X5_matches hV b_a1 hs_a1 (some G.2.2.2.1) 2 (fun _ => 46) (Or.inr (Or.inr (Or.inl ⟨rfl, rfl⟩))) (Or.inr (Or.inl ⟨rfl, rfl, rfl⟩)) (by decide) (fun _ _ => by decide) 1  (fun z15 pz15 => ?_)
      have rg_z15 := i_range z15
      refine ⟨fun c4 => ?_, fun c4 => ?_⟩
      · exact hK4 z1 κ ⟨rfl, (by (try dsimp only); omega)⟩
      · exact hK4 1 κ ⟨rfl, (by (try dsimp only); omega)⟩
set_option maxRecDepth 100000 in
set_option maxHeartbeats 4000000 in
theorem t_X11_entryNode {G : GE} {E : CE} {W : CW} {c : Int} {κ : CS} (hV : CV G E W c κ) (h : Nat) (hs_h : W.1 h = 1) (a1 : Option Nat) (b_a1 : Nat) (e_a1 : a1 = some b_a1) (hs_a1 : W.1 b_a1 = 10) (a2 : Int32)  {post : Option Nat → CS → Prop} (kk : ∀ r : Option Nat, (r = none ∨ ∃ b, r = some b ∧ W.1 b = 5) → post r κ) : F_X11_entryNode G h a1 a2 post κ := by
  unfold F_X11_entryNode
  have k_m1 : ((-1) : Int32).toInt = (-1) := rfl
  have k_0 : (0 : Int32).toInt = 0 := rfl
  have k_1 : (1 : Int32).toInt = 1 := rfl
  have k_80 : (80 : Int32).toInt = 80 := rfl
  have kl_1 : (1 : Int64).toInt = 1 := rfl
  have rg_a2 := i_range a2
  refine jc_dup ?_
  refine ⟨fun c1 => ?_, fun c1 => ?_⟩
  · (try dsimp only)
    refine ⟨b_a1, e_a1, (hV.mm hs_a1 (by decide) rfl), ?_⟩
    intro z6 ez6
    obtain ⟨bz6, ebz6, hsz6⟩ := hV.1.nn hs_a1 (by decide) rfl 2 rfl (by decide)
    rw [← ez6] at ebz6
    exact kk z6 (Or.inr ⟨bz6, ebz6, hsz6⟩)
  · refine jc_in (fun (x : Unit) (κ' : CS) => κ = κ' ∧ ((True))) (fun x7 κ8 hJ => ?_) (fun K9 hK9 => ?_)
    · obtain ⟨hsg, hv⟩ := hJ
      subst hsg
      (try dsimp only at hv)
      refine ⟨fun c2 => ?_, fun c2 => ?_⟩
      · refine lc_in (fun (x : Int32 × Option Nat) (κ' : CS) => κ = κ' ∧ (((0 ≤ x.1.toInt)) ∧ (x.2 = none ∨ ∃ b, x.2 = some b ∧ W.1 b = 5))) (fun (x : Int32 × Option Nat) (_ : CS) => (2147483647 - x.1.toInt).toNat) ⟨rfl, ⟨(by (try dsimp only); omega), (Or.inl rfl)⟩⟩ (fun x12 κ13 hJ K14 hK14 => ?_)
        obtain ⟨hsg, hv⟩ := hJ
        subst hsg
        (try dsimp only at hv)
        obtain ⟨hv, nq50_1⟩ := hv
        (try dsimp only at hv)
        have rg_x12_1 := i_range x12.1
        refine ⟨fun c3 => ?_, fun c3 => ?_⟩
        · exact kk x12.2 nq50_1
        · refine ⟨(hV.mm hs_h (by decide) rfl), ?_⟩
          intro z16 ez16
          obtain ⟨bz16, ebz16, hsz16⟩ := hV.1.nn hs_h (by decide) rfl 3 rfl (by decide)
          rw [← ez16] at ebz16
          refine ⟨bz16, ebz16, (hV.mm hsz16 (by decide) rfl), ?_⟩
          refine t_X9_node hV bz16 hsz16 x12.1  (fun z18 pz18 => ?_)
          refine jc_dup ?_
          refine ⟨fun c4 => ?_, fun c4 => ?_⟩
          · (try dsimp only)
            intro z24 ez24
            try have hz24 := i_add ez24 (by omega) (by omega)
            have rg_z24 := i_range z24
            exact hK14 (z24, x12.2) κ ⟨rfl, ⟨(by (try dsimp only); omega), nq50_1⟩⟩ (by (try dsimp only); omega)
          · obtain ⟨bn2, ebn2, hsn2⟩ := pz18.resolve_left c4
            refine ⟨bn2, ebn2, (hV.mm hsn2 (by decide) rfl), ?_⟩
            intro z25 ez25
            have vz25 := hV.1.iv hsn2 (by decide) rfl 4 (-2147483648) 2147483647 rfl ez25
            have wz25 : z25.toInt = (sI κ.1 bn2 4).toInt := by rw [ez25]
            refine ⟨b_a1, e_a1, (hV.mm hs_a1 (by decide) rfl), ?_⟩
            intro z26 ez26
            obtain ⟨bz26, ebz26, hsz26⟩ := hV.1.nn hs_a1 (by decide) rfl 2 rfl (by decide)
            rw [← ez26] at ebz26
            refine ⟨bz26, ebz26, (hV.mm hsz26 (by decide) rfl), ?_⟩
            intro z27 ez27
            have vz27 := hV.1.iv hsz26 (by decide) rfl 0 (-2147483648) 2147483647 rfl ez27
            have wz27 : z27.toInt = (sI κ.1 bz26 0).toInt := by rw [ez27]
            refine ⟨fun c5 => ?_, fun c5 => ?_⟩
            · (try dsimp only)
              intro z24 ez24
              try have hz24 := i_add ez24 (by omega) (by omega)
              have rg_z24 := i_range z24
              exact hK14 (z24, x12.2) κ ⟨rfl, ⟨(by (try dsimp only); omega), nq50_1⟩⟩ (by (try dsimp only); omega)
            · refine ⟨b_a1, e_a1, (hV.mm hs_a1 (by decide) rfl), ?_⟩
              intro z28 ez28
              obtain ⟨bz28, ebz28, hsz28⟩ := hV.1.nn hs_a1 (by decide) rfl 13 rfl (by decide)
              rw [← ez28] at ebz28
              refine ⟨b_a1, e_a1, (hV.mm hs_a1 (by decide) rfl), ?_⟩
              intro z29 ez29
              have vz29 := hV.1.iv hs_a1 (by decide) rfl 14 (-2147483648) 2147483647 rfl ez29
              have wz29 : z29.toInt = (sI κ.1 b_a1 14).toInt := by rw [ez29]
              refine ⟨bn2, ebn2, (hV.mm hsn2 (by decide) rfl), ?_⟩
              refine t_X4_isBehind hV bn2 hsn2 z28 (W.2 bz28) (sI κ.1 bz28) (AL.of hV ebz28 hsz28 (by decide) rfl (by decide)) (BA.of hV ebz28 hsz28 (by decide) rfl rfl) (hV.lm hsz28 (by decide) rfl) (fun i hi => (hV.1.el hsz28 (by decide) rfl i hi).1) z29  (fun z31 pz31 => ?_)
              have rg_z31 := i_range z31
              refine ⟨fun c6 => ?_, fun c6 => ?_⟩
              · (try dsimp only)
                intro z24 ez24
                try have hz24 := i_add ez24 (by omega) (by omega)
                have rg_z24 := i_range z24
                exact hK14 (z24, x12.2) κ ⟨rfl, ⟨(by (try dsimp only); omega), nq50_1⟩⟩ (by (try dsimp only); omega)
              · refine jc_dup ?_
                refine ⟨fun c7 => ?_, fun c7 => ?_⟩
                · (try dsimp only)
                  refine ⟨bn2, ebn2, (hV.mm hsn2 (by decide) rfl), ?_⟩
                  intro z37 ez37
                  obtain ⟨bz37, ebz37, hsz37⟩ := hV.1.nn hsn2 (by decide) rfl 5 rfl (by decide)
                  rw [← ez37] at ebz37
                  refine ⟨bn2, ebn2, (hV.mm hsn2 (by decide) rfl), ?_⟩
                  intro z38 ez38
                  have vz38 := hV.1.iv hsn2 (by decide) rfl 6 0 12 rfl ez38
                  have wz38 : z38.toInt = (sI κ.1 bn2 6).toInt := by rw [ez38]
                  refine ⟨b_a1, e_a1, (hV.mm hs_a1 (by decide) rfl), ?_⟩
                  refine t_X5_matches hV b_a1 hs_a1 z37 (W.2 bz37) (sI κ.1 bz37) (AL.of hV ebz37 hsz37 (by decide) rfl (by decide)) (BA.of hV ebz37 hsz37 (by decide) rfl rfl) (hV.lm hsz37 (by decide) rfl) (fun i hi => (hV.1.el hsz37 (by decide) rfl i hi).1) z38  (fun z40 pz40 => ?_)
                  have rg_z40 := i_range z40
                  refine ⟨fun c8 => ?_, fun c8 => ?_⟩
                  · (try dsimp only)
                    intro z24 ez24
                    try have hz24 := i_add ez24 (by omega) (by omega)
                    have rg_z24 := i_range z24
                    exact hK14 (z24, x12.2) κ ⟨rfl, ⟨(by (try dsimp only); omega), (Or.inl c7)⟩⟩ (by (try dsimp only); omega)
                  · (try dsimp only)
                    intro z24 ez24
                    try have hz24 := i_add ez24 (by omega) (by omega)
                    have rg_z24 := i_range z24
                    exact hK14 (z24, z18) κ ⟨rfl, ⟨(by (try dsimp only); omega), (Or.inr ⟨bn2, ebn2, hsn2⟩)⟩⟩ (by (try dsimp only); omega)
                · obtain ⟨bn5, ebn5, hsn5⟩ := nq50_1.resolve_left c7
                  refine ⟨bn2, ebn2, (hV.mm hsn2 (by decide) rfl), ?_⟩
                  intro z41 ez41
                  obtain ⟨bz41, ebz41, hsz41⟩ := hV.1.nn hsn2 (by decide) rfl 5 rfl (by decide)
                  rw [← ez41] at ebz41
                  refine ⟨bn2, ebn2, (hV.mm hsn2 (by decide) rfl), ?_⟩
                  intro z42 ez42
                  have vz42 := hV.1.iv hsn2 (by decide) rfl 6 0 12 rfl ez42
                  have wz42 : z42.toInt = (sI κ.1 bn2 6).toInt := by rw [ez42]
                  refine ⟨bn5, ebn5, (hV.mm hsn5 (by decide) rfl), ?_⟩
                  refine t_X4_isBehind hV bn5 hsn5 z41 (W.2 bz41) (sI κ.1 bz41) (AL.of hV ebz41 hsz41 (by decide) rfl (by decide)) (BA.of hV ebz41 hsz41 (by decide) rfl rfl) (hV.lm hsz41 (by decide) rfl) (fun i hi => (hV.1.el hsz41 (by decide) rfl i hi).1) z42  (fun z44 pz44 => ?_)
                  have rg_z44 := i_range z44
                  refine ⟨fun c9 => ?_, fun c9 => ?_⟩
                  · (try dsimp only)
                    intro z24 ez24
                    try have hz24 := i_add ez24 (by omega) (by omega)
                    have rg_z24 := i_range z24
                    exact hK14 (z24, x12.2) κ ⟨rfl, ⟨(by (try dsimp only); omega), (Or.inr ⟨bn5, ebn5, hsn5⟩)⟩⟩ (by (try dsimp only); omega)
                  · (try dsimp only)
                    refine ⟨bn2, ebn2, (hV.mm hsn2 (by decide) rfl), ?_⟩
                    intro z37 ez37
                    have ebz37 : z37 = some bz41 := (ez37.trans ez41.symm).trans ebz41
                    refine ⟨bn2, ebn2, (hV.mm hsn2 (by decide) rfl), ?_⟩
                    intro z38 ez38
                    have vz38 := hV.1.iv hsn2 (by decide) rfl 6 0 12 rfl ez38
                    have wz38 : z38.toInt = (sI κ.1 bn2 6).toInt := by rw [ez38]
                    refine ⟨b_a1, e_a1, (hV.mm hs_a1 (by decide) rfl), ?_⟩
                    refine t_X5_matches hV b_a1 hs_a1 z37 (W.2 bz41) (sI κ.1 bz41) (AL.of hV ebz37 hsz41 (by decide) rfl (by decide)) (BA.of hV ebz37 hsz41 (by decide) rfl rfl) (hV.lm hsz41 (by decide) rfl) (fun i hi => (hV.1.el hsz41 (by decide) rfl i hi).1) z38  (fun z40 pz40 => ?_)
                    have rg_z40 := i_range z40
                    refine ⟨fun c10 => ?_, fun c10 => ?_⟩
                    · (try dsimp only)
                      intro z24 ez24
                      try have hz24 := i_add ez24 (by omega) (by omega)
                      have rg_z24 := i_range z24
                      exact hK14 (z24, x12.2) κ ⟨rfl, ⟨(by (try dsimp only); omega), (Or.inr ⟨bn5, ebn5, hsn5⟩)⟩⟩ (by (try dsimp only); omega)
                    · (try dsimp only)
                      intro z24 ez24
                      try have hz24 := i_add ez24 (by omega) (by omega)
                      have rg_z24 := i_range z24
                      exact hK14 (z24, z18) κ ⟨rfl, ⟨(by (try dsimp only); omega), (Or.inr ⟨bn2, ebn2, hsn2⟩)⟩⟩ (by (try dsimp only); omega)
      · refine ⟨(hV.mm hs_h (by decide) rfl), ?_⟩
        intro z45 ez45
        obtain ⟨bz45, ebz45, hsz45⟩ := hV.1.nn hs_h (by decide) rfl 3 rfl (by decide)
        rw [← ez45] at ebz45
        refine ⟨b_a1, e_a1, (hV.mm hs_a1 (by decide) rfl), ?_⟩
        intro z46 ez46
        obtain ⟨bz46, ebz46, hsz46⟩ := hV.1.nn hs_a1 (by decide) rfl 2 rfl (by decide)
        rw [← ez46] at ebz46
        refine ⟨bz46, ebz46, (hV.mm hsz46 (by decide) rfl), ?_⟩
        intro z47 ez47
        have vz47 := hV.1.iv hsz46 (by decide) rfl 4 (-2147483648) 2147483647 rfl ez47
        have wz47 : z47.toInt = (sI κ.1 bz46 4).toInt := by rw [ez47]
        refine ⟨bz45, ebz45, (hV.mm hsz45 (by decide) rfl), ?_⟩
        refine t_X9_node hV bz45 hsz45 z47  (fun z49 pz49 => ?_)
        exact kk z49 pz49
    · skip
      refine ⟨fun c11 => ?_, fun c11 => ?_⟩
      · exact hK9 () κ ⟨rfl, trivial⟩
      · refine ⟨b_a1, e_a1, (hV.mm hs_a1 (by decide) rfl), ?_⟩
        intro z50 ez50
        obtain ⟨bz50, ebz50, hsz50⟩ := hV.1.nn hs_a1 (by decide) rfl 2 rfl (by decide)
        rw [← ez50] at ebz50
        refine ⟨bz50, ebz50, (hV.mm hsz50 (by decide) rfl), ?_⟩
        intro z51 ez51
        have vz51 := hV.1.iv hsz50 (by decide) rfl 4 (-2147483648) 2147483647 rfl ez51
        have wz51 : z51.toInt = (sI κ.1 bz50 4).toInt := by rw [ez51]
        refine ⟨fun c12 => ?_, fun c12 => ?_⟩
        · exact hK9 () κ ⟨rfl, trivial⟩
        · (try dsimp only)
          refine ⟨b_a1, e_a1, (hV.mm hs_a1 (by decide) rfl), ?_⟩
          intro z6 ez6
          have ebz6 : z6 = some bz50 := (ez6.trans ez50.symm).trans ebz50
          exact kk z6 (Or.inr ⟨bz50, ebz6, hsz50⟩)

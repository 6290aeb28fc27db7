/-! the class: pure methods over lists, nodes, names -/
set_option maxRecDepth 100000 in
set_option maxHeartbeats 4000000 in
theorem t_J7_rangeCheck_23922 {G : GE} {E : CE} {W : CW} {c : Int} {κ : CS} (hV : CV G E W c κ) (a0 : Int32) (a1 : Int32) (a2 : Int32) (hz : 0 ≤ a1.toInt ∧ a1.toInt ≤ a2.toInt ∧ a2.toInt ≤ a0.toInt) {post : CS → Prop} (kk : (True) → post κ) : F_J7_rangeCheck_23922 G a0 a1 a2 post κ := by
  unfold F_J7_rangeCheck_23922
  have k_0 : (0 : Int32).toInt = 0 := rfl
  have rg_a0 := i_range a0
  have rg_a1 := i_range a1
  have rg_a2 := i_range a2
  refine ⟨fun c1 => ?_, fun c1 => ?_⟩
  · refine ⟨fun c2 => ?_, fun c2 => ?_⟩
    · refine ⟨fun c3 => ?_, fun c3 => ?_⟩
      · exact kk trivial
      · exfalso; omega
    · exfalso; omega
  · exfalso; omega
set_option maxRecDepth 100000 in
set_option maxHeartbeats 4000000 in
theorem t_X9_node {G : GE} {E : CE} {W : CW} {c : Int} {κ : CS} (hV : CV G E W c κ) (h : Nat) (hs_h : W.1 h = 6) (a1 : Int32)  {post : Option Nat → CS → Prop} (kk : ∀ r : Option Nat, (r = none ∨ ∃ b, r = some b ∧ W.1 b = 5) → post r κ) : F_X9_node G h a1 post κ := by
  unfold F_X9_node
  have k_0 : (0 : Int32).toInt = 0 := rfl
  have rg_a1 := i_range a1
  refine jc_dup ?_
  refine jc_dup ?_
  refine ⟨fun c1 => ?_, fun c1 => ?_⟩
  · (try dsimp only)
    (try dsimp only)
    exact kk (none : Option Nat) (Or.inl rfl)
  · refine ⟨(hV.mm hs_h (by decide) rfl), ?_⟩
    intro z11 ez11
    obtain ⟨bz11, ebz11, hsz11⟩ := hV.1.nn hs_h (by decide) rfl 0 rfl (by decide)
    rw [← ez11] at ebz11
    refine ⟨(W.2 bz11), (AL.of hV ebz11 hsz11 (by decide) rfl (by decide)), ?_⟩
    intro z12 ez12
    have lnz12 := nI_ln ez12 (hV.lm hsz11 (by decide) rfl)
    have lmz12 := (hV.lm hsz11 (by decide) rfl)
    have lxz12 := hV.1.fx hsz11 (by decide) rfl 80 rfl (by decide)
    refine ⟨fun c2 => ?_, fun c2 => ?_⟩
    · (try dsimp only)
      (try dsimp only)
      exact kk (none : Option Nat) (Or.inl rfl)
    · refine ⟨(hV.mm hs_h (by decide) rfl), ?_⟩
      intro z13 ez13
      have ebz13 : z13 = some bz11 := (ez13.trans ez11.symm).trans ebz11
      have ln_ := hV.ln hsz11 (by decide) rfl
      have lx_ := hV.1.fx hsz11 (by decide) rfl 80 rfl (by decide)
      refine ⟨bz11, ebz13, ⟨(hV.mm hsz11 (by decide) rfl).1, by rw [(hV.mm hsz11 (by decide) rfl).2]; decide⟩, by omega, ?_⟩
      intro z14 ez14
      obtain ⟨bz14, ebz14, hsz14⟩ := (hV.1.el hsz11 (by decide) rfl a1.toInt.toNat (by omega)).2.nn (by decide)
      rw [← ez14] at ebz14
      refine ⟨bz14, ebz14, (hV.mm hsz14 (by decide) rfl), ?_⟩
      intro z15 ez15
      have vz15 := hV.1.iv hsz14 (by decide) rfl 1 0 1 rfl ez15
      have wz15 : z15.toInt = (sI κ.1 bz14 1).toInt := by rw [ez15]
      refine ⟨fun c3 => ?_, fun c3 => ?_⟩
      · (try dsimp only)
        (try dsimp only)
        exact kk (none : Option Nat) (Or.inl rfl)
      · refine ⟨(hV.mm hs_h (by decide) rfl), ?_⟩
        intro z16 ez16
        have ebz16 : z16 = some bz11 := (ez16.trans ez11.symm).trans ebz11
        have ln_ := hV.ln hsz11 (by decide) rfl
        have lx_ := hV.1.fx hsz11 (by decide) rfl 80 rfl (by decide)
        refine ⟨bz11, ebz16, ⟨(hV.mm hsz11 (by decide) rfl).1, by rw [(hV.mm hsz11 (by decide) rfl).2]; decide⟩, by omega, ?_⟩
        intro z17 ez17
        obtain ⟨bz17, ebz17, hsz17⟩ := (hV.1.el hsz11 (by decide) rfl a1.toInt.toNat (by omega)).2.nn (by decide)
        rw [← ez17] at ebz17
        (try dsimp only)
        exact kk z17 (Or.inr ⟨bz17, ebz17, hsz17⟩)
set_option maxRecDepth 100000 in
set_option maxHeartbeats 4000000 in
theorem t_X9_free {G : GE} {E : CE} {W : CW} {c : Int} {κ : CS} (hV : CV G E W c κ) (h : Nat) (hs_h : W.1 h = 6)  {post : Option Nat → CS → Prop} (kk : ∀ r : Option Nat, (r = none ∨ ∃ b, r = some b ∧ W.1 b = 5) → post r κ) : F_X9_free G h post κ := by
  unfold F_X9_free
  have k_0 : (0 : Int32).toInt = 0 := rfl
  have k_1 : (1 : Int32).toInt = 1 := rfl
  have kl_1 : (1 : Int64).toInt = 1 := rfl
  refine lc_in (fun (x : Int32) (κ' : CS) => κ = κ' ∧ (((0 ≤ x.toInt)))) (fun (x : Int32) (_ : CS) => (2147483647 - x.toInt).toNat) ⟨rfl, (by (try dsimp only); omega)⟩ (fun x1 κ2 hJ K3 hK3 => ?_)
  obtain ⟨hsg, hv⟩ := hJ
  subst hsg
  (try dsimp only at hv)
  have rg_x1 := i_range x1
  refine ⟨(hV.mm hs_h (by decide) rfl), ?_⟩
  intro z5 ez5
  obtain ⟨bz5, ebz5, hsz5⟩ := hV.1.nn hs_h (by decide) rfl 0 rfl (by decide)
  rw [← ez5] at ebz5
  refine ⟨(W.2 bz5), (AL.of hV ebz5 hsz5 (by decide) rfl (by decide)), ?_⟩
  intro z6 ez6
  have lnz6 := nI_ln ez6 (hV.lm hsz5 (by decide) rfl)
  have lmz6 := (hV.lm hsz5 (by decide) rfl)
  have lxz6 := hV.1.fx hsz5 (by decide) rfl 80 rfl (by decide)
  refine ⟨fun c1 => ?_, fun c1 => ?_⟩
  · exact kk (none : Option Nat) (Or.inl rfl)
  · refine ⟨(hV.mm hs_h (by decide) rfl), ?_⟩
    intro z7 ez7
    have ebz7 : z7 = some bz5 := (ez7.trans ez5.symm).trans ebz5
    have ln_ := hV.ln hsz5 (by decide) rfl
    have lx_ := hV.1.fx hsz5 (by decide) rfl 80 rfl (by decide)
    refine ⟨bz5, ebz7, ⟨(hV.mm hsz5 (by decide) rfl).1, by rw [(hV.mm hsz5 (by decide) rfl).2]; decide⟩, by omega, ?_⟩
    intro z8 ez8
    obtain ⟨bz8, ebz8, hsz8⟩ := (hV.1.el hsz5 (by decide) rfl x1.toInt.toNat (by omega)).2.nn (by decide)
    rw [← ez8] at ebz8
    refine ⟨bz8, ebz8, (hV.mm hsz8 (by decide) rfl), ?_⟩
    intro z9 ez9
    have vz9 := hV.1.iv hsz8 (by decide) rfl 1 0 1 rfl ez9
    have wz9 : z9.toInt = (sI κ.1 bz8 1).toInt := by rw [ez9]
    refine ⟨fun c2 => ?_, fun c2 => ?_⟩
    · intro z10 ez10
      try have hz10 := i_add ez10 (by omega) (by omega)
      have rg_z10 := i_range z10
      exact hK3 z10 κ ⟨rfl, (by (try dsimp only); omega)⟩ (by (try dsimp only); omega)
    · refine ⟨(hV.mm hs_h (by decide) rfl), ?_⟩
      intro z11 ez11
      have ebz11 : z11 = some bz5 := (ez11.trans ez5.symm).trans ebz5
      have ln_ := hV.ln hsz5 (by decide) rfl
      have lx_ := hV.1.fx hsz5 (by decide) rfl 80 rfl (by decide)
      refine ⟨bz5, ebz11, ⟨(hV.mm hsz5 (by decide) rfl).1, by rw [(hV.mm hsz5 (by decide) rfl).2]; decide⟩, by omega, ?_⟩
      intro z12 ez12
      obtain ⟨bz12, ebz12, hsz12⟩ := (hV.1.el hsz5 (by decide) rfl x1.toInt.toNat (by omega)).2.nn (by decide)
      rw [← ez12] at ebz12
      exact kk z12 (Or.inr ⟨bz12, ebz12, hsz12⟩)
set_option maxRecDepth 100000 in
set_option maxHeartbeats 4000000 in
theorem t_X9_child {G : GE} {E : CE} {W : CW} {c : Int} {κ : CS} (hV : CV G E W c κ) (h : Nat) (hs_h : W.1 h = 6) (a1 : Int32) (a2 : Option Nat) (b_a2 : Nat) (e_a2 : a2 = some b_a2) (hs_a2 : W.1 b_a2 = 13) (a3 : Int32) (a4 : Int32)  {post : Option Nat → CS → Prop} (kk : ∀ r : Option Nat, (r = none ∨ ∃ b, r = some b ∧ W.1 b = 5) → post r κ) : F_X9_child G h a1 a2 a3 a4 post κ := by
  unfold F_X9_child
  have k_0 : (0 : Int32).toInt = 0 := rfl
  have k_1 : (1 : Int32).toInt = 1 := rfl
  have kl_1 : (1 : Int64).toInt = 1 := rfl
  have rg_a1 := i_range a1
  have rg_a3 := i_range a3
  have rg_a4 := i_range a4
  refine lc_in (fun (x : Int32) (κ' : CS) => κ = κ' ∧ (((0 ≤ x.toInt)))) (fun (x : Int32) (_ : CS) => (2147483647 - x.toInt).toNat) ⟨rfl, (by (try dsimp only); omega)⟩ (fun x1 κ2 hJ K3 hK3 => ?_)
  obtain ⟨hsg, hv⟩ := hJ
  subst hsg
  (try dsimp only at hv)
  have rg_x1 := i_range x1
  refine ⟨(hV.mm hs_h (by decide) rfl), ?_⟩
  intro z5 ez5
  obtain ⟨bz5, ebz5, hsz5⟩ := hV.1.nn hs_h (by decide) rfl 0 rfl (by decide)
  rw [← ez5] at ebz5
  refine ⟨(W.2 bz5), (AL.of hV ebz5 hsz5 (by decide) rfl (by decide)), ?_⟩
  intro z6 ez6
  have lnz6 := nI_ln ez6 (hV.lm hsz5 (by decide) rfl)
  have lmz6 := (hV.lm hsz5 (by decide) rfl)
  have lxz6 := hV.1.fx hsz5 (by decide) rfl 80 rfl (by decide)
  refine ⟨fun c1 => ?_, fun c1 => ?_⟩
  · exact kk (none : Option Nat) (Or.inl rfl)
  · refine ⟨(hV.mm hs_h (by decide) rfl), ?_⟩
    intro z7 ez7
    have ebz7 : z7 = some bz5 := (ez7.trans ez5.symm).trans ebz5
    have ln_ := hV.ln hsz5 (by decide) rfl
    have lx_ := hV.1.fx hsz5 (by decide) rfl 80 rfl (by decide)
    refine ⟨bz5, ebz7, ⟨(hV.mm hsz5 (by decide) rfl).1, by rw [(hV.mm hsz5 (by decide) rfl).2]; decide⟩, by omega, ?_⟩
    intro z8 ez8
    obtain ⟨bz8, ebz8, hsz8⟩ := (hV.1.el hsz5 (by decide) rfl x1.toInt.toNat (by omega)).2.nn (by decide)
    rw [← ez8] at ebz8
    refine ⟨bz8, ebz8, (hV.mm hsz8 (by decide) rfl), ?_⟩
    intro z9 ez9
    have vz9 := hV.1.iv hsz8 (by decide) rfl 1 0 1 rfl ez9
    have wz9 : z9.toInt = (sI κ.1 bz8 1).toInt := by rw [ez9]
    refine jc_in (fun (x : Int32) (κ' : CS) => κ = κ' ∧ (((0 ≤ x.toInt ∧ x.toInt ≤ 1)))) (fun x10 κ11 hJ => ?_) (fun K12 hK12 => ?_)
    · obtain ⟨hsg, hv⟩ := hJ
      subst hsg
      (try dsimp only at hv)
      have rg_x10 := i_range x10
      refine lc_in (fun (x : Int32 × Int32) (κ' : CS) => κ = κ' ∧ (((0 ≤ x.1.toInt) ∧ (0 ≤ x.2.toInt ∧ x.2.toInt ≤ 1)))) (fun (x : Int32 × Int32) (_ : CS) => (2147483647 - x.1.toInt).toNat) ⟨rfl, (by (try dsimp only); omega)⟩ (fun x15 κ16 hJ K17 hK17 => ?_)
      obtain ⟨hsg, hv⟩ := hJ
      subst hsg
      (try dsimp only at hv)
      have rg_x15_1 := i_range x15.1
      have rg_x15_2 := i_range x15.2
      refine jc_dup ?_
      refine ⟨fun c2 => ?_, fun c2 => ?_⟩
      · (try dsimp only)
        refine ⟨fun c3 => ?_, fun c3 => ?_⟩
        · intro z24 ez24
          try have hz24 := i_add ez24 (by omega) (by omega)
          have rg_z24 := i_range z24
          exact hK3 z24 κ ⟨rfl, (by (try dsimp only); omega)⟩ (by (try dsimp only); omega)
        · exact kk z8 (Or.inr ⟨bz8, ebz8, hsz8⟩)
      · refine ⟨bz8, ebz8, (hV.mm hsz8 (by decide) rfl), ?_⟩
        intro z25 ez25
        have vz25 := hV.1.iv hsz8 (by decide) rfl 6 0 12 rfl ez25
        have wz25 : z25.toInt = (sI κ.1 bz8 6).toInt := by rw [ez25]
        refine ⟨fun c4 => ?_, fun c4 => ?_⟩
        · (try dsimp only)
          refine ⟨fun c5 => ?_, fun c5 => ?_⟩
          · intro z24 ez24
            try have hz24 := i_add ez24 (by omega) (by omega)
            have rg_z24 := i_range z24
            exact hK3 z24 κ ⟨rfl, (by (try dsimp only); omega)⟩ (by (try dsimp only); omega)
          · exact kk z8 (Or.inr ⟨bz8, ebz8, hsz8⟩)
        · refine ⟨bz8, ebz8, (hV.mm hsz8 (by decide) rfl), ?_⟩
          intro z26 ez26
          obtain ⟨bz26, ebz26, hsz26⟩ := hV.1.nn hsz8 (by decide) rfl 5 rfl (by decide)
          rw [← ez26] at ebz26
          refine ⟨(W.2 bz26), (AL.of hV ebz26 hsz26 (by decide) rfl (by decide)), ?_⟩
          intro z27 ez27
          have lnz27 := nI_ln ez27 (hV.lm hsz26 (by decide) rfl)
          have lmz27 := (hV.lm hsz26 (by decide) rfl)
          have lxz27 := hV.1.fx hsz26 (by decide) rfl 12 rfl (by decide)
          refine ⟨fun c6 => ?_, fun c6 => ?_⟩
          · (try dsimp only)
            refine ⟨fun c7 => ?_, fun c7 => ?_⟩
            · intro z24 ez24
              try have hz24 := i_add ez24 (by omega) (by omega)
              have rg_z24 := i_range z24
              exact hK3 z24 κ ⟨rfl, (by (try dsimp only); omega)⟩ (by (try dsimp only); omega)
            · exact kk z8 (Or.inr ⟨bz8, ebz8, hsz8⟩)
          · intro z28 ez28
            try have hz28 := i_add ez28 (by omega) (by omega)
            have rg_z28 := i_range z28
            refine ⟨b_a2, e_a2, (hV.mm hs_a2 (by decide) rfl), ?_⟩
            refine t_X10_unit hV b_a2 hs_a2 z28  (fun z30 pz30 => ?_)
            have rg_z30 := i_range z30
            refine t_X11_upper hV z30  (fun z32 pz32 => ?_)
            have rg_z32 := i_range z32
            refine ⟨bz8, ebz8, (hV.mm hsz8 (by decide) rfl), ?_⟩
            intro z33 ez33
            have ebz33 : z33 = some bz26 := (ez33.trans ez26.symm).trans ebz26
            have lx_z34 := hV.1.fx hsz26 (by decide) rfl 12 rfl (by decide)
            refine ⟨(sI κ.1 bz26), (W.2 bz26), (BA.of hV ebz33 hsz26 (by decide) rfl rfl), (by omega), ?_⟩
            intro z34 ez34
            have vz34 : -128 ≤ z34.toInt ∧ z34.toInt ≤ 127 := by rw [ez34]; exact (fun i hi => (hV.1.el hsz26 (by decide) rfl i hi).1) _ (by omega)
            refine t_X11_upper hV z34  (fun z36 pz36 => ?_)
            have rg_z36 := i_range z36
            refine jc_dup ?_
            refine ⟨fun c8 => ?_, fun c8 => ?_⟩
            · (try dsimp only)
              intro z42 ez42
              try have hz42 := i_add ez42 (by omega) (by omega)
              have rg_z42 := i_range z42
              exact hK17 (z42, 0) κ ⟨rfl, (by (try dsimp only); omega)⟩ (by (try dsimp only); omega)
            · (try dsimp only)
              intro z42 ez42
              try have hz42 := i_add ez42 (by omega) (by omega)
              have rg_z42 := i_range z42
              exact hK17 (z42, 1) κ ⟨rfl, (by (try dsimp only); omega)⟩ (by (try dsimp only); omega)
    · skip
      refine jc_dup ?_
      refine ⟨fun c9 => ?_, fun c9 => ?_⟩
      · (try dsimp only)
        exact hK12 0 κ ⟨rfl, (by (try dsimp only); omega)⟩
      · refine ⟨bz8, ebz8, (hV.mm hsz8 (by decide) rfl), ?_⟩
        intro z48 ez48
        have vz48 := hV.1.iv hsz8 (by decide) rfl 4 (-2147483648) 2147483647 rfl ez48
        have wz48 : z48.toInt = (sI κ.1 bz8 4).toInt := by rw [ez48]
        refine ⟨fun c10 => ?_, fun c10 => ?_⟩
        · (try dsimp only)
          exact hK12 0 κ ⟨rfl, (by (try dsimp only); omega)⟩
        · refine ⟨bz8, ebz8, (hV.mm hsz8 (by decide) rfl), ?_⟩
          intro z49 ez49
          have vz49 := hV.1.iv hsz8 (by decide) rfl 6 0 12 rfl ez49
          have wz49 : z49.toInt = (sI κ.1 bz8 6).toInt := by rw [ez49]
          intro z50 ez50
          try have hz50 := i_sub ez50 (by omega) (by omega)
          have rg_z50 := i_range z50
          refine ⟨fun c11 => ?_, fun c11 => ?_⟩
          · (try dsimp only)
            exact hK12 0 κ ⟨rfl, (by (try dsimp only); omega)⟩
          · exact hK12 1 κ ⟨rfl, (by (try dsimp only); omega)⟩
set_option maxRecDepth 100000 in
set_option maxHeartbeats 4000000 in
theorem t_X9_holdsAny {G : GE} {E : CE} {W : CW} {c : Int} {κ : CS} (hV : CV G E W c κ) (h : Nat) (hs_h : W.1 h = 6) (a1 : Int32)  {post : Int32 → CS → Prop} (kk : ∀ r : Int32, (0 ≤ r.toInt ∧ r.toInt ≤ 1) → post r κ) : F_X9_holdsAny G h a1 post κ := by
  unfold F_X9_holdsAny
  have k_0 : (0 : Int32).toInt = 0 := rfl
  have k_1 : (1 : Int32).toInt = 1 := rfl
  have kl_0 : (0 : Int64).toInt = 0 := rfl
  have kl_1 : (1 : Int64).toInt = 1 := rfl
  have rg_a1 := i_range a1
  refine lc_in (fun (x : Int32) (κ' : CS) => κ = κ' ∧ (((0 ≤ x.toInt)))) (fun (x : Int32) (_ : CS) => (2147483647 - x.toInt).toNat) ⟨rfl, (by (try dsimp only); omega)⟩ (fun x1 κ2 hJ K3 hK3 => ?_)
  obtain ⟨hsg, hv⟩ := hJ
  subst hsg
  (try dsimp only at hv)
  have rg_x1 := i_range x1
  refine ⟨(hV.mm hs_h (by decide) rfl), ?_⟩
  intro z5 ez5
  obtain ⟨bz5, ebz5, hsz5⟩ := hV.1.nn hs_h (by decide) rfl 0 rfl (by decide)
  rw [← ez5] at ebz5
  refine ⟨(W.2 bz5), (AL.of hV ebz5 hsz5 (by decide) rfl (by decide)), ?_⟩
  intro z6 ez6
  have lnz6 := nI_ln ez6 (hV.lm hsz5 (by decide) rfl)
  have lmz6 := (hV.lm hsz5 (by decide) rfl)
  have lxz6 := hV.1.fx hsz5 (by decide) rfl 80 rfl (by decide)
  refine ⟨fun c1 => ?_, fun c1 => ?_⟩
  · refine ⟨by omega, ?_⟩
    exact kk 0 (by omega)
  · refine ⟨(hV.mm hs_h (by decide) rfl), ?_⟩
    intro z7 ez7
    have ebz7 : z7 = some bz5 := (ez7.trans ez5.symm).trans ebz5
    have ln_ := hV.ln hsz5 (by decide) rfl
    have lx_ := hV.1.fx hsz5 (by decide) rfl 80 rfl (by decide)
    refine ⟨bz5, ebz7, ⟨(hV.mm hsz5 (by decide) rfl).1, by rw [(hV.mm hsz5 (by decide) rfl).2]; decide⟩, by omega, ?_⟩
    intro z8 ez8
    obtain ⟨bz8, ebz8, hsz8⟩ := (hV.1.el hsz5 (by decide) rfl x1.toInt.toNat (by omega)).2.nn (by decide)
    rw [← ez8] at ebz8
    refine ⟨bz8, ebz8, (hV.mm hsz8 (by decide) rfl), ?_⟩
    intro z9 ez9
    have vz9 := hV.1.iv hsz8 (by decide) rfl 1 0 1 rfl ez9
    have wz9 : z9.toInt = (sI κ.1 bz8 1).toInt := by rw [ez9]
    refine jc_dup ?_
    refine ⟨fun c2 => ?_, fun c2 => ?_⟩
    · (try dsimp only)
      intro z15 ez15
      try have hz15 := i_add ez15 (by omega) (by omega)
      have rg_z15 := i_range z15
      exact hK3 z15 κ ⟨rfl, (by (try dsimp only); omega)⟩ (by (try dsimp only); omega)
    · refine ⟨(hV.mm hs_h (by decide) rfl), ?_⟩
      intro z16 ez16
      have ebz16 : z16 = some bz5 := (ez16.trans ez5.symm).trans ebz5
      have ln_ := hV.ln hsz5 (by decide) rfl
      have lx_ := hV.1.fx hsz5 (by decide) rfl 80 rfl (by decide)
      refine ⟨bz5, ebz16, ⟨(hV.mm hsz5 (by decide) rfl).1, by rw [(hV.mm hsz5 (by decide) rfl).2]; decide⟩, by omega, ?_⟩
      intro z17 ez17
      obtain ⟨bz17, ebz17, hsz17⟩ := (hV.1.el hsz5 (by decide) rfl x1.toInt.toNat (by omega)).2.nn (by decide)
      rw [← ez17] at ebz17
      refine ⟨bz17, ebz17, (hV.mm hsz17 (by decide) rfl), ?_⟩
      intro z18 ez18
      have vz18 := hV.1.iv hsz17 (by decide) rfl 4 (-2147483648) 2147483647 rfl ez18
      have wz18 : z18.toInt = (sI κ.1 bz17 4).toInt := by rw [ez18]
      refine ⟨fun c3 => ?_, fun c3 => ?_⟩
      · (try dsimp only)
        intro z15 ez15
        try have hz15 := i_add ez15 (by omega) (by omega)
        have rg_z15 := i_range z15
        exact hK3 z15 κ ⟨rfl, (by (try dsimp only); omega)⟩ (by (try dsimp only); omega)
      · refine ⟨by omega, ?_⟩
        exact kk 1 (by omega)
set_option maxRecDepth 100000 in
set_option maxHeartbeats 4000000 in
theorem t_X4_isBehind {G : GE} {E : CE} {W : CW} {c : Int} {κ : CS} (hV : CV G E W c κ) (h : Nat) (hs_h : W.1 h = 5) (a1 : Option Nat) (n_a1 : Nat) (f_a1 : Nat → Int32) (hA_a1 : AL G κ a1 n_a1) (hB_a1 : BA G κ a1 f_a1 n_a1) (hn_a1 : n_a1 ≤ 1000000) (hf_a1 : ∀ i : Nat, i < n_a1 → -128 ≤ (f_a1 i).toInt ∧ (f_a1 i).toInt ≤ 127) (a2 : Int32)  {post : Int32 → CS → Prop} (kk : ∀ r : Int32, (0 ≤ r.toInt ∧ r.toInt ≤ 1) → post r κ) : F_X4_isBehind G h a1 a2 post κ := by
  unfold F_X4_isBehind
  have k_0 : (0 : Int32).toInt = 0 := rfl
  have k_1 : (1 : Int32).toInt = 1 := rfl
  have kl_1 : (1 : Int64).toInt = 1 := rfl
  have rg_a2 := i_range a2
  refine ⟨(hV.mm hs_h (by decide) rfl), ?_⟩
  intro z1 ez1
  have vz1 := hV.1.iv hs_h (by decide) rfl 6 0 12 rfl ez1
  have wz1 : z1.toInt = (sI κ.1 h 6).toInt := by rw [ez1]
  intro z3 mz3
  have rg_z3 := i_range z3
  refine lc_in (fun (x : Int32) (κ' : CS) => κ = κ' ∧ (((0 ≤ x.toInt)))) (fun (x : Int32) (_ : CS) => (2147483647 - x.toInt).toNat) ⟨rfl, (by (try dsimp only); omega)⟩ (fun x4 κ5 hJ K6 hK6 => ?_)
  obtain ⟨hsg, hv⟩ := hJ
  subst hsg
  (try dsimp only at hv)
  have rg_x4 := i_range x4
  refine jc_dup ?_
  refine ⟨fun c1 => ?_, fun c1 => ?_⟩
  · (try dsimp only)
    refine ⟨(hV.mm hs_h (by decide) rfl), ?_⟩
    intro z13 ez13
    have vz13 := hV.1.iv hs_h (by decide) rfl 6 0 12 rfl ez13
    have wz13 : z13.toInt = (sI κ.1 h 6).toInt := by rw [ez13]
    refine jc_dup ?_
    refine ⟨fun c2 => ?_, fun c2 => ?_⟩
    · (try dsimp only)
      refine ⟨by omega, ?_⟩
      exact kk 0 (by omega)
    · (try dsimp only)
      refine ⟨by omega, ?_⟩
      exact kk 1 (by omega)
  · refine ⟨(hV.mm hs_h (by decide) rfl), ?_⟩
    intro z19 ez19
    obtain ⟨bz19, ebz19, hsz19⟩ := hV.1.nn hs_h (by decide) rfl 5 rfl (by decide)
    rw [← ez19] at ebz19
    refine ⟨(W.2 bz19), (AL.of hV ebz19 hsz19 (by decide) rfl (by decide)), ?_⟩
    intro z20 ez20
    have lnz20 := nI_ln ez20 (hV.lm hsz19 (by decide) rfl)
    have lmz20 := (hV.lm hsz19 (by decide) rfl)
    have lxz20 := hV.1.fx hsz19 (by decide) rfl 12 rfl (by decide)
    refine ⟨fun c3 => ?_, fun c3 => ?_⟩
    · (try dsimp only)
      refine ⟨(hV.mm hs_h (by decide) rfl), ?_⟩
      intro z13 ez13
      have vz13 := hV.1.iv hs_h (by decide) rfl 6 0 12 rfl ez13
      have wz13 : z13.toInt = (sI κ.1 h 6).toInt := by rw [ez13]
      refine jc_dup ?_
      refine ⟨fun c4 => ?_, fun c4 => ?_⟩
      · (try dsimp only)
        refine ⟨by omega, ?_⟩
        exact kk 0 (by omega)
      · (try dsimp only)
        refine ⟨by omega, ?_⟩
        exact kk 1 (by omega)
    · refine ⟨n_a1, hA_a1, ?_⟩
      intro z21 ez21
      have lnz21 := nI_ln ez21 hn_a1
      have lmz21 := hn_a1
      refine ⟨fun c5 => ?_, fun c5 => ?_⟩
      · (try dsimp only)
        refine ⟨(hV.mm hs_h (by decide) rfl), ?_⟩
        intro z13 ez13
        have vz13 := hV.1.iv hs_h (by decide) rfl 6 0 12 rfl ez13
        have wz13 : z13.toInt = (sI κ.1 h 6).toInt := by rw [ez13]
        refine jc_dup ?_
        refine ⟨fun c6 => ?_, fun c6 => ?_⟩
        · (try dsimp only)
          refine ⟨by omega, ?_⟩
          exact kk 0 (by omega)
        · (try dsimp only)
          refine ⟨by omega, ?_⟩
          exact kk 1 (by omega)
      · refine ⟨(hV.mm hs_h (by decide) rfl), ?_⟩
        intro z22 ez22
        have ebz22 : z22 = some bz19 := (ez22.trans ez19.symm).trans ebz19
        have lx_z23 := hV.1.fx hsz19 (by decide) rfl 12 rfl (by decide)
        refine ⟨(sI κ.1 bz19), (W.2 bz19), (BA.of hV ebz22 hsz19 (by decide) rfl rfl), (by omega), ?_⟩
        intro z23 ez23
        have vz23 : -128 ≤ z23.toInt ∧ z23.toInt ≤ 127 := by rw [ez23]; exact (fun i hi => (hV.1.el hsz19 (by decide) rfl i hi).1) _ (by omega)
        refine t_X11_upper hV z23  (fun z25 pz25 => ?_)
        have rg_z25 := i_range z25
        refine ⟨f_a1, n_a1, hB_a1, (by omega), ?_⟩
        intro z26 ez26
        have vz26 : -128 ≤ z26.toInt ∧ z26.toInt ≤ 127 := by rw [ez26]; exact hf_a1 _ (by omega)
        refine t_X11_upper hV z26  (fun z28 pz28 => ?_)
        have rg_z28 := i_range z28
        intro z29 ez29
        try have hz29 := i_sub ez29 (by omega) (by omega)
        have rg_z29 := i_range z29
        refine ⟨fun c7 => ?_, fun c7 => ?_⟩
        · intro z30 ez30
          try have hz30 := i_add ez30 (by omega) (by omega)
          have rg_z30 := i_range z30
          exact hK6 z30 κ ⟨rfl, (by (try dsimp only); omega)⟩ (by (try dsimp only); omega)
        · refine jc_dup ?_
          refine ⟨fun c8 => ?_, fun c8 => ?_⟩
          · (try dsimp only)
            refine ⟨by omega, ?_⟩
            exact kk 0 (by omega)
          · (try dsimp only)
            refine ⟨by omega, ?_⟩
            exact kk 1 (by omega)
set_option maxRecDepth 100000 in
set_option maxHeartbeats 4000000 in
theorem t_X5_matches {G : GE} {E : CE} {W : CW} {c : Int} {κ : CS} (hV : CV G E W c κ) (h : Nat) (hs_h : W.1 h = 10) (a1 : Option Nat) (n_a1 : Nat) (f_a1 : Nat → Int32) (hA_a1 : AL G κ a1 n_a1) (hB_a1 : BA G κ a1 f_a1 n_a1) (hn_a1 : n_a1 ≤ 1000000) (hf_a1 : ∀ i : Nat, i < n_a1 → -128 ≤ (f_a1 i).toInt ∧ (f_a1 i).toInt ≤ 127) (a2 : Int32)  {post : Int32 → CS → Prop} (kk : ∀ r : Int32, (0 ≤ r.toInt ∧ r.toInt ≤ 1) → post r κ) : F_X5_matches G h a1 a2 post κ := by
  unfold F_X5_matches
  have k_0 : (0 : Int32).toInt = 0 := rfl
  have k_1 : (1 : Int32).toInt = 1 := rfl
  have k_12 : (12 : Int32).toInt = 12 := rfl
  have k_42 : (42 : Int32).toInt = 42 := rfl
  have k_63 : (63 : Int32).toInt = 63 := rfl
  have kl_0 : (0 : Int64).toInt = 0 := rfl
  have kl_1 : (1 : Int64).toInt = 1 := rfl
  have rg_a2 := i_range a2
  refine ⟨(hV.mm hs_h (by decide) rfl), ?_⟩
  intro z1 ez1
  have nz1 := hV.1.nl hs_h (by decide) rfl 11 rfl (by decide)
  rw [← ez1] at nz1
  refine jc_dup ?_
  refine ⟨fun c1 => ?_, fun c1 => ?_⟩
  · (try dsimp only)
    refine ⟨by omega, ?_⟩
    exact kk 0 (by omega)
  · obtain ⟨bn1, ebn1, hsn1⟩ := nz1.resolve_left c1
    refine ⟨fun c2 => ?_, fun c2 => ?_⟩
    · (try dsimp only)
      refine ⟨by omega, ?_⟩
      exact kk 0 (by omega)
    · refine ⟨n_a1, hA_a1, ?_⟩
      intro z7 ez7
      have lnz7 := nI_ln ez7 hn_a1
      have lmz7 := hn_a1
      refine ⟨fun c3 => ?_, fun c3 => ?_⟩
      · (try dsimp only)
        refine ⟨by omega, ?_⟩
        exact kk 0 (by omega)
      · refine ⟨fun c4 => ?_, fun c4 => ?_⟩
        · refine lc_in (fun (x : Int32 × Int32) (κ' : CS) => κ = κ' ∧ (((0 ≤ x.1.toInt)))) (fun (x : Int32 × Int32) (_ : CS) => (2147483647 - x.1.toInt).toNat) ⟨rfl, (by (try dsimp only); omega)⟩ (fun x8 κ9 hJ K10 hK10 => ?_)
          obtain ⟨hsg, hv⟩ := hJ
          subst hsg
          (try dsimp only at hv)
          have rg_x8_1 := i_range x8.1
          have rg_x8_2 := i_range x8.2
          refine ⟨(hV.mm hs_h (by decide) rfl), ?_⟩
          intro z12 ez12
          have ebz12 : z12 = some bn1 := (ez12.trans ez1.symm).trans ebn1
          refine ⟨(W.2 bn1), (AL.of hV ebz12 hsn1 (by decide) rfl (by decide)), ?_⟩
          intro z13 ez13
          have lnz13 := nI_ln ez13 (hV.lm hsn1 (by decide) rfl)
          have lmz13 := (hV.lm hsn1 (by decide) rfl)
          refine ⟨fun c5 => ?_, fun c5 => ?_⟩
          · intro z14 ez14
            have rg_z14 := i_range z14
            intro z15 ez15
            try have hz15 := i_and1 ez15 (by omega)
            have rg_z15 := i_range z15
            refine jc_dup ?_
            refine ⟨fun c6 => ?_, fun c6 => ?_⟩
            · (try dsimp only)
              refine ⟨by omega, ?_⟩
              exact kk 0 (by omega)
            · (try dsimp only)
              refine ⟨by omega, ?_⟩
              exact kk 1 (by omega)
          · refine ⟨(hV.mm hs_h (by decide) rfl), ?_⟩
            intro z21 ez21
            have ebz21 : z21 = some bn1 := (ez21.trans ez1.symm).trans ebn1
            have ln_ := hV.ln hsn1 (by decide) rfl
            refine ⟨bn1, ebz21, (hV.mm hsn1 (by decide) rfl), by omega, ?_⟩
            intro z22 ez22
            have rg_z22 := i_range z22
            refine jc_in (fun (x : Int32) (κ' : CS) => κ = κ' ∧ (((0 ≤ x.toInt ∧ x.toInt ≤ 1)))) (fun x23 κ24 hJ => ?_) (fun K25 hK25 => ?_)
            · obtain ⟨hsg, hv⟩ := hJ
              subst hsg
              (try dsimp only at hv)
              have rg_x23 := i_range x23
              refine jc_in (fun (x : Int32) (κ' : CS) => κ = κ' ∧ ((True))) (fun x28 κ29 hJ => ?_) (fun K30 hK30 => ?_)
              · obtain ⟨hsg, hv⟩ := hJ
                subst hsg
                (try dsimp only at hv)
                have rg_x28 := i_range x28
                refine lc_in (fun (x : Int32 × Int32) (κ' : CS) => κ = κ' ∧ (((0 ≤ x.1.toInt)))) (fun (x : Int32 × Int32) (_ : CS) => (2147483647 - x.1.toInt).toNat) ⟨rfl, (by (try dsimp only); omega)⟩ (fun x33 κ34 hJ K35 hK35 => ?_)
                obtain ⟨hsg, hv⟩ := hJ
                subst hsg
                (try dsimp only at hv)
                have rg_x33_1 := i_range x33.1
                have rg_x33_2 := i_range x33.2
                refine ⟨fun c7 => ?_, fun c7 => ?_⟩
                · intro z37 ez37
                  try have hz37 := i_add ez37 (by omega) (by omega)
                  have rg_z37 := i_range z37
                  exact hK10 (z37, x33.2) κ ⟨rfl, (by (try dsimp only); omega)⟩ (by (try dsimp only); omega)
                · refine ⟨(hV.mm hs_h (by decide) rfl), ?_⟩
                  intro z38 ez38
                  have ebz38 : z38 = some bn1 := (ez38.trans ez1.symm).trans ebn1
                  have ln_ := hV.ln hsn1 (by decide) rfl
                  refine ⟨bn1, ebz38, (hV.mm hsn1 (by decide) rfl), by omega, ?_⟩
                  intro z39 ez39
                  have rg_z39 := i_range z39
                  refine jc_in (fun (x : Int32) (κ' : CS) => κ = κ' ∧ (((0 ≤ x.toInt ∧ x.toInt ≤ 1)))) (fun x40 κ41 hJ => ?_) (fun K42 hK42 => ?_)
                  · obtain ⟨hsg, hv⟩ := hJ
                    subst hsg
                    (try dsimp only at hv)
                    have rg_x40 := i_range x40
                    refine jc_in (fun (x : Int32) (κ' : CS) => κ = κ' ∧ (((0 ≤ x.toInt ∧ x.toInt ≤ 1)))) (fun x45 κ46 hJ => ?_) (fun K47 hK47 => ?_)
                    · obtain ⟨hsg, hv⟩ := hJ
                      subst hsg
                      (try dsimp only at hv)
                      have rg_x45 := i_range x45
                      refine jc_dup ?_
                      refine ⟨fun c8 => ?_, fun c8 => ?_⟩
                      · (try dsimp only)
                        intro z55 ez55
                        try have hz55 := i_orm ez55 (by omega) (by omega)
                        try have h2z55 := i_or ez55 (by omega) (by omega)
                        have rg_z55 := i_range z55
                        intro z56 ez56
                        try have hz56 := i_add ez56 (by omega) (by omega)
                        have rg_z56 := i_range z56
                        exact hK35 (z56, z55) κ ⟨rfl, (by (try dsimp only); omega)⟩ (by (try dsimp only); omega)
                      · intro z57 ez57
                        try have hz57 := i_add ez57 (by omega) (by omega)
                        have rg_z57 := i_range z57
                        intro z58 ez58
                        have rg_z58 := i_range z58
                        (try dsimp only)
                        intro z55 ez55
                        try have hz55 := i_orm ez55 (by omega) (by omega)
                        try have h2z55 := i_or ez55 (by omega) (by omega)
                        have rg_z55 := i_range z55
                        intro z56 ez56
                        try have hz56 := i_add ez56 (by omega) (by omega)
                        have rg_z56 := i_range z56
                        exact hK35 (z56, z55) κ ⟨rfl, (by (try dsimp only); omega)⟩ (by (try dsimp only); omega)
                    · skip
                      refine ⟨fun c9 => ?_, fun c9 => ?_⟩
                      · refine jc_dup ?_
                        refine ⟨fun c10 => ?_, fun c10 => ?_⟩
                        · (try dsimp only)
                          exact hK47 0 κ ⟨rfl, (by (try dsimp only); omega)⟩
                        · intro z64 ez64
                          have rg_z64 := i_range z64
                          intro z65 ez65
                          try have hz65 := i_and1 ez65 (by omega)
                          have rg_z65 := i_range z65
                          refine ⟨fun c11 => ?_, fun c11 => ?_⟩
                          · (try dsimp only)
                            exact hK47 0 κ ⟨rfl, (by (try dsimp only); omega)⟩
                          · exact hK47 1 κ ⟨rfl, (by (try dsimp only); omega)⟩
                      · intro z66 ez66
                        try have hz66 := i_add ez66 (by omega) (by omega)
                        have rg_z66 := i_range z66
                        intro z67 ez67
                        have rg_z67 := i_range z67
                        intro z68 ez68
                        have rg_z68 := i_range z68
                        intro z69 ez69
                        try have hz69 := i_orm ez69 (by omega) (by omega)
                        try have h2z69 := i_or ez69 (by omega) (by omega)
                        have rg_z69 := i_range z69
                        intro z70 ez70
                        try have hz70 := i_and1 ez70 (by omega)
                        have rg_z70 := i_range z70
                        refine ⟨fun c12 => ?_, fun c12 => ?_⟩
                        · exact hK47 0 κ ⟨rfl, (by (try dsimp only); omega)⟩
                        · exact hK47 1 κ ⟨rfl, (by (try dsimp only); omega)⟩
                  · skip
                    refine jc_dup ?_
                    refine ⟨fun c13 => ?_, fun c13 => ?_⟩
                    · (try dsimp only)
                      exact hK42 1 κ ⟨rfl, (by (try dsimp only); omega)⟩
                    · refine ⟨(hV.mm hs_h (by decide) rfl), ?_⟩
                      intro z76 ez76
                      have ebz76 : z76 = some bn1 := (ez76.trans ez1.symm).trans ebn1
                      have ln_ := hV.ln hsn1 (by decide) rfl
                      refine ⟨bn1, ebz76, (hV.mm hsn1 (by decide) rfl), by omega, ?_⟩
                      intro z77 ez77
                      have rg_z77 := i_range z77
                      refine t_X11_upper hV z77  (fun z79 pz79 => ?_)
                      have rg_z79 := i_range z79
                      refine ⟨f_a1, n_a1, hB_a1, (by omega), ?_⟩
                      intro z80 ez80
                      have vz80 : -128 ≤ z80.toInt ∧ z80.toInt ≤ 127 := by rw [ez80]; exact hf_a1 _ (by omega)
                      refine t_X11_upper hV z80  (fun z82 pz82 => ?_)
                      have rg_z82 := i_range z82
                      refine ⟨fun c14 => ?_, fun c14 => ?_⟩
                      · exact hK42 0 κ ⟨rfl, (by (try dsimp only); omega)⟩
                      · (try dsimp only)
                        exact hK42 1 κ ⟨rfl, (by (try dsimp only); omega)⟩
              · skip
                refine ⟨fun c15 => ?_, fun c15 => ?_⟩
                · exact hK30 0 κ ⟨rfl, trivial⟩
                · intro z83 ez83
                  try have hz83 := i_and1 ez83 (by omega)
                  have rg_z83 := i_range z83
                  exact hK30 z83 κ ⟨rfl, trivial⟩
            · skip
              refine ⟨fun c16 => ?_, fun c16 => ?_⟩
              · exact hK25 0 κ ⟨rfl, (by (try dsimp only); omega)⟩
              · exact hK25 1 κ ⟨rfl, (by (try dsimp only); omega)⟩
        · (try dsimp only)
          refine ⟨by omega, ?_⟩
          exact kk 0 (by omega)
set_option maxRecDepth 100000 in
set_option maxHeartbeats 4000000 in
theorem t_X7_isNamed {G : GE} {E : CE} {W : CW} {c : Int} {κ : CS} (hV : CV G E W c κ) (h : Nat) (hs_h : W.1 h = 11) (a1 : Option Nat) (b_a1 : Nat) (e_a1 : a1 = some b_a1) (hs_a1 : W.1 b_a1 = 8) (a2 : Int32) (a3 : Int32)  {post : Int32 → CS → Prop} (kk : ∀ r : Int32, (0 ≤ r.toInt ∧ r.toInt ≤ 1) → post r κ) : F_X7_isNamed G h a1 a2 a3 post κ := by
  unfold F_X7_isNamed
  have k_0 : (0 : Int32).toInt = 0 := rfl
  have k_1 : (1 : Int32).toInt = 1 := rfl
  have kl_1 : (1 : Int64).toInt = 1 := rfl
  have rg_a2 := i_range a2
  have rg_a3 := i_range a3
  refine ⟨(hV.mm hs_h (by decide) rfl), ?_⟩
  intro z1 ez1
  have vz1 := hV.1.iv hs_h (by decide) rfl 3 (-2147483648) 16 rfl ez1
  have wz1 : z1.toInt = (sI κ.1 h 3).toInt := by rw [ez1]
  refine jc_in (fun (x : Int32) (κ' : CS) => κ = κ' ∧ (((0 ≤ x.toInt ∧ x.toInt ≤ 1)))) (fun x2 κ3 hJ => ?_) (fun K4 hK4 => ?_)
  · obtain ⟨hsg, hv⟩ := hJ
    subst hsg
    (try dsimp only at hv)
    have rg_x2 := i_range x2
    refine lc_in (fun (x : Int32 × Int32) (κ' : CS) => κ = κ' ∧ (((0 ≤ x.2.toInt ∧ x.2.toInt ≤ 1) ∧ (0 ≤ x.1.toInt)))) (fun (x : Int32 × Int32) (_ : CS) => (2147483647 - x.1.toInt).toNat) ⟨rfl, (by (try dsimp only); omega)⟩ (fun x7 κ8 hJ K9 hK9 => ?_)
    obtain ⟨hsg, hv⟩ := hJ
    subst hsg
    (try dsimp only at hv)
    have rg_x7_1 := i_range x7.1
    have rg_x7_2 := i_range x7.2
    refine jc_dup ?_
    refine ⟨fun c1 => ?_, fun c1 => ?_⟩
    · (try dsimp only)
      refine ⟨by omega, ?_⟩
      exact kk x7.2 (by omega)
    · refine ⟨(hV.mm hs_h (by decide) rfl), ?_⟩
      intro z16 ez16
      have vz16 := hV.1.iv hs_h (by decide) rfl 3 (-2147483648) 16 rfl ez16
      have wz16 : z16.toInt = (sI κ.1 h 3).toInt := by rw [ez16]
      refine ⟨fun c2 => ?_, fun c2 => ?_⟩
      · (try dsimp only)
        refine ⟨by omega, ?_⟩
        exact kk x7.2 (by omega)
      · refine jc_dup ?_
        refine jc_dup ?_
        refine ⟨fun c3 => ?_, fun c3 => ?_⟩
        · (try dsimp only)
          (try dsimp only)
          intro z22 ez22
          try have hz22 := i_add ez22 (by omega) (by omega)
          have rg_z22 := i_range z22
          exact hK9 (z22, 0) κ ⟨rfl, (by (try dsimp only); omega)⟩ (by (try dsimp only); omega)
        · refine ⟨(hV.mm hs_h (by decide) rfl), ?_⟩
          intro z28 ez28
          obtain ⟨bz28, ebz28, hsz28⟩ := hV.1.nn hs_h (by decide) rfl 2 rfl (by decide)
          rw [← ez28] at ebz28
          have lx_z29 := hV.1.fx hsz28 (by decide) rfl 16 rfl (by decide)
          refine ⟨(sI κ.1 bz28), (W.2 bz28), (BA.of hV ebz28 hsz28 (by decide) rfl rfl), (by omega), ?_⟩
          intro z29 ez29
          have vz29 : -128 ≤ z29.toInt ∧ z29.toInt ≤ 127 := by rw [ez29]; exact (fun i hi => (hV.1.el hsz28 (by decide) rfl i hi).1) _ (by omega)
          intro z30 ez30
          have hz30 := i_tol ez30
          have rg_z30 := l_range z30
          intro z31 ez31
          try have hz31 := i_add ez31 (by omega) (by omega)
          have rg_z31 := i_range z31
          refine ⟨b_a1, e_a1, (hV.mm hs_a1 (by decide) rfl), ?_⟩
          refine t_X0_number hV b_a1 hs_a1 z31 1  (fun z33 pz33 => ?_)
          have rg_z33 := l_range z33
          refine ⟨fun c4 => ?_, fun c4 => ?_⟩
          · (try dsimp only)
            (try dsimp only)
            intro z22 ez22
            try have hz22 := i_add ez22 (by omega) (by omega)
            have rg_z22 := i_range z22
            exact hK9 (z22, 0) κ ⟨rfl, (by (try dsimp only); omega)⟩ (by (try dsimp only); omega)
          · (try dsimp only)
            intro z22 ez22
            try have hz22 := i_add ez22 (by omega) (by omega)
            have rg_z22 := i_range z22
            exact hK9 (z22, 1) κ ⟨rfl, (by (try dsimp only); omega)⟩ (by (try dsimp only); omega)
  · skip
    refine ⟨fun c5 => ?_, fun c5 => ?_⟩
    · exact hK4 0 κ ⟨rfl, (by (try dsimp only); omega)⟩
    · exact hK4 1 κ ⟨rfl, (by (try dsimp only); omega)⟩
set_option maxRecDepth 100000 in
set_option maxHeartbeats 4000000 in
theorem t_X11_connection {G : GE} {E : CE} {W : CW} {c : Int} {κ : CS} (hV : CV G E W c κ) (h : Nat) (hs_h : W.1 h = 1) (a1 : Int32)  {post : Option Nat → CS → Prop} (kk : ∀ r : Option Nat, (r = none ∨ ∃ b, r = some b ∧ W.1 b = 3) → post r κ) : F_X11_connection G h a1 post κ := by
  unfold F_X11_connection
  have k_0 : (0 : Int32).toInt = 0 := rfl
  have rg_a1 := i_range a1
  refine jc_dup ?_
  refine jc_dup ?_
  refine ⟨fun c1 => ?_, fun c1 => ?_⟩
  · (try dsimp only)
    (try dsimp only)
    exact kk (none : Option Nat) (Or.inl rfl)
  · refine ⟨(hV.mm hs_h (by decide) rfl), ?_⟩
    intro z11 ez11
    obtain ⟨bz11, ebz11, hsz11⟩ := hV.1.nn hs_h (by decide) rfl 1 rfl (by decide)
    rw [← ez11] at ebz11
    refine ⟨(W.2 bz11), (AL.of hV ebz11 hsz11 (by decide) rfl (by decide)), ?_⟩
    intro z12 ez12
    have lnz12 := nI_ln ez12 (hV.lm hsz11 (by decide) rfl)
    have lmz12 := (hV.lm hsz11 (by decide) rfl)
    have lxz12 := hV.1.fx hsz11 (by decide) rfl 6 rfl (by decide)
    refine ⟨fun c2 => ?_, fun c2 => ?_⟩
    · (try dsimp only)
      (try dsimp only)
      exact kk (none : Option Nat) (Or.inl rfl)
    · refine ⟨(hV.mm hs_h (by decide) rfl), ?_⟩
      intro z13 ez13
      have ebz13 : z13 = some bz11 := (ez13.trans ez11.symm).trans ebz11
      have ln_ := hV.ln hsz11 (by decide) rfl
      have lx_ := hV.1.fx hsz11 (by decide) rfl 6 rfl (by decide)
      refine ⟨bz11, ebz13, ⟨(hV.mm hsz11 (by decide) rfl).1, by rw [(hV.mm hsz11 (by decide) rfl).2]; decide⟩, by omega, ?_⟩
      intro z14 ez14
      obtain ⟨bz14, ebz14, hsz14⟩ := (hV.1.el hsz11 (by decide) rfl a1.toInt.toNat (by omega)).2.nn (by decide)
      rw [← ez14] at ebz14
      (try dsimp only)
      exact kk z14 (Or.inr ⟨bz14, ebz14, hsz14⟩)
set_option maxRecDepth 100000 in
set_option maxHeartbeats 4000000 in
theorem t_X11_tapeIsShareName {G : GE} {E : CE} {W : CW} {c : Int} {κ : CS} (hV : CV G E W c κ) (h : Nat) (hs_h : W.1 h = 1)  {post : Int32 → CS → Prop} (kk : ∀ r : Int32, (0 ≤ r.toInt ∧ r.toInt ≤ 1) → post r κ) : F_X11_tapeIsShareName G h post κ := by
  unfold F_X11_tapeIsShareName
  have k_0 : (0 : Int32).toInt = 0 := rfl
  have k_1 : (1 : Int32).toInt = 1 := rfl
  have k_12 : (12 : Int32).toInt = 12 := rfl
  have kl_0 : (0 : Int64).toInt = 0 := rfl
  have kl_1 : (1 : Int64).toInt = 1 := rfl
  have kl_33 : (33 : Int64).toInt = 33 := rfl
  have kl_92 : (92 : Int64).toInt = 92 := rfl
  have kl_126 : (126 : Int64).toInt = 126 := rfl
  refine ⟨(hV.mm hs_h (by decide) rfl), ?_⟩
  intro z1 ez1
  obtain ⟨bz1, ebz1, hsz1⟩ := hV.1.nn hs_h (by decide) rfl 0 rfl (by decide)
  rw [← ez1] at ebz1
  refine ⟨bz1, ebz1, (hV.mm hsz1 (by decide) rfl), ?_⟩
  intro z2 ez2
  have vz2 := hV.1.iv hsz1 (by decide) rfl 1 0 8000 rfl ez2
  have wz2 : z2.toInt = (sI κ.1 bz1 1).toInt := by rw [ez2]
  refine jc_dup ?_
  refine ⟨fun c1 => ?_, fun c1 => ?_⟩
  · (try dsimp only)
    refine ⟨by omega, ?_⟩
    exact kk 0 (by omega)
  · refine ⟨(hV.mm hs_h (by decide) rfl), ?_⟩
    intro z8 ez8
    have ebz8 : z8 = some bz1 := (ez8.trans ez1.symm).trans ebz1
    refine ⟨bz1, ebz8, (hV.mm hsz1 (by decide) rfl), ?_⟩
    intro z9 ez9
    have vz9 := hV.1.iv hsz1 (by decide) rfl 1 0 8000 rfl ez9
    have wz9 : z9.toInt = (sI κ.1 bz1 1).toInt := by rw [ez9]
    refine ⟨fun c2 => ?_, fun c2 => ?_⟩
    · refine lc_in (fun (x : Int32) (κ' : CS) => κ = κ' ∧ (((0 ≤ x.toInt)))) (fun (x : Int32) (_ : CS) => (2147483647 - x.toInt).toNat) ⟨rfl, (by (try dsimp only); omega)⟩ (fun x10 κ11 hJ K12 hK12 => ?_)
      obtain ⟨hsg, hv⟩ := hJ
      subst hsg
      (try dsimp only at hv)
      have rg_x10 := i_range x10
      refine ⟨(hV.mm hs_h (by decide) rfl), ?_⟩
      intro z14 ez14
      have ebz14 : z14 = some bz1 := (ez14.trans ez1.symm).trans ebz1
      refine ⟨bz1, ebz14, (hV.mm hsz1 (by decide) rfl), ?_⟩
      intro z15 ez15
      have vz15 := hV.1.iv hsz1 (by decide) rfl 1 0 8000 rfl ez15
      have wz15 : z15.toInt = (sI κ.1 bz1 1).toInt := by rw [ez15]
      refine ⟨fun c3 => ?_, fun c3 => ?_⟩
      · refine ⟨by omega, ?_⟩
        exact kk 1 (by omega)
      · refine ⟨(hV.mm hs_h (by decide) rfl), ?_⟩
        intro z16 ez16
        have ebz16 : z16 = some bz1 := (ez16.trans ez1.symm).trans ebz1
        refine ⟨bz1, ebz16, (hV.mm hsz1 (by decide) rfl), ?_⟩
        refine t_X6_number hV bz1 hsz1 (by rfl) x10 1  (fun z18 pz18 => ?_)
        have rg_z18 := l_range z18
        refine jc_dup ?_
        refine ⟨fun c4 => ?_, fun c4 => ?_⟩
        · (try dsimp only)
          refine ⟨by omega, ?_⟩
          exact kk 0 (by omega)
        · refine ⟨fun c5 => ?_, fun c5 => ?_⟩
          · (try dsimp only)
            refine ⟨by omega, ?_⟩
            exact kk 0 (by omega)
          · refine ⟨fun c6 => ?_, fun c6 => ?_⟩
            · intro z24 ez24
              try have hz24 := i_add ez24 (by omega) (by omega)
              have rg_z24 := i_range z24
              exact hK12 z24 κ ⟨rfl, (by (try dsimp only); omega)⟩ (by (try dsimp only); omega)
            · (try dsimp only)
              refine ⟨by omega, ?_⟩
              exact kk 0 (by omega)
    · (try dsimp only)
      refine ⟨by omega, ?_⟩
      exact kk 0 (by omega)
set_option maxRecDepth 100000 in
set_option maxHeartbeats 4000000 in
theorem t_X11_rootNamed {G : GE} {E : CE} {W : CW} {c : Int} {κ : CS} (hV : CV G E W c κ) (h : Nat) (hs_h : W.1 h = 1) (a1 : Option Nat) (b_a1 : Nat) (e_a1 : a1 = some b_a1) {rr : Nat} (hs_a1 : W.1 b_a1 = rr) (hrr : isRw rr = true) (a2 : Int32) (a3 : Int32) (a4 : Int32)  {post : Option Nat → CS → Prop} (kk : ∀ r : Option Nat, (r = none ∨ ∃ b, r = some b ∧ W.1 b = 5) → post r κ) : F_X11_rootNamed G h a1 a2 a3 a4 post κ := by
  unfold F_X11_rootNamed
  have k_0 : (0 : Int32).toInt = 0 := rfl
  have k_1 : (1 : Int32).toInt = 1 := rfl
  have kl_1 : (1 : Int64).toInt = 1 := rfl
  have rg_a2 := i_range a2
  have rg_a3 := i_range a3
  have rg_a4 := i_range a4
  refine lc_in (fun (x : Int32) (κ' : CS) => κ = κ' ∧ (((0 ≤ x.toInt)))) (fun (x : Int32) (_ : CS) => (2147483647 - x.toInt).toNat) ⟨rfl, (by (try dsimp only); omega)⟩ (fun x1 κ2 hJ K3 hK3 => ?_)
  obtain ⟨hsg, hv⟩ := hJ
  subst hsg
  (try dsimp only at hv)
  have rg_x1 := i_range x1
  refine ⟨(hV.mm hs_h (by decide) rfl), ?_⟩
  intro z5 ez5
  obtain ⟨bz5, ebz5, hsz5⟩ := hV.1.nn hs_h (by decide) rfl 2 rfl (by decide)
  rw [← ez5] at ebz5
  refine ⟨(W.2 bz5), (AL.of hV ebz5 hsz5 (by decide) rfl (by decide)), ?_⟩
  intro z6 ez6
  have lnz6 := nI_ln ez6 (hV.lm hsz5 (by decide) rfl)
  have lmz6 := (hV.lm hsz5 (by decide) rfl)
  have lxz6 := hV.1.fx hsz5 (by decide) rfl 4 rfl (by decide)
  refine ⟨fun c1 => ?_, fun c1 => ?_⟩
  · exact kk (none : Option Nat) (Or.inl rfl)
  · refine ⟨(hV.mm hs_h (by decide) rfl), ?_⟩
    intro z7 ez7
    obtain ⟨bz7, ebz7, hsz7⟩ := hV.1.nn hs_h (by decide) rfl 3 rfl (by decide)
    rw [← ez7] at ebz7
    refine ⟨(hV.mm hs_h (by decide) rfl), ?_⟩
    intro z8 ez8
    have ebz8 : z8 = some bz5 := (ez8.trans ez5.symm).trans ebz5
    have ln_ := hV.ln hsz5 (by decide) rfl
    have lx_ := hV.1.fx hsz5 (by decide) rfl 4 rfl (by decide)
    refine ⟨bz5, ebz8, (hV.mm hsz5 (by decide) rfl), by omega, ?_⟩
    intro z9 ez9
    have rg_z9 := i_range z9
    refine ⟨bz7, ebz7, (hV.mm hsz7 (by decide) rfl), ?_⟩
    refine t_X9_node hV bz7 hsz7 z9  (fun z11 pz11 => ?_)
    refine jc_dup ?_
    refine ⟨fun c2 => ?_, fun c2 => ?_⟩
    · (try dsimp only)
      intro z17 ez17
      try have hz17 := i_add ez17 (by omega) (by omega)
      have rg_z17 := i_range z17
      exact hK3 z17 κ ⟨rfl, (by (try dsimp only); omega)⟩ (by (try dsimp only); omega)
    · obtain ⟨bn2, ebn2, hsn2⟩ := pz11.resolve_left c2
      refine ⟨bn2, ebn2, (hV.mm hsn2 (by decide) rfl), ?_⟩
      intro z18 ez18
      have vz18 := hV.1.iv hsn2 (by decide) rfl 6 0 12 rfl ez18
      have wz18 : z18.toInt = (sI κ.1 bn2 6).toInt := by rw [ez18]
      refine ⟨fun c3 => ?_, fun c3 => ?_⟩
      · (try dsimp only)
        intro z17 ez17
        try have hz17 := i_add ez17 (by omega) (by omega)
        have rg_z17 := i_range z17
        exact hK3 z17 κ ⟨rfl, (by (try dsimp only); omega)⟩ (by (try dsimp only); omega)
      · refine lc_in (fun (x : Int32 × Int32) (κ' : CS) => κ = κ' ∧ (((0 ≤ x.2.toInt ∧ x.2.toInt ≤ 1) ∧ (0 ≤ x.1.toInt)))) (fun (x : Int32 × Int32) (_ : CS) => (2147483647 - x.1.toInt).toNat) ⟨rfl, (by (try dsimp only); omega)⟩ (fun x19 κ20 hJ K21 hK21 => ?_)
        obtain ⟨hsg, hv⟩ := hJ
        subst hsg
        (try dsimp only at hv)
        have rg_x19_1 := i_range x19.1
        have rg_x19_2 := i_range x19.2
        refine jc_dup ?_
        refine ⟨fun c4 => ?_, fun c4 => ?_⟩
        · (try dsimp only)
          refine ⟨fun c5 => ?_, fun c5 => ?_⟩
          · (try dsimp only)
            intro z17 ez17
            try have hz17 := i_add ez17 (by omega) (by omega)
            have rg_z17 := i_range z17
            exact hK3 z17 κ ⟨rfl, (by (try dsimp only); omega)⟩ (by (try dsimp only); omega)
          · exact kk z11 (Or.inr ⟨bn2, ebn2, hsn2⟩)
        · refine ⟨bn2, ebn2, (hV.mm hsn2 (by decide) rfl), ?_⟩
          intro z28 ez28
          obtain ⟨bz28, ebz28, hsz28⟩ := hV.1.nn hsn2 (by decide) rfl 5 rfl (by decide)
          rw [← ez28] at ebz28
          refine ⟨(W.2 bz28), (AL.of hV ebz28 hsz28 (by decide) rfl (by decide)), ?_⟩
          intro z29 ez29
          have lnz29 := nI_ln ez29 (hV.lm hsz28 (by decide) rfl)
          have lmz29 := (hV.lm hsz28 (by decide) rfl)
          have lxz29 := hV.1.fx hsz28 (by decide) rfl 12 rfl (by decide)
          refine ⟨fun c6 => ?_, fun c6 => ?_⟩
          · (try dsimp only)
            refine ⟨fun c7 => ?_, fun c7 => ?_⟩
            · (try dsimp only)
              intro z17 ez17
              try have hz17 := i_add ez17 (by omega) (by omega)
              have rg_z17 := i_range z17
              exact hK3 z17 κ ⟨rfl, (by (try dsimp only); omega)⟩ (by (try dsimp only); omega)
            · exact kk z11 (Or.inr ⟨bn2, ebn2, hsn2⟩)
          · refine jc_dup ?_
            refine jc_dup ?_
            refine ⟨fun c8 => ?_, fun c8 => ?_⟩
            · (try dsimp only)
              (try dsimp only)
              intro z35 ez35
              try have hz35 := i_add ez35 (by omega) (by omega)
              have rg_z35 := i_range z35
              exact hK21 (z35, 0) κ ⟨rfl, (by (try dsimp only); omega)⟩ (by (try dsimp only); omega)
            · intro z41 ez41
              have rg_z41 := i_range z41
              intro z42 ez42
              try have hz42 := i_add ez42 (by omega) (by omega)
              have rg_z42 := i_range z42
              refine ⟨b_a1, e_a1, (hV.mm hs_a1 (rw_ne hrr) (rw_k hrr)), ?_⟩
              refine t_X6_number hV b_a1 hs_a1 hrr z42 a3  (fun z44 pz44 => ?_)
              have rg_z44 := l_range z44
              intro z45 ez45
              try have hz45 := l_toi ez45 (by omega) (by omega)
              have rg_z45 := i_range z45
              refine t_X11_upper hV z45  (fun z47 pz47 => ?_)
              have rg_z47 := i_range z47
              refine ⟨bn2, ebn2, (hV.mm hsn2 (by decide) rfl), ?_⟩
              intro z48 ez48
              have ebz48 : z48 = some bz28 := (ez48.trans ez28.symm).trans ebz28
              have lx_z49 := hV.1.fx hsz28 (by decide) rfl 12 rfl (by decide)
              refine ⟨(sI κ.1 bz28), (W.2 bz28), (BA.of hV ebz48 hsz28 (by decide) rfl rfl), (by omega), ?_⟩
              intro z49 ez49
              have vz49 : -128 ≤ z49.toInt ∧ z49.toInt ≤ 127 := by rw [ez49]; exact (fun i hi => (hV.1.el hsz28 (by decide) rfl i hi).1) _ (by omega)
              refine t_X11_upper hV z49  (fun z51 pz51 => ?_)
              have rg_z51 := i_range z51
              refine ⟨fun c9 => ?_, fun c9 => ?_⟩
              · (try dsimp only)
                (try dsimp only)
                intro z35 ez35
                try have hz35 := i_add ez35 (by omega) (by omega)
                have rg_z35 := i_range z35
                exact hK21 (z35, 0) κ ⟨rfl, (by (try dsimp only); omega)⟩ (by (try dsimp only); omega)
              · (try dsimp only)
                intro z35 ez35
                try have hz35 := i_add ez35 (by omega) (by omega)
                have rg_z35 := i_range z35
                exact hK21 (z35, 1) κ ⟨rfl, (by (try dsimp only); omega)⟩ (by (try dsimp only); omega)

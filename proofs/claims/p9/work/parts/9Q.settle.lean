/-! the class: what ends, and what was waiting for it -/
section R9Q
variable {G : GE} {E : CE} {W W' : CW} {κ κ' : CS} {M : List (Nat × Nat)} {h b r : Nat} {c : Int}
/-- the one that is got, exactly -/
theorem t2_Jx4a65c_get_915e3 (h : CV G E W c κ) (o : Nat) (ho : W.1 o = r) (hr : 40 ≤ r ∧ r < 45) (i : Int32) (hi : 0 ≤ i.toInt ∧ i.toInt < (sI κ.1 o 2).toInt) {post : Option Nat → CS → Prop} (kk : ∀ (z : Option Nat) (b : Nat), sP κ.1 o 1 = some b → W.1 b = r + 10 → z = sP κ.1 b i.toInt.toNat → (∃ y, z = some y ∧ W.1 y = elC r) → post z κ) : F_Jx4a65c_get_915e3 G o i post κ := by
  unfold F_Jx4a65c_get_915e3 F_J15_checkIndex_7cf53 F_J3_checkIndex_8e157 F_Jx4a65c_elementData_915e3
  have m := h.mm ho (by omega) (ls_k hr).1
  have lr := h.2.2.2.1 o r ho hr.1 hr.2
  refine ⟨m, fun z1 e1 => jc_dup ⟨fun q => by omega, fun _ => ⟨fun _ => ⟨m, m, fun q eq => ?_⟩, fun q => by rw [e1] at q; omega⟩⟩⟩
  rcases h.lel ho hr with e | ⟨b, e, hb⟩
  · have := lr.1 e.1 e.2
    omega
  · obtain ⟨g1, g2, g3⟩ := lr.2 b e hb
    have mb := h.mm hb (by omega) (ls_k hr).2.1
    have lb := h.ln hb (by omega) (ls_k hr).2.2.1
    refine ⟨b, eq.trans e, ⟨mb.1, by rw [mb.2]; decide, by rw [mb.2]; decide⟩, ⟨hi.1, by rw [lb]; omega⟩, fun z2 e2 => kk z2 b e hb e2 ?_⟩
    have nn := g3 i.toInt.toNat (by omega)
    have rv := (h.1.el hb (by omega) (ls_k hr).2.2.1 i.toInt.toNat (by omega)).2
    rw [(ls_k hr).2.2.2.1] at rv
    rw [← e2] at nn rv
    rcases rv with q | q | q | q
    · exact absurd q (ls_k hr).2.2.2.2
    · exact absurd q.2 nn
    · exact absurd (show (1 : Nat) = 2 from q.1) (by decide)
    · exact q
/-- one waits -/
def HW (W : CW) (κ : CS) (h b : Nat) : Prop := ∃ (l D j : Nat), sP κ.1 h 12 = some l ∧ W.1 l = 44 ∧ sP κ.1 l 1 = some D ∧ W.1 D = 54 ∧ (j : Int) < (sI κ.1 l 2).toInt ∧ sP κ.1 D j = some b
theorem HW.fr (f : CF M W κ κ') (x : WLe W W') (hh : W.1 h = 1) (m1 : (1, 12) ∉ M) (m2 : (44, 1) ∉ M) (m3 : (44, 2) ∉ M) (m4 : (54, 0) ∉ M) (g : HW W κ h b) : HW W' κ' h b := by
  obtain ⟨l, D, j, e1, w1, e2, w2, h3, h4⟩ := g
  refine ⟨l, D, j, ?_, x.at w1 (by decide), ?_, x.at w2 (by decide), ?_, ?_⟩
  · exact (f.1 h (by rw [hh]; decide) 12 (by rw [hh]; exact m1)).2.2.trans e1
  · exact (f.1 l (by rw [w1]; decide) 1 (by rw [w1]; exact m2)).2.2.trans e2
  · rw [(f.1 l (by rw [w1]; decide) 2 (by rw [w1]; exact m3)).1]
    exact h3
  · exact (f.1 D (by rw [w2]; decide) j (by rw [w2]; exact m4)).2.2.trans h4
theorem t2_X11_stopWaiting (hV : CV G E W c κ) (h : Nat) (hs_h : W.1 h = 1) (a1 : Option Nat) (b_a1 : Nat) (e_a1 : a1 = some b_a1) (hw : HW W κ h b_a1) {post : CS → Prop} (kk : ∀ κ' : CS, CV G E W (c + 400) κ' → CF [(44, 0), (44, 2), (54, 0)] W κ κ' → post κ') : F_X11_stopWaiting G h a1 post κ := by
  unfold F_X11_stopWaiting
  obtain ⟨l, D, j, e1, w1, e2, w2, h3, h4⟩ := hw
  have k0 : (1 : Int32).toInt = 1 := rfl
  have km : ((-1) : Int32).toInt = -1 := rfl
  refine ⟨hV.mm hs_h (by decide) rfl, fun z1 ez1 => ⟨l, ez1.trans e1, hV.mm w1 (by decide) rfl, ?_⟩⟩
  refine t_Jx4a65c_size_8abf5 hV l w1 (by decide) (fun z3 pz3 z4 ez4 => ?_)
  have hz4 := i_sub ez4 (by omega) (by omega)
  refine lc_in (fun (x : Int32) (κ' : CS) => CF [(44, 0), (44, 2), (54, 0)] W κ κ' ∧ -1 ≤ x.toInt ∧ x.toInt < (sI κ'.1 l 2).toInt ∧ ((κ' = κ ∧ (j : Int) ≤ x.toInt) ∨ CV G E W (c + 400) κ')) (fun (x : Int32) (_ : CS) => (x.toInt + 2147483648).toNat) ⟨CF.rf, by omega, by omega, Or.inl ⟨rfl, by omega⟩⟩ (fun x5 κ6 hJ K7 hK7 => ?_)
  obtain ⟨hf, p1, p2, p3⟩ := hJ
  have rg := i_range x5
  refine ⟨fun c1 => ?_, fun c1 => ?_⟩
  · rcases p3 with p3 | p3
    · omega
    · exact kk κ6 p3 hf
  have wh : sP κ6.1 h 12 = some l := ((hf.1 h (by rw [hs_h]; decide) 12 (by rw [hs_h]; decide)).2.2).trans e1
  rcases p3 with ⟨p3, p4⟩ | p3
  · have hV6 : CV G E W c κ6 := by rw [p3]; exact hV
    have e26 : sP κ6.1 l 1 = some D := by rw [p3]; exact e2
    have h46 : sP κ6.1 D j = some b_a1 := by rw [p3]; exact h4
    refine ⟨hV6.mm hs_h (by decide) rfl, fun z9 ez9 => ⟨l, ez9.trans wh, hV6.mm w1 (by decide) rfl, ?_⟩⟩
    refine t2_Jx4a65c_get_915e3 hV6 l w1 (by decide) x5 ⟨c1, p2⟩ (fun z11 D' eD wD ex pz => ?_)
    have eDD : D' = D := Option.some.inj (eD.symm.trans e26)
    rw [eDD] at ex
    refine jc_dup ⟨fun c2 z17 ez17 => ?_, fun c2 => ⟨hV6.mm hs_h (by decide) rfl, fun z18 ez18 => ⟨l, ez18.trans wh, hV6.mm w1 (by decide) rfl, ?_⟩⟩⟩
    · have hz := i_add ez17 (by omega) (by omega)
      have nj : x5.toInt.toNat ≠ j := fun e => c2 (by rw [ex, e, h46, e_a1])
      exact hK7 z17 κ6 ⟨hf, by omega, by omega, Or.inl ⟨p3, by omega⟩⟩ (by (try dsimp only); omega)
    · refine t_Jx4a65c_remove_915e3 hV6 l w1 (by decide) x5 ⟨c1, p2⟩ (fun z20 κ19 hV9 f9 p9 z17 ez17 => ?_)
      have hz := i_add ez17 (by omega) (by omega)
      exact hK7 z17 κ19 ⟨hf.tr f9 (by decide), by omega, by omega, Or.inr (p9.2 rfl)⟩ (by (try dsimp only); omega)
  · refine ⟨p3.mm hs_h (by decide) rfl, fun z9 ez9 => ⟨l, ez9.trans wh, p3.mm w1 (by decide) rfl, ?_⟩⟩
    refine t_Jx4a65c_get_915e3 p3 l w1 (by decide) x5 ⟨c1, p2⟩ (fun z11 pz => ?_)
    refine jc_dup ⟨fun c2 z17 ez17 => ?_, fun c2 => ⟨p3.mm hs_h (by decide) rfl, fun z18 ez18 => ⟨l, ez18.trans wh, p3.mm w1 (by decide) rfl, ?_⟩⟩⟩
    · have hz := i_add ez17 (by omega) (by omega)
      exact hK7 z17 κ6 ⟨hf, by omega, by omega, Or.inr p3⟩ (by (try dsimp only); omega)
    · refine t_Jx4a65c_remove_915e3 p3 l w1 (by decide) x5 ⟨c1, p2⟩ (fun z20 κ19 hV9 f9 p9 z17 ez17 => ?_)
      have hz := i_add ez17 (by omega) (by omega)
      exact hK7 z17 κ19 ⟨hf.tr f9 (by decide), by omega, by omega, Or.inr hV9⟩ (by (try dsimp only); omega)
end R9Q
set_option maxRecDepth 100000 in
set_option maxHeartbeats 4000000 in
theorem t2_X11_nextAgain {G : GE} {E : CE} {W : CW} {c : Int} {κ : CS} (hV : CV G E W c κ) (h : Nat) (hs_h : W.1 h = 1)  {post : Option Nat → CS → Prop} (kk : ∀ (r : Option Nat) (κ' : CS), CV G E W c κ' → CF [(8, 19)] W κ κ' → ((r = none ∨ ∃ b, r = some b ∧ W.1 b = 8) ∧ ∀ b, r = some b → HW W κ' h b) → post r κ') : F_X11_nextAgain G h post κ := by
  unfold F_X11_nextAgain
  have hfr : CF [(8, 19)] W κ κ := CF.rf
  have k_0 : (0 : Int32).toInt = 0 := rfl
  have k_1 : (1 : Int32).toInt = 1 := rfl
  have kl_1 : (1 : Int64).toInt = 1 := rfl
  refine lc_in (fun (x : Int32) (κ' : CS) => κ = κ' ∧ (((0 ≤ x.toInt)))) (fun (x : Int32) (κ' : CS) => (2147483647 - x.toInt).toNat) ⟨rfl, (by (try dsimp only); omega)⟩ (fun x1 κ2 hJ K3 hK3 => ?_)
  obtain ⟨hsg, hv⟩ := hJ
  subst hsg
  (try dsimp only at hv)
  have rg_x1 := i_range x1
  refine ⟨(hV.mm hs_h (by decide) rfl), ?_⟩
  intro z5 ez5
  obtain ⟨bz5, ebz5, hsz5⟩ := hV.1.nn hs_h (by decide) rfl 12 rfl (by decide)
  have ebz5 := ez5.trans ebz5
  refine ⟨bz5, ebz5, (hV.mm hsz5 (by decide) rfl), ?_⟩
  refine t_Jx4a65c_size_8abf5 hV bz5 hsz5 (by decide) (fun z7 pz7 => ?_)
  have rg_z7 := i_range z7
  refine ⟨fun c1 => ?_, fun c1 => ?_⟩
  · exact kk (none : Option Nat) κ hV hfr ⟨Or.inl rfl, fun b e => by cases e⟩
  · refine ⟨(hV.mm hs_h (by decide) rfl), ?_⟩
    intro z8 ez8
    have ebz8 : z8 = some bz5 := (ez8.trans ez5.symm).trans ebz5
    refine ⟨bz5, ebz8, (hV.mm hsz5 (by decide) rfl), ?_⟩
    refine t2_Jx4a65c_get_915e3 hV bz5 hsz5 (by decide) x1 (by omega) (fun z10 Dz10 eDz10 wDz10 exz10 pz10 => ?_)
    obtain ⟨bz10, ebz10, hsz10⟩ := pz10
    have hsz10 : W.1 bz10 = 8 := hsz10
    refine ⟨Or.inr ⟨bz10, ebz10, (hV.mm hsz10 (by decide) rfl)⟩, ?_⟩
    refine ⟨bz10, ebz10, (hV.mm hsz10 (by decide) rfl), ?_⟩
    intro z11 ez11
    have vz11 := hV.1.iv hsz10 (by decide) rfl 19 0 1 rfl ez11
    have wz11 : z11.toInt = (sI κ.1 bz10 19).toInt := by rw [ez11]
    refine ⟨fun c2 => ?_, fun c2 => ?_⟩
    · intro z12 ez12
      try have hz12 := i_add ez12 (by omega) (by omega)
      have rg_z12 := i_range z12
      exact hK3 z12 κ ⟨rfl, (by (try dsimp only); omega)⟩ (by (try dsimp only); omega)
    · refine ⟨by omega, bz10, ebz10, (hV.mm hsz10 (by decide) rfl), ?_⟩
      intro κ13 eκ13
      have rv_κ13 := i_range 0
      have hV := hV.uI (k := 19) (v := 0) hsz10 (Or.inl rfl) (Or.inl (by decide)) (Or.inl (by decide)) (fun _ => (by omega : (0 : Int) ≤ (0 : Int32).toInt ∧ (0 : Int32).toInt ≤ 1)) eκ13
      have hfr := hfr.uI (k := 19) hsz10 (by decide) (show ((8, 19) : Nat × Nat) ∈ ([(8, 19)] : List (Nat × Nat)) by decide) eκ13
      have uκ13 : (sI κ13.1 bz10 19).toInt = (0 : Int32).toInt := by rw [eκ13]; exact congrArg Int32.toInt u2_same
      exact kk z10 κ13 hV hfr ⟨Or.inr ⟨bz10, ebz10, hsz10⟩, fun b e => ⟨bz5, Dz10, x1.toInt.toNat, (hfr.1 h (by rw [hs_h]; decide) 12 (by rw [hs_h]; decide)).2.2.trans (ez8.symm.trans ebz8), hsz5, (hfr.1 bz5 (by rw [hsz5]; decide) 1 (by rw [hsz5]; decide)).2.2.trans eDz10, wDz10, by rw [(hfr.1 bz5 (by rw [hsz5]; decide) 2 (by rw [hsz5]; decide)).1]; omega, (hfr.1 Dz10 (by rw [wDz10]; decide) _ (by rw [wDz10]; simp [ixC, isOb, isRw])).2.2.trans (exz10.symm.trans e)⟩⟩
set_option maxRecDepth 100000 in
set_option maxHeartbeats 4000000 in
theorem t_X11_wakeLocks {G : GE} {E : CE} {W0 : CW} {c : Int} {κ : CS} (hV : CV G E W0 c κ) (h : Nat) (hs_h : W0.1 h = 1)  (hc : 102 ≤ c) {post : CS → Prop} (kk : ∀ (W' : CW) (κ' : CS), WX W0 W' κ → CV G E W' (c - 0) κ' → CF [(20, 0), (43, 0), (43, 1), (43, 2), (44, 0), (44, 2), (53, 0), (54, 0), (61, 0), (61, 1), (63, 0), (63, 1)] W0 κ κ' → (True) → post κ') : F_X11_wakeLocks G h post κ := by
  have hs0_h := hs_h
  suffices H_ : ∀ W : CW, WX W0 W κ → CV G E W (c - 0) κ → (W.1 h = 1) → F_X11_wakeLocks G h post κ from H_ W0 WX.rf (hV.dn (by omega)) hs_h
  intro W hx hV hs_h
  unfold F_X11_wakeLocks
  have hfr : CF [(20, 0), (43, 0), (43, 1), (43, 2), (44, 0), (44, 2), (53, 0), (54, 0), (61, 0), (61, 1), (63, 0), (63, 1)] W0 κ κ := CF.rf
  have k_0 : (0 : Int32).toInt = 0 := rfl
  have k_1 : (1 : Int32).toInt = 1 := rfl
  have k_2 : (2 : Int32).toInt = 2 := rfl
  have k_4 : (4 : Int32).toInt = 4 := rfl
  have k_60 : (60 : Int32).toInt = 60 := rfl
  have k_64 : (64 : Int32).toInt = 64 := rfl
  have k_68 : (68 : Int32).toInt = 68 := rfl
  have kl_0 : (0 : Int64).toInt = 0 := rfl
  have kl_1 : (1 : Int64).toInt = 1 := rfl
  have kl_2 : (2 : Int64).toInt = 2 := rfl
  have kl_4 : (4 : Int64).toInt = 4 := rfl
  have kl_64 : (64 : Int64).toInt = 64 := rfl
  have kl_68 : (68 : Int64).toInt = 68 := rfl
  refine ⟨(hV.mm hs_h (by decide) rfl), ?_⟩
  intro z1 ez1
  obtain ⟨bz1, ebz1, hsz1⟩ := hV.1.nn hs_h (by decide) rfl 12 rfl (by decide)
  have ebz1 := ez1.trans ebz1
  refine ⟨bz1, ebz1, (hV.mm hsz1 (by decide) rfl), ?_⟩
  refine t_Jx4a65c_size_8abf5 hV bz1 hsz1 (by decide) (fun z3 pz3 => ?_)
  have rg_z3 := i_range z3
  refine lc_in (fun (x : Int32 × Int32) (κ' : CS) => ∃ W' : CW, WLe W W' ∧ WX W0 W' κ ∧ CV G E W' (c - 0) κ' ∧ CF [(20, 0), (43, 0), (43, 1), (43, 2), (44, 0), (44, 2), (53, 0), (54, 0), (61, 0), (61, 1), (63, 0), (63, 1)] W0 κ κ' ∧ (((0 ≤ x.1.toInt) ∧ (0 ≤ x.2.toInt)))) (fun (x : Int32 × Int32) (κ' : CS) => (2147483647 - x.1.toInt).toNat) ⟨W, WLe.rf, hx, hV.dn (by (try dsimp only); omega), hfr, (by (try dsimp only); omega)⟩ (fun x4 κ5 hJ K6 hK6 => ?_)
  obtain ⟨W, le12, hx, hV, hfr, hv⟩ := hJ
  have hs_h := WLe.at le12 hs_h (by decide)
  have hsz1 := WLe.at le12 hsz1 (by decide)
  (try dsimp only at hv)
  have rg_x4_1 := i_range x4.1
  have rg_x4_2 := i_range x4.2
  refine jc_dup ?_
  refine ⟨fun c1 => ?_, fun c1 => ?_⟩
  · (try dsimp only)
    exact kk W κ5 hx (hV.dn (by omega)) hfr trivial
  · refine ⟨(hV.mm hs_h (by decide) rfl), ?_⟩
    intro z13 ez13
    have ebz13 : z13 = some bz1 := (ez13.trans (hfr.1 h (by rw [hs0_h]; decide) 12 (by rw [hs0_h]; decide)).2.2).trans (ez1.symm.trans ebz1)
    refine ⟨bz1, ebz13, (hV.mm hsz1 (by decide) rfl), ?_⟩
    refine t_Jx4a65c_size_8abf5 hV bz1 hsz1 (by decide) (fun z15 pz15 => ?_)
    have rg_z15 := i_range z15
    refine ⟨fun c2 => ?_, fun c2 => ?_⟩
    · (try dsimp only)
      exact kk W κ5 hx (hV.dn (by omega)) hfr trivial
    · refine ⟨(hV.mm hs_h (by decide) rfl), ?_⟩
      intro z16 ez16
      have ebz16 : z16 = some bz1 := (ez16.trans (hfr.1 h (by rw [hs0_h]; decide) 12 (by rw [hs0_h]; decide)).2.2).trans (ez1.symm.trans ebz1)
      refine ⟨bz1, ebz16, (hV.mm hsz1 (by decide) rfl), ?_⟩
      refine t_Jx4a65c_get_915e3 hV bz1 hsz1 (by decide) x4.2 (by omega) (fun z18 pz18 => ?_)
      obtain ⟨bz18, ebz18, hsz18⟩ := pz18
      have hsz18 : W.1 bz18 = 8 := hsz18
      refine ⟨Or.inr ⟨bz18, ebz18, (hV.mm hsz18 (by decide) rfl)⟩, ?_⟩
      refine ⟨bz18, ebz18, (hV.mm hsz18 (by decide) rfl), ?_⟩
      intro z19 ez19
      have nz19 := hV.1.nl hsz18 (by decide) rfl 20 rfl (by decide)
      rw [← ez19] at nz19
      refine jc_dup ?_
      refine jc_dup ?_
      refine ⟨fun c3 => ?_, fun c3 => ?_⟩
      · (try dsimp only)
        intro z31 ez31
        try have hz31 := i_add ez31 (by omega) (by omega)
        have rg_z31 := i_range z31
        (try dsimp only)
        intro z25 ez25
        try have hz25 := i_add ez25 (by omega) (by omega)
        have rg_z25 := i_range z25
        exact hK6 (z25, z31) κ5 ⟨W, le12, hx, hV.dn (by (try dsimp only); omega), hfr, (by (try dsimp only); omega)⟩ (by (try dsimp only); omega)
      · obtain ⟨bn1, ebn1, hsn1⟩ := nz19.resolve_left c3
        refine ⟨(hV.mm hs_h (by decide) rfl), ?_⟩
        intro z32 ez32
        obtain ⟨bz32, ebz32, hsz32⟩ := hV.1.nn hs_h (by decide) rfl 11 rfl (by decide)
        have ebz32 := ez32.trans ebz32
        refine ⟨bz32, ebz32, (hV.mm hsz32 (by decide) rfl), ?_⟩
        refine t_Jx4a65c_size_8abf5 hV bz32 hsz32 (by decide) (fun z34 pz34 => ?_)
        have rg_z34 := i_range z34
        refine ⟨fun c4 => ?_, fun c4 => ?_⟩
        · (try dsimp only)
          intro z31 ez31
          try have hz31 := i_add ez31 (by omega) (by omega)
          have rg_z31 := i_range z31
          (try dsimp only)
          intro z25 ez25
          try have hz25 := i_add ez25 (by omega) (by omega)
          have rg_z25 := i_range z25
          exact hK6 (z25, z31) κ5 ⟨W, le12, hx, hV.dn (by (try dsimp only); omega), hfr, (by (try dsimp only); omega)⟩ (by (try dsimp only); omega)
        · refine ⟨bz18, ebz18, (hV.mm hsz18 (by decide) rfl), ?_⟩
          intro z35 ez35
          have ebz35 : z35 = some bn1 := (ez35.trans ez19.symm).trans ebn1
          refine ⟨(hV.mm hs_h (by decide) rfl), ?_⟩
          refine t_X11_canBe hV h hs_h z35 bn1 ebz35 hsn1  (fun z37 pz37 => ?_)
          have rg_z37 := i_range z37
          refine ⟨fun c5 => ?_, fun c5 => ?_⟩
          · (try dsimp only)
            intro z31 ez31
            try have hz31 := i_add ez31 (by omega) (by omega)
            have rg_z31 := i_range z31
            (try dsimp only)
            intro z25 ez25
            try have hz25 := i_add ez25 (by omega) (by omega)
            have rg_z25 := i_range z25
            exact hK6 (z25, z31) κ5 ⟨W, le12, hx, hV.dn (by (try dsimp only); omega), hfr, (by (try dsimp only); omega)⟩ (by (try dsimp only); omega)
          · refine ⟨(hV.mm hs_h (by decide) rfl), ?_⟩
            intro z38 ez38
            have ebz38 : z38 = some bz32 := (ez38.trans ez32.symm).trans ebz32
            refine ⟨bz18, ebz18, (hV.mm hsz18 (by decide) rfl), ?_⟩
            intro z39 ez39
            have ebz39 : z39 = some bn1 := (ez39.trans ez19.symm).trans ebn1
            refine ⟨bz32, ebz38, (hV.mm hsz32 (by decide) rfl), ?_⟩
            refine t_Jx4a65c_add_9ea2d hV bz32 hsz32 (by decide) z39 bn1 ebz39 hsn1 (by omega) 102 (by decide) (by omega) (fun z41 W κ40 x1_ hV fκ40 pz41 => ?_)
            have hV : CV G E W (c - 102) κ40 := hV.dn (by omega)
            have tk1 : (sI κ40.1 bz1 2).toInt = (sI κ5.1 bz1 2).toInt := by rw [(fκ40.1 bz1 (by rw [hsz1]; decide) 2 (by rw [hsz1]; decide)).1]
            have hx2 := hx.tr x1_ hfr.sl
            have hfr := hfr.trW hx fκ40 (by decide)
            have hs_h := WLe.at (x1_).1 hs_h (by decide)
            have hsz1 := WLe.at (x1_).1 hsz1 (by decide)
            have hsz18 := WLe.at (x1_).1 hsz18 (by decide)
            have hsn1 := WLe.at (x1_).1 hsn1 (by decide)
            have hsz32 := WLe.at (x1_).1 hsz32 (by decide)
            have le12 := WLe.tr le12 (x1_).1
            have hx := hx2
            refine ⟨(hV.mm hs_h (by decide) rfl), ?_⟩
            intro z42 ez42
            have ebz42 : z42 = some bz1 := (ez42.trans (hfr.1 h (by rw [hs0_h]; decide) 12 (by rw [hs0_h]; decide)).2.2).trans (ez1.symm.trans ebz1)
            refine ⟨bz1, ebz42, (hV.mm hsz1 (by decide) rfl), ?_⟩
            refine t_Jx4a65c_remove_915e3 hV bz1 hsz1 (by decide) x4.2 (by omega) (fun z44 κ43 hV fκ43 pz44 => ?_)
            have hV := pz44.2 rfl
            have hV : CV G E W (c - (-298)) κ43 := hV.dn (by omega)
            have hfr := hfr.trW hx fκ43 (by decide)
            refine ⟨(hV.mm hs_h (by decide) rfl), ?_⟩
            intro z45 ez45
            obtain ⟨bz45, ebz45, hsz45⟩ := hV.1.nn hs_h (by decide) rfl 16 rfl (by decide)
            have ebz45 := ez45.trans ebz45
            refine ⟨bz45, ebz45, (hV.mm hsz45 (by decide) rfl), ?_⟩
            refine t_X6_begin hV bz45 hsz45 68 (by omega) (by omega) (fun W κ46 x1_ hV fκ46 pu3 => ?_)
            have hV : CV G E W (c - (-298)) κ46 := hV.dn (by omega)
            have tk2 : (sI κ46.1 bz1 2).toInt = (sI κ43.1 bz1 2).toInt := by rw [(fκ46.1 bz1 (by rw [hsz1]; decide) 2 (by rw [hsz1]; decide)).1]
            have hx2 := hx.tr x1_ hfr.sl
            have hfr := hfr.trW hx fκ46 (by decide)
            have hs_h := WLe.at (x1_).1 hs_h (by decide)
            have hsz1 := WLe.at (x1_).1 hsz1 (by decide)
            have hsz18 := WLe.at (x1_).1 hsz18 (by decide)
            have hsn1 := WLe.at (x1_).1 hsn1 (by decide)
            have hsz32 := WLe.at (x1_).1 hsz32 (by decide)
            have hsz45 := WLe.at (x1_).1 hsz45 (by decide)
            have le12 := WLe.tr le12 (x1_).1
            have hx := hx2
            refine ⟨(hV.mm hs_h (by decide) rfl), ?_⟩
            intro z48 ez48
            obtain ⟨bz48, ebz48, hsz48⟩ := hV.1.nn hs_h (by decide) rfl 16 rfl (by decide)
            have ebz48 := ez48.trans ebz48
            refine ⟨bz48, ebz48, (hV.mm hsz48 (by decide) rfl), ?_⟩
            refine t_X6_put hV bz48 hsz48 rfl 64 2 4  (fun κ49 hV fκ49 pu4 => ?_)
            have tk3 : (sI κ49.1 bz1 2).toInt = (sI κ46.1 bz1 2).toInt := by rw [(fκ49.1 bz1 (by rw [hsz1]; decide) 2 (by rw [hsz1]; decide)).1]
            have hfr := hfr.trW hx fκ49 (by decide)
            refine ⟨(hV.mm hs_h (by decide) rfl), ?_⟩
            refine t_X11_sendLater hV h hs_h z18 bz18 ebz18 hsz18 0  (by omega) (fun W κ51 x1_ hV fκ51 pu5 => ?_)
            have hV : CV G E W (c - (-298)) κ51 := hV.dn (by omega)
            have tk4 : (sI κ51.1 bz1 2).toInt = (sI κ49.1 bz1 2).toInt := by rw [(fκ51.1 bz1 (by rw [hsz1]; decide) 2 (by rw [hsz1]; decide)).1]
            have hx2 := hx.tr x1_ hfr.sl
            have hfr := hfr.trW hx fκ51 (by decide)
            have hs_h := WLe.at (x1_).1 hs_h (by decide)
            have hsz1 := WLe.at (x1_).1 hsz1 (by decide)
            have hsz18 := WLe.at (x1_).1 hsz18 (by decide)
            have hsn1 := WLe.at (x1_).1 hsn1 (by decide)
            have hsz32 := WLe.at (x1_).1 hsz32 (by decide)
            have hsz45 := WLe.at (x1_).1 hsz45 (by decide)
            have hsz48 := WLe.at (x1_).1 hsz48 (by decide)
            have le12 := WLe.tr le12 (x1_).1
            have hx := hx2
            (try dsimp only)
            intro z25 ez25
            try have hz25 := i_add ez25 (by omega) (by omega)
            have rg_z25 := i_range z25
            exact hK6 (z25, x4.2) κ51 ⟨W, le12, hx, hV.dn (by (try dsimp only); omega), hfr, (by (try dsimp only); omega)⟩ (by (try dsimp only); omega)
set_option maxRecDepth 100000 in
set_option maxHeartbeats 4000000 in
theorem t_X11_cancelLocksThatWait {G : GE} {E : CE} {W0 : CW} {c : Int} {κ : CS} (hV : CV G E W0 c κ) (h : Nat) (hs_h : W0.1 h = 1) (a1 : Option Nat) (b_a1 : Nat) (e_a1 : a1 = some b_a1) (hs_a1 : W0.1 b_a1 = 10)  (hc : 0 ≤ c) {post : CS → Prop} (kk : ∀ (W' : CW) (κ' : CS), WX W0 W' κ → CV G E W' (c - 0) κ' → CF [(20, 0), (44, 0), (44, 2), (54, 0), (61, 0), (61, 1), (63, 0), (63, 1)] W0 κ κ' → (True) → post κ') : F_X11_cancelLocksThatWait G h a1 post κ := by
  have hs0_h := hs_h
  have hs0_a1 := hs_a1
  suffices H_ : ∀ W : CW, WX W0 W κ → CV G E W (c - 0) κ → (W.1 h = 1) → (W.1 b_a1 = 10) → F_X11_cancelLocksThatWait G h a1 post κ from H_ W0 WX.rf (hV.dn (by omega)) hs_h hs_a1
  intro W hx hV hs_h hs_a1
  unfold F_X11_cancelLocksThatWait
  have hfr : CF [(20, 0), (44, 0), (44, 2), (54, 0), (61, 0), (61, 1), (63, 0), (63, 1)] W0 κ κ := CF.rf
  have k_m1073741536 : ((-1073741536) : Int32).toInt = (-1073741536) := rfl
  have k_0 : (0 : Int32).toInt = 0 := rfl
  have k_1 : (1 : Int32).toInt = 1 := rfl
  have kl_m1073741536 : ((-1073741536) : Int64).toInt = (-1073741536) := rfl
  have kl_1 : (1 : Int64).toInt = 1 := rfl
  refine ⟨(hV.mm hs_h (by decide) rfl), ?_⟩
  intro z1 ez1
  obtain ⟨bz1, ebz1, hsz1⟩ := hV.1.nn hs_h (by decide) rfl 12 rfl (by decide)
  have ebz1 := ez1.trans ebz1
  refine ⟨bz1, ebz1, (hV.mm hsz1 (by decide) rfl), ?_⟩
  refine t_Jx4a65c_size_8abf5 hV bz1 hsz1 (by decide) (fun z3 pz3 => ?_)
  have rg_z3 := i_range z3
  refine lc_in (fun (x : Int32 × Int32) (κ' : CS) => ∃ W' : CW, WLe W W' ∧ WX W0 W' κ ∧ CV G E W' (c - 0) κ' ∧ CF [(20, 0), (44, 0), (44, 2), (54, 0), (61, 0), (61, 1), (63, 0), (63, 1)] W0 κ κ' ∧ (((0 ≤ x.1.toInt) ∧ (0 ≤ x.2.toInt)))) (fun (x : Int32 × Int32) (κ' : CS) => (2147483647 - x.1.toInt).toNat) ⟨W, WLe.rf, hx, hV.dn (by (try dsimp only); omega), hfr, (by (try dsimp only); omega)⟩ (fun x4 κ5 hJ K6 hK6 => ?_)
  obtain ⟨W, le13, hx, hV, hfr, hv⟩ := hJ
  have hs_h := WLe.at le13 hs_h (by decide)
  have hs_a1 := WLe.at le13 hs_a1 (by decide)
  have hsz1 := WLe.at le13 hsz1 (by decide)
  (try dsimp only at hv)
  have rg_x4_1 := i_range x4.1
  have rg_x4_2 := i_range x4.2
  refine jc_dup ?_
  refine ⟨fun c1 => ?_, fun c1 => ?_⟩
  · (try dsimp only)
    exact kk W κ5 hx (hV.dn (by omega)) hfr trivial
  · refine ⟨(hV.mm hs_h (by decide) rfl), ?_⟩
    intro z13 ez13
    have ebz13 : z13 = some bz1 := (ez13.trans (hfr.1 h (by rw [hs0_h]; decide) 12 (by rw [hs0_h]; decide)).2.2).trans (ez1.symm.trans ebz1)
    refine ⟨bz1, ebz13, (hV.mm hsz1 (by decide) rfl), ?_⟩
    refine t_Jx4a65c_size_8abf5 hV bz1 hsz1 (by decide) (fun z15 pz15 => ?_)
    have rg_z15 := i_range z15
    refine ⟨fun c2 => ?_, fun c2 => ?_⟩
    · (try dsimp only)
      exact kk W κ5 hx (hV.dn (by omega)) hfr trivial
    · refine ⟨(hV.mm hs_h (by decide) rfl), ?_⟩
      intro z16 ez16
      have ebz16 : z16 = some bz1 := (ez16.trans (hfr.1 h (by rw [hs0_h]; decide) 12 (by rw [hs0_h]; decide)).2.2).trans (ez1.symm.trans ebz1)
      refine ⟨bz1, ebz16, (hV.mm hsz1 (by decide) rfl), ?_⟩
      refine t_Jx4a65c_get_915e3 hV bz1 hsz1 (by decide) x4.2 (by omega) (fun z18 pz18 => ?_)
      obtain ⟨bz18, ebz18, hsz18⟩ := pz18
      have hsz18 : W.1 bz18 = 8 := hsz18
      refine ⟨Or.inr ⟨bz18, ebz18, (hV.mm hsz18 (by decide) rfl)⟩, ?_⟩
      refine ⟨bz18, ebz18, (hV.mm hsz18 (by decide) rfl), ?_⟩
      intro z19 ez19
      have nz19 := hV.1.nl hsz18 (by decide) rfl 20 rfl (by decide)
      rw [← ez19] at nz19
      refine jc_dup ?_
      refine jc_dup ?_
      refine ⟨fun c3 => ?_, fun c3 => ?_⟩
      · (try dsimp only)
        intro z31 ez31
        try have hz31 := i_add ez31 (by omega) (by omega)
        have rg_z31 := i_range z31
        (try dsimp only)
        intro z25 ez25
        try have hz25 := i_add ez25 (by omega) (by omega)
        have rg_z25 := i_range z25
        exact hK6 (z25, z31) κ5 ⟨W, le13, hx, hV.dn (by (try dsimp only); omega), hfr, (by (try dsimp only); omega)⟩ (by (try dsimp only); omega)
      · obtain ⟨bn1, ebn1, hsn1⟩ := nz19.resolve_left c3
        refine ⟨bz18, ebz18, (hV.mm hsz18 (by decide) rfl), ?_⟩
        intro z32 ez32
        have ebz32 : z32 = some bn1 := (ez32.trans ez19.symm).trans ebn1
        refine ⟨bn1, ebz32, (hV.mm hsn1 (by decide) rfl), ?_⟩
        intro z33 ez33
        obtain ⟨bz33, ebz33, hsz33⟩ := hV.1.nn hsn1 (by decide) rfl 0 rfl (by decide)
        have ebz33 := ez33.trans ebz33
        refine ⟨fun c4 => ?_, fun c4 => ?_⟩
        · (try dsimp only)
          intro z31 ez31
          try have hz31 := i_add ez31 (by omega) (by omega)
          have rg_z31 := i_range z31
          (try dsimp only)
          intro z25 ez25
          try have hz25 := i_add ez25 (by omega) (by omega)
          have rg_z25 := i_range z25
          exact hK6 (z25, z31) κ5 ⟨W, le13, hx, hV.dn (by (try dsimp only); omega), hfr, (by (try dsimp only); omega)⟩ (by (try dsimp only); omega)
        · refine ⟨(hV.mm hs_h (by decide) rfl), ?_⟩
          intro z34 ez34
          have ebz34 : z34 = some bz1 := (ez34.trans (hfr.1 h (by rw [hs0_h]; decide) 12 (by rw [hs0_h]; decide)).2.2).trans (ez1.symm.trans ebz1)
          refine ⟨bz1, ebz34, (hV.mm hsz1 (by decide) rfl), ?_⟩
          refine t_Jx4a65c_remove_915e3 hV bz1 hsz1 (by decide) x4.2 (by omega) (fun z36 κ35 hV fκ35 pz36 => ?_)
          have hV := pz36.2 rfl
          have hV : CV G E W (c - (-400)) κ35 := hV.dn (by omega)
          have hfr := hfr.trW hx fκ35 (by decide)
          refine ⟨(hV.mm hs_h (by decide) rfl), ?_⟩
          refine t_X11_sendLater hV h hs_h z18 bz18 ebz18 hsz18 (-1073741536)  (by omega) (fun W κ37 x1_ hV fκ37 pu2 => ?_)
          have hV : CV G E W (c - (-400)) κ37 := hV.dn (by omega)
          have tk1 : (sI κ37.1 bz1 2).toInt = (sI κ35.1 bz1 2).toInt := by rw [(fκ37.1 bz1 (by rw [hsz1]; decide) 2 (by rw [hsz1]; decide)).1]
          have hx2 := hx.tr x1_ hfr.sl
          have hfr := hfr.trW hx fκ37 (by decide)
          have hs_h := WLe.at (x1_).1 hs_h (by decide)
          have hs_a1 := WLe.at (x1_).1 hs_a1 (by decide)
          have hsz1 := WLe.at (x1_).1 hsz1 (by decide)
          have hsz18 := WLe.at (x1_).1 hsz18 (by decide)
          have hsn1 := WLe.at (x1_).1 hsn1 (by decide)
          have hsz33 := WLe.at (x1_).1 hsz33 (by decide)
          have le13 := WLe.tr le13 (x1_).1
          have hx := hx2
          (try dsimp only)
          intro z25 ez25
          try have hz25 := i_add ez25 (by omega) (by omega)
          have rg_z25 := i_range z25
          exact hK6 (z25, x4.2) κ37 ⟨W, le13, hx, hV.dn (by (try dsimp only); omega), hfr, (by (try dsimp only); omega)⟩ (by (try dsimp only); omega)
set_option maxRecDepth 100000 in
set_option maxHeartbeats 4000000 in
theorem t_X11_closeOpen {G : GE} {E : CE} {W0 : CW} {c : Int} {κ : CS} (hV : CV G E W0 c κ) (h : Nat) (hs_h : W0.1 h = 1) (a1 : Option Nat) (b_a1 : Nat) (e_a1 : a1 = some b_a1) (hs_a1 : W0.1 b_a1 = 10)  (hc : 0 ≤ c) {post : CS → Prop} (kk : ∀ (W' : CW) (κ' : CS), WX W0 W' κ → CV G E W' (c - 0) κ' → CF [(1, 6), (20, 0), (30, 0), (4, 0), (4, 1), (4, 10), (4, 11), (4, 12), (4, 13), (4, 2), (4, 3), (4, 5), (4, 6), (4, 7), (4, 8), (4, 9), (42, 0), (42, 2), (43, 0), (43, 2), (44, 0), (44, 2), (5, 1), (5, 10), (5, 11), (5, 12), (5, 13), (5, 2), (5, 3), (5, 4), (5, 6), (5, 7), (5, 8), (5, 9), (52, 0), (53, 0), (54, 0), (6, 1), (61, 0), (61, 1), (63, 0), (63, 1), (8, 19)] W0 κ κ' → (True) → post κ') : F_X11_closeOpen G h a1 post κ := by
  have hs0_h := hs_h
  have hs0_a1 := hs_a1
  suffices H_ : ∀ W : CW, WX W0 W κ → CV G E W (c - 0) κ → (W.1 h = 1) → (W.1 b_a1 = 10) → F_X11_closeOpen G h a1 post κ from H_ W0 WX.rf (hV.dn (by omega)) hs_h hs_a1
  intro W hx hV hs_h hs_a1
  unfold F_X11_closeOpen
  have hfr : CF [(1, 6), (20, 0), (30, 0), (4, 0), (4, 1), (4, 10), (4, 11), (4, 12), (4, 13), (4, 2), (4, 3), (4, 5), (4, 6), (4, 7), (4, 8), (4, 9), (42, 0), (42, 2), (43, 0), (43, 2), (44, 0), (44, 2), (5, 1), (5, 10), (5, 11), (5, 12), (5, 13), (5, 2), (5, 3), (5, 4), (5, 6), (5, 7), (5, 8), (5, 9), (52, 0), (53, 0), (54, 0), (6, 1), (61, 0), (61, 1), (63, 0), (63, 1), (8, 19)] W0 κ κ := CF.rf
  have k_m1 : ((-1) : Int32).toInt = (-1) := rfl
  have k_0 : (0 : Int32).toInt = 0 := rfl
  have k_1 : (1 : Int32).toInt = 1 := rfl
  have k_5 : (5 : Int32).toInt = 5 := rfl
  have kl_m1 : ((-1) : Int64).toInt = (-1) := rfl
  have kl_1 : (1 : Int64).toInt = 1 := rfl
  have kl_5 : (5 : Int64).toInt = 5 := rfl
  refine ⟨(hV.mm hs_h (by decide) rfl), ?_⟩
  refine t_X11_cancelLocksThatWait hV h hs_h a1 b_a1 e_a1 hs_a1  (by omega) (fun W κ1 x1_ hV fκ1 pu1 => ?_)
  have hV : CV G E W (c - 0) κ1 := hV.dn (by omega)
  have hx2 := hx.tr x1_ hfr.sl
  have hfr := hfr.trW hx fκ1 (by decide)
  have hs_h := WLe.at (x1_).1 hs_h (by decide)
  have hs_a1 := WLe.at (x1_).1 hs_a1 (by decide)
  have hx := hx2
  refine ⟨(hV.mm hs_h (by decide) rfl), ?_⟩
  intro z3 ez3
  obtain ⟨bz3, ebz3, hsz3⟩ := hV.1.nn hs_h (by decide) rfl 11 rfl (by decide)
  have pk_z3 := ebz3
  have ebz3 := ez3.trans ebz3
  refine ⟨bz3, ebz3, (hV.mm hsz3 (by decide) rfl), ?_⟩
  refine t_Jx4a65c_size_8abf5 hV bz3 hsz3 (by decide) (fun z5 pz5 => ?_)
  have rg_z5 := i_range z5
  intro z6 ez6
  try have hz6 := i_sub ez6 (by omega) (by omega)
  have rg_z6 := i_range z6
  refine lc_in (fun (x : Int32) (κ' : CS) => ∃ W' : CW, WLe W W' ∧ WX W0 W' κ ∧ CV G E W' (c - 0) κ' ∧ CF [(1, 6), (20, 0), (30, 0), (4, 0), (4, 1), (4, 10), (4, 11), (4, 12), (4, 13), (4, 2), (4, 3), (4, 5), (4, 6), (4, 7), (4, 8), (4, 9), (42, 0), (42, 2), (43, 0), (43, 2), (44, 0), (44, 2), (5, 1), (5, 10), (5, 11), (5, 12), (5, 13), (5, 2), (5, 3), (5, 4), (5, 6), (5, 7), (5, 8), (5, 9), (52, 0), (53, 0), (54, 0), (6, 1), (61, 0), (61, 1), (63, 0), (63, 1), (8, 19)] W0 κ κ' ∧ (((-1 ≤ x.toInt))) ∧ (∃ b, sP κ'.1 h 11 = some b ∧ W'.1 b = 43 ∧ (x.toInt < (sI κ'.1 b 2).toInt))) (fun (x : Int32) (κ' : CS) => (x.toInt + 2147483648).toNat) ⟨W, WLe.rf, hx, hV.dn (by (try dsimp only); omega), hfr, (by (try dsimp only); omega), ⟨bz3, pk_z3, hsz3, (by (try dsimp only); omega)⟩⟩ (fun x7 κ8 hJ K9 hK9 => ?_)
  obtain ⟨W, le15, hx, hV, hfr, hv⟩ := hJ
  have hs_h := WLe.at le15 hs_h (by decide)
  have hs_a1 := WLe.at le15 hs_a1 (by decide)
  have hsz3 := WLe.at le15 hsz3 (by decide)
  (try dsimp only at hv)
  obtain ⟨hv, ⟨bk15_0, ek15_0, wk15_0, xk15_0⟩⟩ := hv
  (try dsimp only at hv)
  (try dsimp only at xk15_0)
  have rg_x7 := i_range x7
  refine ⟨fun c1 => ?_, fun c1 => ?_⟩
  · refine ⟨(hV.mm hs_h (by decide) rfl), ?_⟩
    intro z11 ez11
    obtain ⟨bz11, ebz11, hsz11⟩ := hV.1.nn hs_h (by decide) rfl 10 rfl (by decide)
    have pk_z11 := ebz11
    have ebz11 := ez11.trans ebz11
    refine ⟨bz11, ebz11, (hV.mm hsz11 (by decide) rfl), ?_⟩
    refine t_Jx4a65c_size_8abf5 hV bz11 hsz11 (by decide) (fun z13 pz13 => ?_)
    have rg_z13 := i_range z13
    intro z14 ez14
    try have hz14 := i_sub ez14 (by omega) (by omega)
    have rg_z14 := i_range z14
    refine lc_in (fun (x : Int32) (κ' : CS) => ∃ W' : CW, WLe W W' ∧ WX W0 W' κ ∧ CV G E W' (c - 0) κ' ∧ CF [(1, 6), (20, 0), (30, 0), (4, 0), (4, 1), (4, 10), (4, 11), (4, 12), (4, 13), (4, 2), (4, 3), (4, 5), (4, 6), (4, 7), (4, 8), (4, 9), (42, 0), (42, 2), (43, 0), (43, 2), (44, 0), (44, 2), (5, 1), (5, 10), (5, 11), (5, 12), (5, 13), (5, 2), (5, 3), (5, 4), (5, 6), (5, 7), (5, 8), (5, 9), (52, 0), (53, 0), (54, 0), (6, 1), (61, 0), (61, 1), (63, 0), (63, 1), (8, 19)] W0 κ κ' ∧ (((-1 ≤ x.toInt))) ∧ (∃ b, sP κ'.1 h 10 = some b ∧ W'.1 b = 42 ∧ (x.toInt < (sI κ'.1 b 2).toInt))) (fun (x : Int32) (κ' : CS) => (x.toInt + 2147483648).toNat) ⟨W, WLe.rf, hx, hV.dn (by (try dsimp only); omega), hfr, (by (try dsimp only); omega), ⟨bz11, pk_z11, hsz11, (by (try dsimp only); omega)⟩⟩ (fun x15 κ16 hJ K17 hK17 => ?_)
    obtain ⟨W, le62, hx, hV, hfr, hv⟩ := hJ
    have hs_h := WLe.at le62 hs_h (by decide)
    have hs_a1 := WLe.at le62 hs_a1 (by decide)
    have hsz3 := WLe.at le62 hsz3 (by decide)
    have wk15_0 := WLe.at le62 wk15_0 (by decide)
    have hsz11 := WLe.at le62 hsz11 (by decide)
    have le15 := WLe.tr le15 le62
    (try dsimp only at hv)
    obtain ⟨hv, ⟨bk62_0, ek62_0, wk62_0, xk62_0⟩⟩ := hv
    (try dsimp only at hv)
    (try dsimp only at xk62_0)
    have rg_x15 := i_range x15
    refine ⟨fun c2 => ?_, fun c2 => ?_⟩
    · refine ⟨b_a1, e_a1, (hV.mm hs_a1 (by decide) rfl), ?_⟩
      intro z19 ez19
      obtain ⟨bz19, ebz19, hsz19⟩ := hV.1.nn hs_a1 (by decide) rfl 2 rfl (by decide)
      have ebz19 := ez19.trans ebz19
      refine ⟨bz19, ebz19, (hV.mm hsz19 (by decide) rfl), ?_⟩
      intro z20 ez20
      have vz20 := hV.1.iv hsz19 (by decide) rfl 3 0 1 rfl ez20
      have wz20 : z20.toInt = (sI κ16.1 bz19 3).toInt := by rw [ez20]
      refine jc_in (fun (x : Int32) (κ' : CS) => κ16 = κ' ∧ (((0 ≤ x.toInt ∧ x.toInt ≤ 1)))) (fun x21 κ22 hJ => ?_) (fun K23 hK23 => ?_)
      · obtain ⟨hsg, hv⟩ := hJ
        subst hsg
        (try dsimp only at hv)
        have rg_x21 := i_range x21
        refine ⟨by omega, bz19, ebz19, (hV.mm hsz19 (by decide) rfl), ?_⟩
        intro κ26 eκ26
        have rv_κ26 := i_range x21
        have hV := hV.uI (k := 3) (v := x21) hsz19 (Or.inl rfl) (Or.inr (by decide)) (Or.inl (by decide)) (fun _ => (by omega : (0 : Int) ≤ (x21 : Int32).toInt ∧ (x21 : Int32).toInt ≤ 1)) eκ26
        have uκ26 : (sI κ26.1 bz19 3).toInt = (x21 : Int32).toInt := by rw [eκ26]; exact congrArg Int32.toInt u2_same
        have f1κ26 : CF [(5, 3)] W κ16 κ26 := CF.rf.uI (k := 3) hsz19 (by decide) (show ((5, 3) : Nat × Nat) ∈ ([(5, 3)] : List (Nat × Nat)) by simp) eκ26
        have tk1 : (sI κ26.1 bz3 2).toInt = (sI κ16.1 bz3 2).toInt := by rw [(f1κ26.1 bz3 (by rw [hsz3]; decide) 2 (by rw [hsz3]; decide)).1]
        have tk2 : (sI κ26.1 bk15_0 2).toInt = (sI κ16.1 bk15_0 2).toInt := by rw [(f1κ26.1 bk15_0 (by rw [wk15_0]; decide) 2 (by rw [wk15_0]; decide)).1]
        have tk3 : (sI κ26.1 bz11 2).toInt = (sI κ16.1 bz11 2).toInt := by rw [(f1κ26.1 bz11 (by rw [hsz11]; decide) 2 (by rw [hsz11]; decide)).1]
        have tk4 : (sI κ26.1 bk62_0 2).toInt = (sI κ16.1 bk62_0 2).toInt := by rw [(f1κ26.1 bk62_0 (by rw [wk62_0]; decide) 2 (by rw [wk62_0]; decide)).1]
        have pk5 := (f1κ26.1 h (by rw [hs_h]; decide) 10 (by rw [hs_h]; decide)).2.2.trans ek62_0
        have hfr := hfr.trW hx f1κ26 (by decide)
        refine ⟨bz19, ebz19, (hV.mm hsz19 (by decide) rfl), ?_⟩
        intro z27 ez27
        have vz27 := hV.1.iv hsz19 (by decide) rfl 3 0 1 rfl ez27
        have wz27 : z27.toInt = (sI κ26.1 bz19 3).toInt := by rw [ez27]
        refine jc_dup ?_
        refine ⟨fun c3 => ?_, fun c3 => ?_⟩
        · (try dsimp only)
          refine ⟨(hV.mm hs_h (by decide) rfl), ?_⟩
          refine t_X11_comeToDisk hV h hs_h  (by omega) (fun W κ33 x1_ hV fκ33 pu2 => ?_)
          have hV : CV G E W (c - 0) κ33 := hV.dn (by omega)
          have tk6 : (sI κ33.1 bz3 2).toInt = (sI κ26.1 bz3 2).toInt := by rw [(fκ33.1 bz3 (by rw [hsz3]; decide) 2 (by rw [hsz3]; decide)).1]
          have tk7 : (sI κ33.1 bk15_0 2).toInt = (sI κ26.1 bk15_0 2).toInt := by rw [(fκ33.1 bk15_0 (by rw [wk15_0]; decide) 2 (by rw [wk15_0]; decide)).1]
          have tk8 : (sI κ33.1 bz11 2).toInt = (sI κ26.1 bz11 2).toInt := by rw [(fκ33.1 bz11 (by rw [hsz11]; decide) 2 (by rw [hsz11]; decide)).1]
          have tk9 : (sI κ33.1 bk62_0 2).toInt = (sI κ26.1 bk62_0 2).toInt := by rw [(fκ33.1 bk62_0 (by rw [wk62_0]; decide) 2 (by rw [wk62_0]; decide)).1]
          have pk10 := (fκ33.1 h (by rw [hs_h]; decide) 10 (by rw [hs_h]; decide)).2.2.trans pk5
          have hx2 := hx.tr x1_ hfr.sl
          have hfr := hfr.trW hx fκ33 (by decide)
          have hs_h := WLe.at (x1_).1 hs_h (by decide)
          have hs_a1 := WLe.at (x1_).1 hs_a1 (by decide)
          have hsz3 := WLe.at (x1_).1 hsz3 (by decide)
          have wk15_0 := WLe.at (x1_).1 wk15_0 (by decide)
          have hsz11 := WLe.at (x1_).1 hsz11 (by decide)
          have wk62_0 := WLe.at (x1_).1 wk62_0 (by decide)
          have hsz19 := WLe.at (x1_).1 hsz19 (by decide)
          have le15 := WLe.tr le15 (x1_).1
          have le62 := WLe.tr le62 (x1_).1
          have hx := hx2
          refine ⟨(hV.mm hs_h (by decide) rfl), ?_⟩
          refine t_X11_doAgain hV h hs_h z19 bz19 ebz19 hsz19  (fun κ35 hV fκ35 pu3 => ?_)
          have tk11 : (sI κ35.1 bz3 2).toInt = (sI κ33.1 bz3 2).toInt := by rw [(fκ35.1 bz3 (by rw [hsz3]; decide) 2 (by rw [hsz3]; decide)).1]
          have tk12 : (sI κ35.1 bk15_0 2).toInt = (sI κ33.1 bk15_0 2).toInt := by rw [(fκ35.1 bk15_0 (by rw [wk15_0]; decide) 2 (by rw [wk15_0]; decide)).1]
          have tk13 : (sI κ35.1 bz11 2).toInt = (sI κ33.1 bz11 2).toInt := by rw [(fκ35.1 bz11 (by rw [hsz11]; decide) 2 (by rw [hsz11]; decide)).1]
          have tk14 : (sI κ35.1 bk62_0 2).toInt = (sI κ33.1 bk62_0 2).toInt := by rw [(fκ35.1 bk62_0 (by rw [wk62_0]; decide) 2 (by rw [wk62_0]; decide)).1]
          have pk15 := (fκ35.1 h (by rw [hs_h]; decide) 10 (by rw [hs_h]; decide)).2.2.trans pk10
          have hfr := hfr.trW hx fκ35 (by decide)
          exact kk W κ35 hx (hV.dn (by omega)) hfr trivial
        · refine ⟨(hV.mm hs_h (by decide) rfl), ?_⟩
          refine t_X11_isOpened hV h hs_h z19 bz19 ebz19 hsz19  (fun z38 pz38 => ?_)
          have rg_z38 := i_range z38
          refine ⟨fun c4 => ?_, fun c4 => ?_⟩
          · (try dsimp only)
            refine ⟨(hV.mm hs_h (by decide) rfl), ?_⟩
            refine t_X11_comeToDisk hV h hs_h  (by omega) (fun W κ33 x1_ hV fκ33 pu5 => ?_)
            have hV : CV G E W (c - 0) κ33 := hV.dn (by omega)
            have tk16 : (sI κ33.1 bz3 2).toInt = (sI κ26.1 bz3 2).toInt := by rw [(fκ33.1 bz3 (by rw [hsz3]; decide) 2 (by rw [hsz3]; decide)).1]
            have tk17 : (sI κ33.1 bk15_0 2).toInt = (sI κ26.1 bk15_0 2).toInt := by rw [(fκ33.1 bk15_0 (by rw [wk15_0]; decide) 2 (by rw [wk15_0]; decide)).1]
            have tk18 : (sI κ33.1 bz11 2).toInt = (sI κ26.1 bz11 2).toInt := by rw [(fκ33.1 bz11 (by rw [hsz11]; decide) 2 (by rw [hsz11]; decide)).1]
            have tk19 : (sI κ33.1 bk62_0 2).toInt = (sI κ26.1 bk62_0 2).toInt := by rw [(fκ33.1 bk62_0 (by rw [wk62_0]; decide) 2 (by rw [wk62_0]; decide)).1]
            have pk20 := (fκ33.1 h (by rw [hs_h]; decide) 10 (by rw [hs_h]; decide)).2.2.trans pk5
            have hx2 := hx.tr x1_ hfr.sl
            have hfr := hfr.trW hx fκ33 (by decide)
            have hs_h := WLe.at (x1_).1 hs_h (by decide)
            have hs_a1 := WLe.at (x1_).1 hs_a1 (by decide)
            have hsz3 := WLe.at (x1_).1 hsz3 (by decide)
            have wk15_0 := WLe.at (x1_).1 wk15_0 (by decide)
            have hsz11 := WLe.at (x1_).1 hsz11 (by decide)
            have wk62_0 := WLe.at (x1_).1 wk62_0 (by decide)
            have hsz19 := WLe.at (x1_).1 hsz19 (by decide)
            have le15 := WLe.tr le15 (x1_).1
            have le62 := WLe.tr le62 (x1_).1
            have hx := hx2
            refine ⟨(hV.mm hs_h (by decide) rfl), ?_⟩
            refine t_X11_doAgain hV h hs_h z19 bz19 ebz19 hsz19  (fun κ35 hV fκ35 pu6 => ?_)
            have tk21 : (sI κ35.1 bz3 2).toInt = (sI κ33.1 bz3 2).toInt := by rw [(fκ35.1 bz3 (by rw [hsz3]; decide) 2 (by rw [hsz3]; decide)).1]
            have tk22 : (sI κ35.1 bk15_0 2).toInt = (sI κ33.1 bk15_0 2).toInt := by rw [(fκ35.1 bk15_0 (by rw [wk15_0]; decide) 2 (by rw [wk15_0]; decide)).1]
            have tk23 : (sI κ35.1 bz11 2).toInt = (sI κ33.1 bz11 2).toInt := by rw [(fκ35.1 bz11 (by rw [hsz11]; decide) 2 (by rw [hsz11]; decide)).1]
            have tk24 : (sI κ35.1 bk62_0 2).toInt = (sI κ33.1 bk62_0 2).toInt := by rw [(fκ35.1 bk62_0 (by rw [wk62_0]; decide) 2 (by rw [wk62_0]; decide)).1]
            have pk25 := (fκ35.1 h (by rw [hs_h]; decide) 10 (by rw [hs_h]; decide)).2.2.trans pk20
            have hfr := hfr.trW hx fκ35 (by decide)
            exact kk W κ35 hx (hV.dn (by omega)) hfr trivial
          · refine ⟨bz19, ebz19, (hV.mm hsz19 (by decide) rfl), ?_⟩
            intro z39 ez39
            have vz39 := hV.1.iv hsz19 (by decide) rfl 2 0 1 rfl ez39
            have wz39 : z39.toInt = (sI κ26.1 bz19 2).toInt := by rw [ez39]
            refine jc_dup ?_
            refine ⟨fun c5 => ?_, fun c5 => ?_⟩
            · (try dsimp only)
              refine ⟨(hV.mm hs_h (by decide) rfl), ?_⟩
              refine t_X11_nextChange hV h hs_h 5 z19 bz19 ebz19 hsz19  (by omega) (fun z46 W κ45 x1_ hV fκ45 pz46 => ?_)
              have hV : CV G E W (c - 0) κ45 := hV.dn (by omega)
              have tk26 : (sI κ45.1 bz3 2).toInt = (sI κ26.1 bz3 2).toInt := by rw [(fκ45.1 bz3 (by rw [hsz3]; decide) 2 (by rw [hsz3]; decide)).1]
              have tk27 : (sI κ45.1 bk15_0 2).toInt = (sI κ26.1 bk15_0 2).toInt := by rw [(fκ45.1 bk15_0 (by rw [wk15_0]; decide) 2 (by rw [wk15_0]; decide)).1]
              have tk28 : (sI κ45.1 bz11 2).toInt = (sI κ26.1 bz11 2).toInt := by rw [(fκ45.1 bz11 (by rw [hsz11]; decide) 2 (by rw [hsz11]; decide)).1]
              have tk29 : (sI κ45.1 bk62_0 2).toInt = (sI κ26.1 bk62_0 2).toInt := by rw [(fκ45.1 bk62_0 (by rw [wk62_0]; decide) 2 (by rw [wk62_0]; decide)).1]
              have pk30 := (fκ45.1 h (by rw [hs_h]; decide) 10 (by rw [hs_h]; decide)).2.2.trans pk5
              have hx2 := hx.tr x1_ hfr.sl
              have hfr := hfr.trW hx fκ45 (by decide)
              have hs_h := WLe.at (x1_).1 hs_h (by decide)
              have hs_a1 := WLe.at (x1_).1 hs_a1 (by decide)
              have hsz3 := WLe.at (x1_).1 hsz3 (by decide)
              have wk15_0 := WLe.at (x1_).1 wk15_0 (by decide)
              have hsz11 := WLe.at (x1_).1 hsz11 (by decide)
              have wk62_0 := WLe.at (x1_).1 wk62_0 (by decide)
              have hsz19 := WLe.at (x1_).1 hsz19 (by decide)
              have le15 := WLe.tr le15 (x1_).1
              have le62 := WLe.tr le62 (x1_).1
              have hx := hx2
              obtain ⟨bz46, ebz46, hsz46⟩ := pz46
              refine ⟨(hV.mm hs_h (by decide) rfl), ?_⟩
              refine t_X11_done hV h hs_h z46 bz46 ebz46 hsz46  (by omega) (fun W κ47 x1_ hV fκ47 pu8 => ?_)
              have hV : CV G E W (c - 0) κ47 := hV.dn (by omega)
              have tk31 : (sI κ47.1 bz3 2).toInt = (sI κ45.1 bz3 2).toInt := by rw [(fκ47.1 bz3 (by rw [hsz3]; decide) 2 (by rw [hsz3]; decide)).1]
              have tk32 : (sI κ47.1 bk15_0 2).toInt = (sI κ45.1 bk15_0 2).toInt := by rw [(fκ47.1 bk15_0 (by rw [wk15_0]; decide) 2 (by rw [wk15_0]; decide)).1]
              have tk33 : (sI κ47.1 bz11 2).toInt = (sI κ45.1 bz11 2).toInt := by rw [(fκ47.1 bz11 (by rw [hsz11]; decide) 2 (by rw [hsz11]; decide)).1]
              have tk34 : (sI κ47.1 bk62_0 2).toInt = (sI κ45.1 bk62_0 2).toInt := by rw [(fκ47.1 bk62_0 (by rw [wk62_0]; decide) 2 (by rw [wk62_0]; decide)).1]
              have pk35 := (fκ47.1 h (by rw [hs_h]; decide) 10 (by rw [hs_h]; decide)).2.2.trans pk30
              have hx2 := hx.tr x1_ hfr.sl
              have hfr := hfr.trW hx fκ47 (by decide)
              have hs_h := WLe.at (x1_).1 hs_h (by decide)
              have hs_a1 := WLe.at (x1_).1 hs_a1 (by decide)
              have hsz3 := WLe.at (x1_).1 hsz3 (by decide)
              have wk15_0 := WLe.at (x1_).1 wk15_0 (by decide)
              have hsz11 := WLe.at (x1_).1 hsz11 (by decide)
              have wk62_0 := WLe.at (x1_).1 wk62_0 (by decide)
              have hsz19 := WLe.at (x1_).1 hsz19 (by decide)
              have hsz46 := WLe.at (x1_).1 hsz46 (by decide)
              have le15 := WLe.tr le15 (x1_).1
              have le62 := WLe.tr le62 (x1_).1
              have hx := hx2
              (try dsimp only)
              refine ⟨(hV.mm hs_h (by decide) rfl), ?_⟩
              refine t_X11_comeToDisk hV h hs_h  (by omega) (fun W κ33 x1_ hV fκ33 pu9 => ?_)
              have hV : CV G E W (c - 0) κ33 := hV.dn (by omega)
              have tk36 : (sI κ33.1 bz3 2).toInt = (sI κ47.1 bz3 2).toInt := by rw [(fκ33.1 bz3 (by rw [hsz3]; decide) 2 (by rw [hsz3]; decide)).1]
              have tk37 : (sI κ33.1 bk15_0 2).toInt = (sI κ47.1 bk15_0 2).toInt := by rw [(fκ33.1 bk15_0 (by rw [wk15_0]; decide) 2 (by rw [wk15_0]; decide)).1]
              have tk38 : (sI κ33.1 bz11 2).toInt = (sI κ47.1 bz11 2).toInt := by rw [(fκ33.1 bz11 (by rw [hsz11]; decide) 2 (by rw [hsz11]; decide)).1]
              have tk39 : (sI κ33.1 bk62_0 2).toInt = (sI κ47.1 bk62_0 2).toInt := by rw [(fκ33.1 bk62_0 (by rw [wk62_0]; decide) 2 (by rw [wk62_0]; decide)).1]
              have pk40 := (fκ33.1 h (by rw [hs_h]; decide) 10 (by rw [hs_h]; decide)).2.2.trans pk35
              have hx2 := hx.tr x1_ hfr.sl
              have hfr := hfr.trW hx fκ33 (by decide)
              have hs_h := WLe.at (x1_).1 hs_h (by decide)
              have hs_a1 := WLe.at (x1_).1 hs_a1 (by decide)
              have hsz3 := WLe.at (x1_).1 hsz3 (by decide)
              have wk15_0 := WLe.at (x1_).1 wk15_0 (by decide)
              have hsz11 := WLe.at (x1_).1 hsz11 (by decide)
              have wk62_0 := WLe.at (x1_).1 wk62_0 (by decide)
              have hsz19 := WLe.at (x1_).1 hsz19 (by decide)
              have hsz46 := WLe.at (x1_).1 hsz46 (by decide)
              have le15 := WLe.tr le15 (x1_).1
              have le62 := WLe.tr le62 (x1_).1
              have hx := hx2
              refine ⟨(hV.mm hs_h (by decide) rfl), ?_⟩
              refine t_X11_doAgain hV h hs_h z19 bz19 ebz19 hsz19  (fun κ35 hV fκ35 pu10 => ?_)
              have tk41 : (sI κ35.1 bz3 2).toInt = (sI κ33.1 bz3 2).toInt := by rw [(fκ35.1 bz3 (by rw [hsz3]; decide) 2 (by rw [hsz3]; decide)).1]
              have tk42 : (sI κ35.1 bk15_0 2).toInt = (sI κ33.1 bk15_0 2).toInt := by rw [(fκ35.1 bk15_0 (by rw [wk15_0]; decide) 2 (by rw [wk15_0]; decide)).1]
              have tk43 : (sI κ35.1 bz11 2).toInt = (sI κ33.1 bz11 2).toInt := by rw [(fκ35.1 bz11 (by rw [hsz11]; decide) 2 (by rw [hsz11]; decide)).1]
              have tk44 : (sI κ35.1 bk62_0 2).toInt = (sI κ33.1 bk62_0 2).toInt := by rw [(fκ35.1 bk62_0 (by rw [wk62_0]; decide) 2 (by rw [wk62_0]; decide)).1]
              have pk45 := (fκ35.1 h (by rw [hs_h]; decide) 10 (by rw [hs_h]; decide)).2.2.trans pk40
              have hfr := hfr.trW hx fκ35 (by decide)
              exact kk W κ35 hx (hV.dn (by omega)) hfr trivial
            · refine ⟨(hV.mm hs_h (by decide) rfl), ?_⟩
              intro z49 ez49
              obtain ⟨bz49, ebz49, hsz49⟩ := hV.1.nn hs_h (by decide) rfl 3 rfl (by decide)
              have ebz49 := ez49.trans ebz49
              refine ⟨bz19, ebz19, (hV.mm hsz19 (by decide) rfl), ?_⟩
              intro z50 ez50
              have vz50 := hV.1.iv hsz19 (by decide) rfl 0 (-2147483648) 2147483647 rfl ez50
              have wz50 : z50.toInt = (sI κ26.1 bz19 0).toInt := by rw [ez50]
              refine ⟨bz49, ebz49, (hV.mm hsz49 (by decide) rfl), ?_⟩
              refine t_X9_holdsAny hV bz49 hsz49 z50  (fun z52 pz52 => ?_)
              have rg_z52 := i_range z52
              refine ⟨fun c6 => ?_, fun c6 => ?_⟩
              · (try dsimp only)
                refine ⟨(hV.mm hs_h (by decide) rfl), ?_⟩
                refine t_X11_nextChange hV h hs_h 5 z19 bz19 ebz19 hsz19  (by omega) (fun z46 W κ45 x1_ hV fκ45 pz46 => ?_)
                have hV : CV G E W (c - 0) κ45 := hV.dn (by omega)
                have tk46 : (sI κ45.1 bz3 2).toInt = (sI κ26.1 bz3 2).toInt := by rw [(fκ45.1 bz3 (by rw [hsz3]; decide) 2 (by rw [hsz3]; decide)).1]
                have tk47 : (sI κ45.1 bk15_0 2).toInt = (sI κ26.1 bk15_0 2).toInt := by rw [(fκ45.1 bk15_0 (by rw [wk15_0]; decide) 2 (by rw [wk15_0]; decide)).1]
                have tk48 : (sI κ45.1 bz11 2).toInt = (sI κ26.1 bz11 2).toInt := by rw [(fκ45.1 bz11 (by rw [hsz11]; decide) 2 (by rw [hsz11]; decide)).1]
                have tk49 : (sI κ45.1 bk62_0 2).toInt = (sI κ26.1 bk62_0 2).toInt := by rw [(fκ45.1 bk62_0 (by rw [wk62_0]; decide) 2 (by rw [wk62_0]; decide)).1]
                have pk50 := (fκ45.1 h (by rw [hs_h]; decide) 10 (by rw [hs_h]; decide)).2.2.trans pk5
                have hx2 := hx.tr x1_ hfr.sl
                have hfr := hfr.trW hx fκ45 (by decide)
                have hs_h := WLe.at (x1_).1 hs_h (by decide)
                have hs_a1 := WLe.at (x1_).1 hs_a1 (by decide)
                have hsz3 := WLe.at (x1_).1 hsz3 (by decide)
                have wk15_0 := WLe.at (x1_).1 wk15_0 (by decide)
                have hsz11 := WLe.at (x1_).1 hsz11 (by decide)
                have wk62_0 := WLe.at (x1_).1 wk62_0 (by decide)
                have hsz19 := WLe.at (x1_).1 hsz19 (by decide)
                have hsz49 := WLe.at (x1_).1 hsz49 (by decide)
                have le15 := WLe.tr le15 (x1_).1
                have le62 := WLe.tr le62 (x1_).1
                have hx := hx2
                obtain ⟨bz46, ebz46, hsz46⟩ := pz46
                refine ⟨(hV.mm hs_h (by decide) rfl), ?_⟩
                refine t_X11_done hV h hs_h z46 bz46 ebz46 hsz46  (by omega) (fun W κ47 x1_ hV fκ47 pu13 => ?_)
                have hV : CV G E W (c - 0) κ47 := hV.dn (by omega)
                have tk51 : (sI κ47.1 bz3 2).toInt = (sI κ45.1 bz3 2).toInt := by rw [(fκ47.1 bz3 (by rw [hsz3]; decide) 2 (by rw [hsz3]; decide)).1]
                have tk52 : (sI κ47.1 bk15_0 2).toInt = (sI κ45.1 bk15_0 2).toInt := by rw [(fκ47.1 bk15_0 (by rw [wk15_0]; decide) 2 (by rw [wk15_0]; decide)).1]
                have tk53 : (sI κ47.1 bz11 2).toInt = (sI κ45.1 bz11 2).toInt := by rw [(fκ47.1 bz11 (by rw [hsz11]; decide) 2 (by rw [hsz11]; decide)).1]
                have tk54 : (sI κ47.1 bk62_0 2).toInt = (sI κ45.1 bk62_0 2).toInt := by rw [(fκ47.1 bk62_0 (by rw [wk62_0]; decide) 2 (by rw [wk62_0]; decide)).1]
                have pk55 := (fκ47.1 h (by rw [hs_h]; decide) 10 (by rw [hs_h]; decide)).2.2.trans pk50
                have hx2 := hx.tr x1_ hfr.sl
                have hfr := hfr.trW hx fκ47 (by decide)
                have hs_h := WLe.at (x1_).1 hs_h (by decide)
                have hs_a1 := WLe.at (x1_).1 hs_a1 (by decide)
                have hsz3 := WLe.at (x1_).1 hsz3 (by decide)
                have wk15_0 := WLe.at (x1_).1 wk15_0 (by decide)
                have hsz11 := WLe.at (x1_).1 hsz11 (by decide)
                have wk62_0 := WLe.at (x1_).1 wk62_0 (by decide)
                have hsz19 := WLe.at (x1_).1 hsz19 (by decide)
                have hsz49 := WLe.at (x1_).1 hsz49 (by decide)
                have hsz46 := WLe.at (x1_).1 hsz46 (by decide)
                have le15 := WLe.tr le15 (x1_).1
                have le62 := WLe.tr le62 (x1_).1
                have hx := hx2
                (try dsimp only)
                refine ⟨(hV.mm hs_h (by decide) rfl), ?_⟩
                refine t_X11_comeToDisk hV h hs_h  (by omega) (fun W κ33 x1_ hV fκ33 pu14 => ?_)
                have hV : CV G E W (c - 0) κ33 := hV.dn (by omega)
                have tk56 : (sI κ33.1 bz3 2).toInt = (sI κ47.1 bz3 2).toInt := by rw [(fκ33.1 bz3 (by rw [hsz3]; decide) 2 (by rw [hsz3]; decide)).1]
                have tk57 : (sI κ33.1 bk15_0 2).toInt = (sI κ47.1 bk15_0 2).toInt := by rw [(fκ33.1 bk15_0 (by rw [wk15_0]; decide) 2 (by rw [wk15_0]; decide)).1]
                have tk58 : (sI κ33.1 bz11 2).toInt = (sI κ47.1 bz11 2).toInt := by rw [(fκ33.1 bz11 (by rw [hsz11]; decide) 2 (by rw [hsz11]; decide)).1]
                have tk59 : (sI κ33.1 bk62_0 2).toInt = (sI κ47.1 bk62_0 2).toInt := by rw [(fκ33.1 bk62_0 (by rw [wk62_0]; decide) 2 (by rw [wk62_0]; decide)).1]
                have pk60 := (fκ33.1 h (by rw [hs_h]; decide) 10 (by rw [hs_h]; decide)).2.2.trans pk55
                have hx2 := hx.tr x1_ hfr.sl
                have hfr := hfr.trW hx fκ33 (by decide)
                have hs_h := WLe.at (x1_).1 hs_h (by decide)
                have hs_a1 := WLe.at (x1_).1 hs_a1 (by decide)
                have hsz3 := WLe.at (x1_).1 hsz3 (by decide)
                have wk15_0 := WLe.at (x1_).1 wk15_0 (by decide)
                have hsz11 := WLe.at (x1_).1 hsz11 (by decide)
                have wk62_0 := WLe.at (x1_).1 wk62_0 (by decide)
                have hsz19 := WLe.at (x1_).1 hsz19 (by decide)
                have hsz49 := WLe.at (x1_).1 hsz49 (by decide)
                have hsz46 := WLe.at (x1_).1 hsz46 (by decide)
                have le15 := WLe.tr le15 (x1_).1
                have le62 := WLe.tr le62 (x1_).1
                have hx := hx2
                refine ⟨(hV.mm hs_h (by decide) rfl), ?_⟩
                refine t_X11_doAgain hV h hs_h z19 bz19 ebz19 hsz19  (fun κ35 hV fκ35 pu15 => ?_)
                have tk61 : (sI κ35.1 bz3 2).toInt = (sI κ33.1 bz3 2).toInt := by rw [(fκ35.1 bz3 (by rw [hsz3]; decide) 2 (by rw [hsz3]; decide)).1]
                have tk62 : (sI κ35.1 bk15_0 2).toInt = (sI κ33.1 bk15_0 2).toInt := by rw [(fκ35.1 bk15_0 (by rw [wk15_0]; decide) 2 (by rw [wk15_0]; decide)).1]
                have tk63 : (sI κ35.1 bz11 2).toInt = (sI κ33.1 bz11 2).toInt := by rw [(fκ35.1 bz11 (by rw [hsz11]; decide) 2 (by rw [hsz11]; decide)).1]
                have tk64 : (sI κ35.1 bk62_0 2).toInt = (sI κ33.1 bk62_0 2).toInt := by rw [(fκ35.1 bk62_0 (by rw [wk62_0]; decide) 2 (by rw [wk62_0]; decide)).1]
                have pk65 := (fκ35.1 h (by rw [hs_h]; decide) 10 (by rw [hs_h]; decide)).2.2.trans pk60
                have hfr := hfr.trW hx fκ35 (by decide)
                exact kk W κ35 hx (hV.dn (by omega)) hfr trivial
              · refine ⟨by omega, bz19, ebz19, (hV.mm hsz19 (by decide) rfl), ?_⟩
                intro κ53 eκ53
                have rv_κ53 := i_range 0
                have hV := hV.uI (k := 3) (v := 0) hsz19 (Or.inl rfl) (Or.inr (by decide)) (Or.inl (by decide)) (fun _ => (by omega : (0 : Int) ≤ (0 : Int32).toInt ∧ (0 : Int32).toInt ≤ 1)) eκ53
                have uκ53 : (sI κ53.1 bz19 3).toInt = (0 : Int32).toInt := by rw [eκ53]; exact congrArg Int32.toInt u2_same
                have f1κ53 : CF [(5, 3)] W κ26 κ53 := CF.rf.uI (k := 3) hsz19 (by decide) (show ((5, 3) : Nat × Nat) ∈ ([(5, 3)] : List (Nat × Nat)) by simp) eκ53
                have tk66 : (sI κ53.1 bz3 2).toInt = (sI κ26.1 bz3 2).toInt := by rw [(f1κ53.1 bz3 (by rw [hsz3]; decide) 2 (by rw [hsz3]; decide)).1]
                have tk67 : (sI κ53.1 bk15_0 2).toInt = (sI κ26.1 bk15_0 2).toInt := by rw [(f1κ53.1 bk15_0 (by rw [wk15_0]; decide) 2 (by rw [wk15_0]; decide)).1]
                have tk68 : (sI κ53.1 bz11 2).toInt = (sI κ26.1 bz11 2).toInt := by rw [(f1κ53.1 bz11 (by rw [hsz11]; decide) 2 (by rw [hsz11]; decide)).1]
                have tk69 : (sI κ53.1 bk62_0 2).toInt = (sI κ26.1 bk62_0 2).toInt := by rw [(f1κ53.1 bk62_0 (by rw [wk62_0]; decide) 2 (by rw [wk62_0]; decide)).1]
                have pk70 := (f1κ53.1 h (by rw [hs_h]; decide) 10 (by rw [hs_h]; decide)).2.2.trans pk5
                have hfr := hfr.trW hx f1κ53 (by decide)
                (try dsimp only)
                refine ⟨(hV.mm hs_h (by decide) rfl), ?_⟩
                refine t_X11_comeToDisk hV h hs_h  (by omega) (fun W κ33 x1_ hV fκ33 pu16 => ?_)
                have hV : CV G E W (c - 0) κ33 := hV.dn (by omega)
                have tk71 : (sI κ33.1 bz3 2).toInt = (sI κ53.1 bz3 2).toInt := by rw [(fκ33.1 bz3 (by rw [hsz3]; decide) 2 (by rw [hsz3]; decide)).1]
                have tk72 : (sI κ33.1 bk15_0 2).toInt = (sI κ53.1 bk15_0 2).toInt := by rw [(fκ33.1 bk15_0 (by rw [wk15_0]; decide) 2 (by rw [wk15_0]; decide)).1]
                have tk73 : (sI κ33.1 bz11 2).toInt = (sI κ53.1 bz11 2).toInt := by rw [(fκ33.1 bz11 (by rw [hsz11]; decide) 2 (by rw [hsz11]; decide)).1]
                have tk74 : (sI κ33.1 bk62_0 2).toInt = (sI κ53.1 bk62_0 2).toInt := by rw [(fκ33.1 bk62_0 (by rw [wk62_0]; decide) 2 (by rw [wk62_0]; decide)).1]
                have pk75 := (fκ33.1 h (by rw [hs_h]; decide) 10 (by rw [hs_h]; decide)).2.2.trans pk70
                have hx2 := hx.tr x1_ hfr.sl
                have hfr := hfr.trW hx fκ33 (by decide)
                have hs_h := WLe.at (x1_).1 hs_h (by decide)
                have hs_a1 := WLe.at (x1_).1 hs_a1 (by decide)
                have hsz3 := WLe.at (x1_).1 hsz3 (by decide)
                have wk15_0 := WLe.at (x1_).1 wk15_0 (by decide)
                have hsz11 := WLe.at (x1_).1 hsz11 (by decide)
                have wk62_0 := WLe.at (x1_).1 wk62_0 (by decide)
                have hsz19 := WLe.at (x1_).1 hsz19 (by decide)
                have hsz49 := WLe.at (x1_).1 hsz49 (by decide)
                have le15 := WLe.tr le15 (x1_).1
                have le62 := WLe.tr le62 (x1_).1
                have hx := hx2
                refine ⟨(hV.mm hs_h (by decide) rfl), ?_⟩
                refine t_X11_doAgain hV h hs_h z19 bz19 ebz19 hsz19  (fun κ35 hV fκ35 pu17 => ?_)
                have tk76 : (sI κ35.1 bz3 2).toInt = (sI κ33.1 bz3 2).toInt := by rw [(fκ35.1 bz3 (by rw [hsz3]; decide) 2 (by rw [hsz3]; decide)).1]
                have tk77 : (sI κ35.1 bk15_0 2).toInt = (sI κ33.1 bk15_0 2).toInt := by rw [(fκ35.1 bk15_0 (by rw [wk15_0]; decide) 2 (by rw [wk15_0]; decide)).1]
                have tk78 : (sI κ35.1 bz11 2).toInt = (sI κ33.1 bz11 2).toInt := by rw [(fκ35.1 bz11 (by rw [hsz11]; decide) 2 (by rw [hsz11]; decide)).1]
                have tk79 : (sI κ35.1 bk62_0 2).toInt = (sI κ33.1 bk62_0 2).toInt := by rw [(fκ35.1 bk62_0 (by rw [wk62_0]; decide) 2 (by rw [wk62_0]; decide)).1]
                have pk80 := (fκ35.1 h (by rw [hs_h]; decide) 10 (by rw [hs_h]; decide)).2.2.trans pk75
                have hfr := hfr.trW hx fκ35 (by decide)
                exact kk W κ35 hx (hV.dn (by omega)) hfr trivial
      · skip
        refine jc_dup ?_
        refine ⟨fun c7 => ?_, fun c7 => ?_⟩
        · (try dsimp only)
          exact hK23 1 κ16 ⟨rfl, (by (try dsimp only); omega)⟩
        · refine ⟨b_a1, e_a1, (hV.mm hs_a1 (by decide) rfl), ?_⟩
          intro z59 ez59
          have vz59 := hV.1.iv hs_a1 (by decide) rfl 5 0 1 rfl ez59
          have wz59 : z59.toInt = (sI κ16.1 b_a1 5).toInt := by rw [ez59]
          have w0z59 : z59.toInt = (sI κ.1 b_a1 5).toInt := by rw [ez59, (hfr.1 b_a1 (by rw [hs0_a1]; decide) 5 (by rw [hs0_a1]; decide)).1]
          refine ⟨fun c8 => ?_, fun c8 => ?_⟩
          · exact hK23 0 κ16 ⟨rfl, (by (try dsimp only); omega)⟩
          · (try dsimp only)
            exact hK23 1 κ16 ⟨rfl, (by (try dsimp only); omega)⟩
    · refine ⟨(hV.mm hs_h (by decide) rfl), ?_⟩
      intro z60 ez60
      have ebz60 : z60 = some bk62_0 := ez60.trans ek62_0
      refine ⟨bk62_0, ebz60, (hV.mm wk62_0 (by decide) rfl), ?_⟩
      refine t_Jx4a65c_get_915e3 hV bk62_0 wk62_0 (by decide) x15 (by omega) (fun z62 pz62 => ?_)
      obtain ⟨bz62, ebz62, hsz62⟩ := pz62
      have hsz62 : W.1 bz62 = 10 := hsz62
      refine jc_dup ?_
      refine ⟨fun c9 => ?_, fun c9 => ?_⟩
      · (try dsimp only)
        intro z68 ez68
        try have hz68 := i_add ez68 (by omega) (by omega)
        have rg_z68 := i_range z68
        exact hK17 z68 κ16 ⟨W, le62, hx, hV.dn (by (try dsimp only); omega), hfr, (by (try dsimp only); omega), ⟨bk62_0, ek62_0, wk62_0, (by (try dsimp only); omega)⟩⟩ (by (try dsimp only); omega)
      · refine ⟨(hV.mm hs_h (by decide) rfl), ?_⟩
        intro z69 ez69
        have ebz69 : z69 = some bk62_0 := ez69.trans ek62_0
        refine ⟨bk62_0, ebz69, (hV.mm wk62_0 (by decide) rfl), ?_⟩
        refine t_Jx4a65c_remove_915e3 hV bk62_0 wk62_0 (by decide) x15 (by omega) (fun z71 κ70 hV fκ70 pz71 => ?_)
        have tk81 : (sI κ70.1 bz3 2).toInt = (sI κ16.1 bz3 2).toInt := by rw [(fκ70.1 bz3 (by rw [hsz3]; decide) 2 (by rw [hsz3]; decide)).1]
        have tk82 : (sI κ70.1 bk15_0 2).toInt = (sI κ16.1 bk15_0 2).toInt := by rw [(fκ70.1 bk15_0 (by rw [wk15_0]; decide) 2 (by rw [wk15_0]; decide)).1]
        have pk83 := (fκ70.1 h (by rw [hs_h]; decide) 10 (by rw [hs_h]; decide)).2.2.trans ek62_0
        have hfr := hfr.trW hx fκ70 (by decide)
        (try dsimp only)
        intro z68 ez68
        try have hz68 := i_add ez68 (by omega) (by omega)
        have rg_z68 := i_range z68
        exact hK17 z68 κ70 ⟨W, le62, hx, hV.dn (by (try dsimp only); omega), hfr, (by (try dsimp only); omega), ⟨bk62_0, pk83, wk62_0, (by (try dsimp only); omega)⟩⟩ (by (try dsimp only); omega)
  · refine ⟨(hV.mm hs_h (by decide) rfl), ?_⟩
    intro z72 ez72
    have ebz72 : z72 = some bk15_0 := ez72.trans ek15_0
    refine ⟨bk15_0, ebz72, (hV.mm wk15_0 (by decide) rfl), ?_⟩
    refine t_Jx4a65c_get_915e3 hV bk15_0 wk15_0 (by decide) x7 (by omega) (fun z74 pz74 => ?_)
    obtain ⟨bz74, ebz74, hsz74⟩ := pz74
    have hsz74 : W.1 bz74 = 9 := hsz74
    refine ⟨Or.inr ⟨bz74, ebz74, (hV.mm hsz74 (by decide) rfl)⟩, ?_⟩
    refine ⟨bz74, ebz74, (hV.mm hsz74 (by decide) rfl), ?_⟩
    intro z75 ez75
    obtain ⟨bz75, ebz75, hsz75⟩ := hV.1.nn hsz74 (by decide) rfl 0 rfl (by decide)
    have ebz75 := ez75.trans ebz75
    refine jc_dup ?_
    refine ⟨fun c10 => ?_, fun c10 => ?_⟩
    · (try dsimp only)
      intro z81 ez81
      try have hz81 := i_add ez81 (by omega) (by omega)
      have rg_z81 := i_range z81
      exact hK9 z81 κ8 ⟨W, le15, hx, hV.dn (by (try dsimp only); omega), hfr, (by (try dsimp only); omega), ⟨bk15_0, ek15_0, wk15_0, (by (try dsimp only); omega)⟩⟩ (by (try dsimp only); omega)
    · refine ⟨(hV.mm hs_h (by decide) rfl), ?_⟩
      intro z82 ez82
      have ebz82 : z82 = some bk15_0 := ez82.trans ek15_0
      refine ⟨bk15_0, ebz82, (hV.mm wk15_0 (by decide) rfl), ?_⟩
      refine t_Jx4a65c_remove_915e3 hV bk15_0 wk15_0 (by decide) x7 (by omega) (fun z84 κ83 hV fκ83 pz84 => ?_)
      have pk84 := (fκ83.1 h (by rw [hs_h]; decide) 11 (by rw [hs_h]; decide)).2.2.trans ek15_0
      have hfr := hfr.trW hx fκ83 (by decide)
      (try dsimp only)
      intro z81 ez81
      try have hz81 := i_add ez81 (by omega) (by omega)
      have rg_z81 := i_range z81
      exact hK9 z81 κ83 ⟨W, le15, hx, hV.dn (by (try dsimp only); omega), hfr, (by (try dsimp only); omega), ⟨bk15_0, pk84, wk15_0, (by (try dsimp only); omega)⟩⟩ (by (try dsimp only); omega)
set_option maxRecDepth 100000 in
set_option maxHeartbeats 4000000 in
theorem t_X11_settle {G : GE} {E : CE} {W0 : CW} {c : Int} {κ : CS} (hV : CV G E W0 c κ) (h : Nat) (hs_h : W0.1 h = 1)  (hc : 153 ≤ c) {post : CS → Prop} (kk : ∀ (W' : CW) (κ' : CS), WX W0 W' κ → CV G E W' (c - 0) κ' → CF [(1, 6), (10, 10), (10, 3), (10, 4), (10, 5), (10, 7), (10, 8), (10, 9), (13, 10), (13, 11), (13, 12), (20, 0), (30, 0), (33, 0), (4, 0), (4, 1), (4, 10), (4, 11), (4, 12), (4, 13), (4, 2), (4, 3), (4, 5), (4, 6), (4, 7), (4, 8), (4, 9), (40, 0), (40, 2), (41, 0), (41, 2), (42, 0), (42, 1), (42, 2), (43, 0), (43, 1), (43, 2), (44, 0), (44, 2), (5, 1), (5, 10), (5, 11), (5, 12), (5, 13), (5, 2), (5, 3), (5, 4), (5, 6), (5, 7), (5, 8), (5, 9), (50, 0), (51, 0), (52, 0), (53, 0), (54, 0), (6, 1), (61, 0), (61, 1), (63, 0), (63, 1), (8, 15), (8, 18), (8, 19)] W0 κ κ' → (True) → post κ') : F_X11_settle G h post κ := by
  have hs0_h := hs_h
  suffices H_ : ∀ W : CW, WX W0 W κ → CV G E W (c - 0) κ → (W.1 h = 1) → F_X11_settle G h post κ from H_ W0 WX.rf (hV.dn (by omega)) hs_h
  intro W hx hV hs_h
  unfold F_X11_settle
  have hfr : CF [(1, 6), (10, 10), (10, 3), (10, 4), (10, 5), (10, 7), (10, 8), (10, 9), (13, 10), (13, 11), (13, 12), (20, 0), (30, 0), (33, 0), (4, 0), (4, 1), (4, 10), (4, 11), (4, 12), (4, 13), (4, 2), (4, 3), (4, 5), (4, 6), (4, 7), (4, 8), (4, 9), (40, 0), (40, 2), (41, 0), (41, 2), (42, 0), (42, 1), (42, 2), (43, 0), (43, 1), (43, 2), (44, 0), (44, 2), (5, 1), (5, 10), (5, 11), (5, 12), (5, 13), (5, 2), (5, 3), (5, 4), (5, 6), (5, 7), (5, 8), (5, 9), (50, 0), (51, 0), (52, 0), (53, 0), (54, 0), (6, 1), (61, 0), (61, 1), (63, 0), (63, 1), (8, 15), (8, 18), (8, 19)] W0 κ κ := CF.rf
  have k_0 : (0 : Int32).toInt = 0 := rfl
  have k_1 : (1 : Int32).toInt = 1 := rfl
  have k_259 : (259 : Int32).toInt = 259 := rfl
  have k_1000000 : (1000000 : Int32).toInt = 1000000 := rfl
  have kl_1 : (1 : Int64).toInt = 1 := rfl
  refine lc_in (fun (x : Int32) (κ' : CS) => ∃ W' : CW, WLe W W' ∧ WX W0 W' κ ∧ CV G E W' (c - 0) κ' ∧ CF [(1, 6), (10, 10), (10, 3), (10, 4), (10, 5), (10, 7), (10, 8), (10, 9), (13, 10), (13, 11), (13, 12), (20, 0), (30, 0), (33, 0), (4, 0), (4, 1), (4, 10), (4, 11), (4, 12), (4, 13), (4, 2), (4, 3), (4, 5), (4, 6), (4, 7), (4, 8), (4, 9), (40, 0), (40, 2), (41, 0), (41, 2), (42, 0), (42, 1), (42, 2), (43, 0), (43, 1), (43, 2), (44, 0), (44, 2), (5, 1), (5, 10), (5, 11), (5, 12), (5, 13), (5, 2), (5, 3), (5, 4), (5, 6), (5, 7), (5, 8), (5, 9), (50, 0), (51, 0), (52, 0), (53, 0), (54, 0), (6, 1), (61, 0), (61, 1), (63, 0), (63, 1), (8, 15), (8, 18), (8, 19)] W0 κ κ' ∧ (((0 ≤ x.toInt)))) (fun (x : Int32) (κ' : CS) => (2147483647 - x.toInt).toNat) ⟨W, WLe.rf, hx, hV.dn (by (try dsimp only); omega), hfr, (by (try dsimp only); omega)⟩ (fun x1 κ2 hJ K3 hK3 => ?_)
  obtain ⟨W, le2, hx, hV, hfr, hv⟩ := hJ
  have hs_h := WLe.at le2 hs_h (by decide)
  (try dsimp only at hv)
  have rg_x1 := i_range x1
  refine ⟨fun c1 => ?_, fun c1 => ?_⟩
  · exact kk W κ2 hx (hV.dn (by omega)) hfr trivial
  · refine ⟨(hV.mm hs_h (by decide) rfl), ?_⟩
    refine t_X11_wakeLocks hV h hs_h  (by omega) (fun W κ5 x1_ hV fκ5 pu1 => ?_)
    have hV : CV G E W (c - 0) κ5 := hV.dn (by omega)
    have hx2 := hx.tr x1_ hfr.sl
    have hfr := hfr.trW hx fκ5 (by decide)
    have hs_h := WLe.at (x1_).1 hs_h (by decide)
    have le2 := WLe.tr le2 (x1_).1
    have hx := hx2
    refine ⟨(hV.mm hs_h (by decide) rfl), ?_⟩
    refine t2_X11_nextAgain hV h hs_h (fun z8 κ7 hV fκ7 pz8 => ?_)
    have hfr := hfr.trW hx fκ7 (by decide)
    have nn_z8 := pz8.1
    refine jc_dup ?_
    refine ⟨fun c2 => ?_, fun c2 => ?_⟩
    · obtain ⟨bn2, ebn2, hsn2⟩ := nn_z8.resolve_left c2
      (try dsimp only)
      refine jc_dup ?_
      refine ⟨fun c3 => ?_, fun c3 => ?_⟩
      · exact absurd (ebn2.symm.trans c3) (fun e => by cases e)
      · refine ⟨(hV.mm hs_h (by decide) rfl), ?_⟩
        intro z22 ez22
        obtain ⟨bz22, ebz22, hsz22⟩ := hV.1.nn hs_h (by decide) rfl 16 rfl (by decide)
        have ebz22 := ez22.trans ebz22
        have hw7 := pz8.2 bn2 ebn2
        have hh7 := hs_h
        refine ⟨(hV.mm hs_h (by decide) rfl), ?_⟩
        refine t_X11_tryOpen hV h hs_h z8 bn2 ebn2 hsn2 z22 bz22 ebz22 hsz22  (by omega) (fun z24 W κ23 x1_ hV fκ23 pz24 => ?_)
        have hV : CV G E W (c - 153) κ23 := hV.dn (by omega)
        have hx2 := hx.tr x1_ hfr.sl
        have hfr := hfr.trW hx fκ23 (by decide)
        have hs_h := WLe.at (x1_).1 hs_h (by decide)
        have hsn2 := WLe.at (x1_).1 hsn2 (by decide)
        have hsz22 := WLe.at (x1_).1 hsz22 (by decide)
        have le2 := WLe.tr le2 (x1_).1
        have hx := hx2
        have rg_z24 := i_range z24
        have hw8 := HW.fr fκ23 x1_.1 hh7 (by decide) (by decide) (by decide) (by decide) hw7
        refine jc_dup ?_
        refine ⟨fun c4 => ?_, fun c4 => ?_⟩
        · have hV : CV G E W (c - 0) κ23 := (pz24 (by omega)).dn (by omega)
          (try dsimp only)
          (try dsimp only)
          intro z19 ez19
          try have hz19 := i_add ez19 (by omega) (by omega)
          have rg_z19 := i_range z19
          exact hK3 z19 κ23 ⟨W, le2, hx, hV.dn (by (try dsimp only); omega), hfr, (by (try dsimp only); omega)⟩ (by (try dsimp only); omega)
        · refine ⟨(hV.mm hs_h (by decide) rfl), ?_⟩
          refine t2_X11_stopWaiting hV h hs_h z8 bn2 ebn2 hw8 (fun κ30 hV fκ30 => ?_)
          have hV : CV G E W (c - (-247)) κ30 := hV.dn (by omega)
          have hfr := hfr.trW hx fκ30 (by decide)
          refine ⟨(hV.mm hs_h (by decide) rfl), ?_⟩
          refine t_X11_sendLater hV h hs_h z8 bn2 ebn2 hsn2 z24  (by omega) (fun W κ32 x1_ hV fκ32 pu4 => ?_)
          have hV : CV G E W (c - (-247)) κ32 := hV.dn (by omega)
          have hx2 := hx.tr x1_ hfr.sl
          have hfr := hfr.trW hx fκ32 (by decide)
          have hs_h := WLe.at (x1_).1 hs_h (by decide)
          have hsn2 := WLe.at (x1_).1 hsn2 (by decide)
          have hsz22 := WLe.at (x1_).1 hsz22 (by decide)
          have le2 := WLe.tr le2 (x1_).1
          have hx := hx2
          (try dsimp only)
          (try dsimp only)
          intro z19 ez19
          try have hz19 := i_add ez19 (by omega) (by omega)
          have rg_z19 := i_range z19
          exact hK3 z19 κ32 ⟨W, le2, hx, hV.dn (by (try dsimp only); omega), hfr, (by (try dsimp only); omega)⟩ (by (try dsimp only); omega)
    · refine ⟨(hV.mm hs_h (by decide) rfl), ?_⟩
      refine t_X11_nextClosing hV h hs_h  (fun z35 κ34 hV fκ34 pz35 => ?_)
      have hfr := hfr.trW hx fκ34 (by decide)
      (try dsimp only)
      refine jc_dup ?_
      refine ⟨fun c5 => ?_, fun c5 => ?_⟩
      · refine ⟨fun c6 => ?_, fun c6 => ?_⟩
        · exact kk W κ34 hx (hV.dn (by omega)) hfr trivial
        · obtain ⟨bn6, ebn6, hsn6⟩ := pz35.resolve_left c6
          refine ⟨(hV.mm hs_h (by decide) rfl), ?_⟩
          refine t_X11_closeOpen hV h hs_h z35 bn6 ebn6 hsn6  (by omega) (fun W κ20 x1_ hV fκ20 pu7 => ?_)
          have hV : CV G E W (c - 0) κ20 := hV.dn (by omega)
          have hx2 := hx.tr x1_ hfr.sl
          have hfr := hfr.trW hx fκ20 (by decide)
          have hs_h := WLe.at (x1_).1 hs_h (by decide)
          have hsn6 := WLe.at (x1_).1 hsn6 (by decide)
          have le2 := WLe.tr le2 (x1_).1
          have hx := hx2
          (try dsimp only)
          intro z19 ez19
          try have hz19 := i_add ez19 (by omega) (by omega)
          have rg_z19 := i_range z19
          exact hK3 z19 κ20 ⟨W, le2, hx, hV.dn (by (try dsimp only); omega), hfr, (by (try dsimp only); omega)⟩ (by (try dsimp only); omega)
      · exact absurd c2 c5
set_option maxRecDepth 100000 in
set_option maxHeartbeats 4000000 in
theorem t_X11_hang {G : GE} {E : CE} {W0 : CW} {c : Int} {κ : CS} (hV : CV G E W0 c κ) (h : Nat) (hs_h : W0.1 h = 1) (a1 : Int32)  (hc : 153 ≤ c) {post : Int32 → CS → Prop} (kk : ∀ (r : Int32) (W' : CW) (κ' : CS), WX W0 W' κ → CV G E W' (c - 0) κ' → CF [(1, 6), (10, 10), (10, 3), (10, 4), (10, 5), (10, 7), (10, 8), (10, 9), (11, 4), (13, 10), (13, 11), (13, 12), (20, 0), (3, 0), (30, 0), (33, 0), (4, 0), (4, 1), (4, 10), (4, 11), (4, 12), (4, 13), (4, 2), (4, 3), (4, 5), (4, 6), (4, 7), (4, 8), (4, 9), (40, 0), (40, 2), (41, 0), (41, 2), (42, 0), (42, 1), (42, 2), (43, 0), (43, 1), (43, 2), (44, 0), (44, 2), (5, 1), (5, 10), (5, 11), (5, 12), (5, 13), (5, 2), (5, 3), (5, 4), (5, 6), (5, 7), (5, 8), (5, 9), (50, 0), (51, 0), (52, 0), (53, 0), (54, 0), (6, 1), (61, 0), (61, 1), (63, 0), (63, 1), (8, 15), (8, 18), (8, 19)] W0 κ κ' → (0 ≤ r.toInt ∧ r.toInt ≤ 1) → post r κ') : F_X11_hang G h a1 post κ := by
  have hs0_h := hs_h
  suffices H_ : ∀ W : CW, WX W0 W κ → CV G E W (c - 0) κ → (W.1 h = 1) → F_X11_hang G h a1 post κ from H_ W0 WX.rf (hV.dn (by omega)) hs_h
  intro W hx hV hs_h
  unfold F_X11_hang
  have hfr : CF [(1, 6), (10, 10), (10, 3), (10, 4), (10, 5), (10, 7), (10, 8), (10, 9), (11, 4), (13, 10), (13, 11), (13, 12), (20, 0), (3, 0), (30, 0), (33, 0), (4, 0), (4, 1), (4, 10), (4, 11), (4, 12), (4, 13), (4, 2), (4, 3), (4, 5), (4, 6), (4, 7), (4, 8), (4, 9), (40, 0), (40, 2), (41, 0), (41, 2), (42, 0), (42, 1), (42, 2), (43, 0), (43, 1), (43, 2), (44, 0), (44, 2), (5, 1), (5, 10), (5, 11), (5, 12), (5, 13), (5, 2), (5, 3), (5, 4), (5, 6), (5, 7), (5, 8), (5, 9), (50, 0), (51, 0), (52, 0), (53, 0), (54, 0), (6, 1), (61, 0), (61, 1), (63, 0), (63, 1), (8, 15), (8, 18), (8, 19)] W0 κ κ := CF.rf
  have k_0 : (0 : Int32).toInt = 0 := rfl
  have k_1 : (1 : Int32).toInt = 1 := rfl
  have kl_0 : (0 : Int64).toInt = 0 := rfl
  have kl_1 : (1 : Int64).toInt = 1 := rfl
  have rg_a1 := i_range a1
  refine ⟨(hV.mm hs_h (by decide) rfl), ?_⟩
  refine t_X11_connection hV h hs_h a1  (fun z2 pz2 => ?_)
  refine jc_dup ?_
  refine ⟨fun c1 => ?_, fun c1 => ?_⟩
  · (try dsimp only)
    refine ⟨by omega, ?_⟩
    exact kk 0 W κ hx (hV.dn (by omega)) hfr (by omega)
  · obtain ⟨bn2, ebn2, hsn2⟩ := pz2.resolve_left c1
    refine ⟨bn2, ebn2, (hV.mm hsn2 (by decide) rfl), ?_⟩
    intro z8 ez8
    have vz8 := hV.1.iv hsn2 (by decide) rfl 0 0 1 rfl ez8
    have wz8 : z8.toInt = (sI κ.1 bn2 0).toInt := by rw [ez8]
    refine ⟨fun c2 => ?_, fun c2 => ?_⟩
    · refine ⟨(hV.mm hs_h (by decide) rfl), ?_⟩
      refine t_X11_shutOff hV h hs_h z2 bn2 ebn2 hsn2  (fun κ9 hV fκ9 pu3 => ?_)
      have hfr := hfr.trW hx fκ9 (by decide)
      refine ⟨(hV.mm hs_h (by decide) rfl), ?_⟩
      refine t_X11_settle hV h hs_h  (by omega) (fun W κ11 x1_ hV fκ11 pu4 => ?_)
      have hV : CV G E W (c - 0) κ11 := hV.dn (by omega)
      have hx2 := hx.tr x1_ hfr.sl
      have hfr := hfr.trW hx fκ11 (by decide)
      have hs_h := WLe.at (x1_).1 hs_h (by decide)
      have hsn2 := WLe.at (x1_).1 hsn2 (by decide)
      have hx := hx2
      refine ⟨by omega, ?_⟩
      exact kk 1 W κ11 hx (hV.dn (by omega)) hfr (by omega)
    · (try dsimp only)
      refine ⟨by omega, ?_⟩
      exact kk 0 W κ hx (hV.dn (by omega)) hfr (by omega)
set_option maxRecDepth 100000 in
set_option maxHeartbeats 4000000 in
theorem t_X11_tick {G : GE} {E : CE} {W0 : CW} {c : Int} {κ : CS} (hV : CV G E W0 c κ) (h : Nat) (hs_h : W0.1 h = 1) (a1 : Int32)  (hc : 153 ≤ c) {post : Int32 → CS → Prop} (kk : ∀ (r : Int32) (W' : CW) (κ' : CS), WX W0 W' κ → CV G E W' (c - 0) κ' → CF [(1, 6), (1, 7), (10, 10), (10, 3), (10, 4), (10, 5), (10, 7), (10, 8), (10, 9), (13, 10), (13, 11), (13, 12), (20, 0), (30, 0), (33, 0), (4, 0), (4, 1), (4, 10), (4, 11), (4, 12), (4, 13), (4, 2), (4, 3), (4, 5), (4, 6), (4, 7), (4, 8), (4, 9), (40, 0), (40, 2), (41, 0), (41, 2), (42, 0), (42, 1), (42, 2), (43, 0), (43, 1), (43, 2), (44, 0), (44, 2), (5, 1), (5, 10), (5, 11), (5, 12), (5, 13), (5, 2), (5, 3), (5, 4), (5, 6), (5, 7), (5, 8), (5, 9), (50, 0), (51, 0), (52, 0), (53, 0), (54, 0), (6, 1), (61, 0), (61, 1), (63, 0), (63, 1), (8, 15), (8, 18), (8, 19)] W0 κ κ' → ((0 ≤ a1.toInt ∧ a1.toInt ≤ 1000000 ∧ r.toInt = 1) ∨ ((a1.toInt < 0 ∨ 1000000 < a1.toInt) ∧ r.toInt = 0)) → post r κ') : F_X11_tick G h a1 post κ := by
  have hs0_h := hs_h
  suffices H_ : ∀ W : CW, WX W0 W κ → CV G E W (c - 0) κ → (W.1 h = 1) → F_X11_tick G h a1 post κ from H_ W0 WX.rf (hV.dn (by omega)) hs_h
  intro W hx hV hs_h
  unfold F_X11_tick
  have hfr : CF [(1, 6), (1, 7), (10, 10), (10, 3), (10, 4), (10, 5), (10, 7), (10, 8), (10, 9), (13, 10), (13, 11), (13, 12), (20, 0), (30, 0), (33, 0), (4, 0), (4, 1), (4, 10), (4, 11), (4, 12), (4, 13), (4, 2), (4, 3), (4, 5), (4, 6), (4, 7), (4, 8), (4, 9), (40, 0), (40, 2), (41, 0), (41, 2), (42, 0), (42, 1), (42, 2), (43, 0), (43, 1), (43, 2), (44, 0), (44, 2), (5, 1), (5, 10), (5, 11), (5, 12), (5, 13), (5, 2), (5, 3), (5, 4), (5, 6), (5, 7), (5, 8), (5, 9), (50, 0), (51, 0), (52, 0), (53, 0), (54, 0), (6, 1), (61, 0), (61, 1), (63, 0), (63, 1), (8, 15), (8, 18), (8, 19)] W0 κ κ := CF.rf
  have k_0 : (0 : Int32).toInt = 0 := rfl
  have k_1 : (1 : Int32).toInt = 1 := rfl
  have k_1000000 : (1000000 : Int32).toInt = 1000000 := rfl
  have kl_0 : (0 : Int64).toInt = 0 := rfl
  have kl_1 : (1 : Int64).toInt = 1 := rfl
  have kl_35 : (35 : Int64).toInt = 35 := rfl
  have rg_a1 := i_range a1
  refine jc_dup ?_
  refine ⟨fun c1 => ?_, fun c1 => ?_⟩
  · (try dsimp only)
    refine ⟨by omega, ?_⟩
    exact kk 0 W κ hx (hV.dn (by omega)) hfr (by omega)
  · refine ⟨fun c2 => ?_, fun c2 => ?_⟩
    · refine ⟨(hV.mm hs_h (by decide) rfl), ?_⟩
      intro z6 ez6
      have vz6 := l_range z6
      have wz6 : z6.toInt = (sJ κ.1 h 7).toInt := by rw [ez6]
      intro z7 ez7
      have hz7 := i_tol ez7
      have rg_z7 := l_range z7
      intro z8 ez8
      try have hz8 := l_add ez8 (by omega) (by omega)
      have rg_z8 := l_range z8
      refine ⟨(hV.mm hs_h (by decide) rfl), ?_⟩
      intro κ9 eκ9
      have hV := hV.uJ eκ9
      have f1κ9 : CF [(1, 7)] W κ κ9 := CF.rf.uJ (k := 7) hs_h (by decide) (show ((1, 7) : Nat × Nat) ∈ ([(1, 7)] : List (Nat × Nat)) by simp) eκ9
      have hfr := hfr.trW hx f1κ9 (by decide)
      refine lc_in (fun (x : Int32) (κ' : CS) => ∃ W' : CW, WLe W W' ∧ WX W0 W' κ ∧ CV G E W' (c - 0) κ' ∧ CF [(1, 6), (1, 7), (10, 10), (10, 3), (10, 4), (10, 5), (10, 7), (10, 8), (10, 9), (13, 10), (13, 11), (13, 12), (20, 0), (30, 0), (33, 0), (4, 0), (4, 1), (4, 10), (4, 11), (4, 12), (4, 13), (4, 2), (4, 3), (4, 5), (4, 6), (4, 7), (4, 8), (4, 9), (40, 0), (40, 2), (41, 0), (41, 2), (42, 0), (42, 1), (42, 2), (43, 0), (43, 1), (43, 2), (44, 0), (44, 2), (5, 1), (5, 10), (5, 11), (5, 12), (5, 13), (5, 2), (5, 3), (5, 4), (5, 6), (5, 7), (5, 8), (5, 9), (50, 0), (51, 0), (52, 0), (53, 0), (54, 0), (6, 1), (61, 0), (61, 1), (63, 0), (63, 1), (8, 15), (8, 18), (8, 19)] W0 κ κ' ∧ (((0 ≤ x.toInt)))) (fun (x : Int32) (κ' : CS) => (2147483647 - x.toInt).toNat) ⟨W, WLe.rf, hx, hV.dn (by (try dsimp only); omega), hfr, (by (try dsimp only); omega)⟩ (fun x10 κ11 hJ K12 hK12 => ?_)
      obtain ⟨W, le25, hx, hV, hfr, hv⟩ := hJ
      have hs_h := WLe.at le25 hs_h (by decide)
      (try dsimp only at hv)
      have rg_x10 := i_range x10
      refine ⟨(hV.mm hs_h (by decide) rfl), ?_⟩
      intro z14 ez14
      obtain ⟨bz14, ebz14, hsz14⟩ := hV.1.nn hs_h (by decide) rfl 10 rfl (by decide)
      have ebz14 := ez14.trans ebz14
      refine ⟨bz14, ebz14, (hV.mm hsz14 (by decide) rfl), ?_⟩
      refine t_Jx4a65c_size_8abf5 hV bz14 hsz14 (by decide) (fun z16 pz16 => ?_)
      have rg_z16 := i_range z16
      refine ⟨fun c3 => ?_, fun c3 => ?_⟩
      · refine ⟨by omega, ?_⟩
        exact kk 1 W κ11 hx (hV.dn (by omega)) hfr (by omega)
      · refine ⟨(hV.mm hs_h (by decide) rfl), ?_⟩
        intro z17 ez17
        have ebz17 : z17 = some bz14 := (ez17.trans ez14.symm).trans ebz14
        refine ⟨bz14, ebz17, (hV.mm hsz14 (by decide) rfl), ?_⟩
        refine t_Jx4a65c_get_915e3 hV bz14 hsz14 (by decide) x10 (by omega) (fun z19 pz19 => ?_)
        obtain ⟨bz19, ebz19, hsz19⟩ := pz19
        have hsz19 : W.1 bz19 = 10 := hsz19
        refine ⟨Or.inr ⟨bz19, ebz19, (hV.mm hsz19 (by decide) rfl)⟩, ?_⟩
        refine ⟨bz19, ebz19, (hV.mm hsz19 (by decide) rfl), ?_⟩
        intro z20 ez20
        have vz20 := hV.1.iv hsz19 (by decide) rfl 8 0 1 rfl ez20
        have wz20 : z20.toInt = (sI κ11.1 bz19 8).toInt := by rw [ez20]
        refine jc_dup ?_
        refine ⟨fun c4 => ?_, fun c4 => ?_⟩
        · (try dsimp only)
          intro z26 ez26
          try have hz26 := i_add ez26 (by omega) (by omega)
          have rg_z26 := i_range z26
          exact hK12 z26 κ11 ⟨W, le25, hx, hV.dn (by (try dsimp only); omega), hfr, (by (try dsimp only); omega)⟩ (by (try dsimp only); omega)
        · refine ⟨(hV.mm hs_h (by decide) rfl), ?_⟩
          intro z27 ez27
          have vz27 := l_range z27
          have wz27 : z27.toInt = (sJ κ11.1 h 7).toInt := by rw [ez27]
          refine ⟨bz19, ebz19, (hV.mm hsz19 (by decide) rfl), ?_⟩
          intro z28 ez28
          have vz28 := l_range z28
          have wz28 : z28.toInt = (sJ κ11.1 bz19 10).toInt := by rw [ez28]
          intro z29 ez29
          try have hz29 := l_sub ez29 (by omega) (by omega)
          have rg_z29 := l_range z29
          refine ⟨fun c5 => ?_, fun c5 => ?_⟩
          · (try dsimp only)
            intro z26 ez26
            try have hz26 := i_add ez26 (by omega) (by omega)
            have rg_z26 := i_range z26
            exact hK12 z26 κ11 ⟨W, le25, hx, hV.dn (by (try dsimp only); omega), hfr, (by (try dsimp only); omega)⟩ (by (try dsimp only); omega)
          · refine ⟨(hV.mm hs_h (by decide) rfl), ?_⟩
            refine t_X11_endBreak hV h hs_h z19 bz19 ebz19 hsz19 0  (fun κ30 hV fκ30 pu1 => ?_)
            have hfr := hfr.trW hx fκ30 (by decide)
            refine ⟨(hV.mm hs_h (by decide) rfl), ?_⟩
            refine t_X11_settle hV h hs_h  (by omega) (fun W κ32 x1_ hV fκ32 pu2 => ?_)
            have hV : CV G E W (c - 0) κ32 := hV.dn (by omega)
            have hx2 := hx.tr x1_ hfr.sl
            have hfr := hfr.trW hx fκ32 (by decide)
            have hs_h := WLe.at (x1_).1 hs_h (by decide)
            have hsz14 := WLe.at (x1_).1 hsz14 (by decide)
            have hsz19 := WLe.at (x1_).1 hsz19 (by decide)
            have le25 := WLe.tr le25 (x1_).1
            have hx := hx2
            (try dsimp only)
            intro z26 ez26
            try have hz26 := i_add ez26 (by omega) (by omega)
            have rg_z26 := i_range z26
            exact hK12 z26 κ32 ⟨W, le25, hx, hV.dn (by (try dsimp only); omega), hfr, (by (try dsimp only); omega)⟩ (by (try dsimp only); omega)
    · (try dsimp only)
      refine ⟨by omega, ?_⟩
      exact kk 0 W κ hx (hV.dn (by omega)) hfr (by omega)

/-! the class: what is looked up, ways down -/
set_option maxRecDepth 100000 in
set_option maxHeartbeats 4000000 in
theorem t_X11_endFormer {G : GE} {E : CE} {W : CW} {c : Int} {κ : CS} (hV : CV G E W c κ) (h : Nat) (hs_h : W.1 h = 1) (a1 : Option Nat) (b_a1 : Nat) (e_a1 : a1 = some b_a1) (hs_a1 : W.1 b_a1 = 8)  {post : Int32 → CS → Prop} (kk : ∀ (r : Int32) (κ' : CS), CV G E W c κ' → CF [(11, 4), (44, 0), (44, 2), (54, 0)] W κ κ' → (True) → post r κ') : F_X11_endFormer G h a1 post κ := by
  unfold F_X11_endFormer
  have hfr : CF [(11, 4), (44, 0), (44, 2), (54, 0)] W κ κ := CF.rf
  have k_m1073741811 : ((-1073741811) : Int32).toInt = (-1073741811) := rfl
  have k_0 : (0 : Int32).toInt = 0 := rfl
  have k_1 : (1 : Int32).toInt = 1 := rfl
  have k_2 : (2 : Int32).toInt = 2 := rfl
  have k_8 : (8 : Int32).toInt = 8 := rfl
  have k_16 : (16 : Int32).toInt = 16 := rfl
  have k_76 : (76 : Int32).toInt = 76 := rfl
  have k_78 : (78 : Int32).toInt = 78 := rfl
  have k_80 : (80 : Int32).toInt = 80 := rfl
  have kl_m1073741811 : ((-1073741811) : Int64).toInt = (-1073741811) := rfl
  have kl_0 : (0 : Int64).toInt = 0 := rfl
  have kl_1 : (1 : Int64).toInt = 1 := rfl
  have kl_2 : (2 : Int64).toInt = 2 := rfl
  have kl_8 : (8 : Int64).toInt = 8 := rfl
  have kl_33 : (33 : Int64).toInt = 33 := rfl
  have kl_76 : (76 : Int64).toInt = 76 := rfl
  have kl_78 : (78 : Int64).toInt = 78 := rfl
  have kl_80 : (80 : Int64).toInt = 80 := rfl
  have kl_126 : (126 : Int64).toInt = 126 := rfl
  refine ⟨b_a1, e_a1, (hV.mm hs_a1 (by decide) rfl), ?_⟩
  refine t_X0_number hV b_a1 hs_a1 76 2  (fun z2 pz2 => ?_)
  have rg_z2 := l_range z2
  intro z3 ez3
  try have hz3 := l_toi ez3 (by omega) (by omega)
  have rg_z3 := i_range z3
  refine ⟨b_a1, e_a1, (hV.mm hs_a1 (by decide) rfl), ?_⟩
  refine t_X0_number hV b_a1 hs_a1 78 2  (fun z5 pz5 => ?_)
  have rg_z5 := l_range z5
  intro z6 ez6
  try have hz6 := l_toi ez6 (by omega) (by omega)
  have rg_z6 := i_range z6
  refine jc_dup ?_
  refine ⟨fun c1 => ?_, fun c1 => ?_⟩
  · (try dsimp only)
    exact kk (-1073741811) κ hV hfr trivial
  · refine ⟨fun c2 => ?_, fun c2 => ?_⟩
    · refine lc_in (fun (x : Int32) (κ' : CS) => κ = κ' ∧ (((0 ≤ x.toInt)))) (fun (x : Int32) (κ' : CS) => (2147483647 - x.toInt).toNat) ⟨rfl, (by (try dsimp only); omega)⟩ (fun x12 κ13 hJ K14 hK14 => ?_)
      obtain ⟨hsg, hv⟩ := hJ
      subst hsg
      (try dsimp only at hv)
      have rg_x12 := i_range x12
      refine ⟨fun c3 => ?_, fun c3 => ?_⟩
      · refine ⟨b_a1, e_a1, (hV.mm hs_a1 (by decide) rfl), ?_⟩
        refine t_X0_number hV b_a1 hs_a1 80 8  (fun z17 pz17 => ?_)
        have rg_z17 := l_range z17
        refine lc_in (fun (x : Int32) (κ' : CS) => CV G E W c κ' ∧ CF [(11, 4), (44, 0), (44, 2), (54, 0)] W κ κ' ∧ (((0 ≤ x.toInt)))) (fun (x : Int32) (κ' : CS) => (2147483647 - x.toInt).toNat) ⟨hV, hfr, (by (try dsimp only); omega)⟩ (fun x18 κ19 hJ K20 hK20 => ?_)
        obtain ⟨hV, hfr, hv⟩ := hJ
        (try dsimp only at hv)
        have rg_x18 := i_range x18
        refine ⟨(hV.mm hs_h (by decide) rfl), ?_⟩
        intro z22 ez22
        obtain ⟨bz22, ebz22, hsz22⟩ := hV.1.nn hs_h (by decide) rfl 8 rfl (by decide)
        have ebz22 := ez22.trans ebz22
        refine ⟨bz22, ebz22, (hV.mm hsz22 (by decide) rfl), ?_⟩
        refine t_Jx4a65c_size_8abf5 hV bz22 hsz22 (by decide) (fun z24 pz24 => ?_)
        have rg_z24 := i_range z24
        refine ⟨fun c4 => ?_, fun c4 => ?_⟩
        · exact kk 0 κ19 hV hfr trivial
        · refine ⟨(hV.mm hs_h (by decide) rfl), ?_⟩
          intro z25 ez25
          have ebz25 : z25 = some bz22 := (ez25.trans ez22.symm).trans ebz22
          refine ⟨bz22, ebz25, (hV.mm hsz22 (by decide) rfl), ?_⟩
          refine t_Jx4a65c_get_915e3 hV bz22 hsz22 (by decide) x18 (by omega) (fun z27 pz27 => ?_)
          obtain ⟨bz27, ebz27, hsz27⟩ := pz27
          have hsz27 : W.1 bz27 = 11 := hsz27
          refine ⟨Or.inr ⟨bz27, ebz27, (hV.mm hsz27 (by decide) rfl)⟩, ?_⟩
          refine ⟨bz27, ebz27, (hV.mm hsz27 (by decide) rfl), ?_⟩
          intro z28 ez28
          have vz28 := l_range z28
          have wz28 : z28.toInt = (sJ κ19.1 bz27 0).toInt := by rw [ez28]
          refine jc_dup ?_
          refine ⟨fun c5 => ?_, fun c5 => ?_⟩
          · (try dsimp only)
            intro z34 ez34
            try have hz34 := i_add ez34 (by omega) (by omega)
            have rg_z34 := i_range z34
            exact hK20 z34 κ19 ⟨hV, hfr, (by (try dsimp only); omega)⟩ (by (try dsimp only); omega)
          · refine ⟨bz27, ebz27, (hV.mm hsz27 (by decide) rfl), ?_⟩
            refine t_X7_isNamed hV bz27 hsz27 a1 b_a1 e_a1 hs_a1 z3 z6  (fun z36 pz36 => ?_)
            have rg_z36 := i_range z36
            refine ⟨fun c6 => ?_, fun c6 => ?_⟩
            · (try dsimp only)
              intro z34 ez34
              try have hz34 := i_add ez34 (by omega) (by omega)
              have rg_z34 := i_range z34
              exact hK20 z34 κ19 ⟨hV, hfr, (by (try dsimp only); omega)⟩ (by (try dsimp only); omega)
            · refine ⟨by omega, bz27, ebz27, (hV.mm hsz27 (by decide) rfl), ?_⟩
              intro κ37 eκ37
              have rv_κ37 := i_range 1
              have hV := hV.uI (k := 4) (v := 1) hsz27 (Or.inl rfl) (Or.inl (by decide)) (Or.inl (by decide)) (fun _ => (by omega : (0 : Int) ≤ (1 : Int32).toInt ∧ (1 : Int32).toInt ≤ 1)) eκ37
              have hfr := hfr.uI (k := 4) hsz27 (by decide) (show ((11, 4) : Nat × Nat) ∈ ([(11, 4), (44, 0), (44, 2), (54, 0)] : List (Nat × Nat)) by decide) eκ37
              have uκ37 : (sI κ37.1 bz27 4).toInt = (1 : Int32).toInt := by rw [eκ37]; exact congrArg Int32.toInt u2_same
              refine ⟨(hV.mm hs_h (by decide) rfl), ?_⟩
              refine t_X11_giveUp hV h hs_h (none : Option Nat) (Or.inl rfl) z27 (Or.inr ⟨bz27, ebz27, hsz27⟩) (none : Option Nat) (Or.inl rfl)  (fun κ38 hV fκ38 pu5 => ?_)
              have hfr := hfr.tr fκ38 (by decide)
              (try dsimp only)
              intro z34 ez34
              try have hz34 := i_add ez34 (by omega) (by omega)
              have rg_z34 := i_range z34
              exact hK20 z34 κ38 ⟨hV, hfr, (by (try dsimp only); omega)⟩ (by (try dsimp only); omega)
      · intro z40 ez40
        try have hz40 := i_add ez40 (by omega) (by omega)
        have rg_z40 := i_range z40
        refine ⟨b_a1, e_a1, (hV.mm hs_a1 (by decide) rfl), ?_⟩
        refine t_X0_number hV b_a1 hs_a1 z40 1  (fun z42 pz42 => ?_)
        have rg_z42 := l_range z42
        refine jc_dup ?_
        refine ⟨fun c7 => ?_, fun c7 => ?_⟩
        · (try dsimp only)
          exact kk (-1073741811) κ hV hfr trivial
        · refine ⟨fun c8 => ?_, fun c8 => ?_⟩
          · intro z48 ez48
            try have hz48 := i_add ez48 (by omega) (by omega)
            have rg_z48 := i_range z48
            exact hK14 z48 κ ⟨rfl, (by (try dsimp only); omega)⟩ (by (try dsimp only); omega)
          · (try dsimp only)
            exact kk (-1073741811) κ hV hfr trivial
    · (try dsimp only)
      exact kk (-1073741811) κ hV hfr trivial
set_option maxRecDepth 100000 in
set_option maxHeartbeats 4000000 in
theorem t_X11_putEntry {G : GE} {E : CE} {W : CW} {c : Int} {κ : CS} (hV : CV G E W c κ) (h : Nat) (hs_h : W.1 h = 1) (a1 : Int32) (a2 : Int32) (a3 : Option Nat) (b_a3 : Nat) (e_a3 : a3 = some b_a3) (hs_a3 : W.1 b_a3 = 5) (a4 : Option Nat) (n_a4 : Nat) (hq_a4 : BQ G W a4 n_a4) (a5 : Int32)  {post : CS → Prop} (kk : ∀ (κ' : CS), CV G E W c κ' → CF [(20, 0)] W κ κ' → (True) → post κ') : F_X11_putEntry G h a1 a2 a3 a4 a5 post κ := by
  unfold F_X11_putEntry
  have hfr : CF [(20, 0)] W κ κ := CF.rf
  have k_0 : (0 : Int32).toInt = 0 := rfl
  have k_1 : (1 : Int32).toInt = 1 := rfl
  have k_2 : (2 : Int32).toInt = 2 := rfl
  have k_4 : (4 : Int32).toInt = 4 := rfl
  have k_8 : (8 : Int32).toInt = 8 := rfl
  have k_40 : (40 : Int32).toInt = 40 := rfl
  have k_48 : (48 : Int32).toInt = 48 := rfl
  have k_56 : (56 : Int32).toInt = 56 := rfl
  have k_60 : (60 : Int32).toInt = 60 := rfl
  have kl_1 : (1 : Int64).toInt = 1 := rfl
  have kl_2 : (2 : Int64).toInt = 2 := rfl
  have kl_4 : (4 : Int64).toInt = 4 := rfl
  have kl_8 : (8 : Int64).toInt = 8 := rfl
  have kl_40 : (40 : Int64).toInt = 40 := rfl
  have kl_48 : (48 : Int64).toInt = 48 := rfl
  have kl_56 : (56 : Int64).toInt = 56 := rfl
  have kl_60 : (60 : Int64).toInt = 60 := rfl
  have rg_a1 := i_range a1
  have rg_a2 := i_range a2
  have rg_a5 := i_range a5
  intro z1 ez1
  try have hz1 := i_add ez1 (by omega) (by omega)
  have rg_z1 := i_range z1
  refine jc_in (fun (x : Int32) (κ' : CS) => CV G E W c κ' ∧ CF [(20, 0)] W κ κ' ∧ ((True))) (fun x2 κ3 hJ => ?_) (fun K4 hK4 => ?_)
  · obtain ⟨hV, hfr, hv⟩ := hJ
    (try dsimp only at hv)
    have rg_x2 := i_range x2
    refine ⟨(hV.mm hs_h (by decide) rfl), ?_⟩
    intro z7 ez7
    obtain ⟨bz7, ebz7, hsz7⟩ := hV.1.nn hs_h (by decide) rfl 15 rfl (by decide)
    have ebz7 := ez7.trans ebz7
    intro z8 ez8
    try have hz8 := i_mulk 2 rfl ez8 (by omega) (by omega)
    have rg_z8 := i_range z8
    intro z9 ez9
    have hz9 := i_tol ez9
    have rg_z9 := l_range z9
    refine ⟨bz7, ebz7, (hV.mm hsz7 (by decide) rfl), ?_⟩
    refine t_X6_put hV bz7 hsz7 rfl x2 4 z9  (fun κ10 hV fκ10 pu1 => ?_)
    have hfr := hfr.tr fκ10 (by decide)
    refine lc_in (fun (x : Int32) (κ' : CS) => CV G E W c κ' ∧ CF [(20, 0)] W κ κ' ∧ (((0 ≤ x.toInt)))) (fun (x : Int32) (κ' : CS) => (2147483647 - x.toInt).toNat) ⟨hV, hfr, (by (try dsimp only); omega)⟩ (fun x12 κ13 hJ K14 hK14 => ?_)
    obtain ⟨hV, hfr, hv⟩ := hJ
    (try dsimp only at hv)
    have rg_x12 := i_range x12
    refine jc_dup ?_
    refine ⟨fun c1 => ?_, fun c1 => ?_⟩
    · (try dsimp only)
      exact kk κ13 hV hfr trivial
    · refine ⟨n_a4, (hq_a4.al hV), ?_⟩
      intro z21 ez21
      have lnz21 := nI_ln ez21 (hq_a4.le)
      have lmz21 := (hq_a4.le)
      refine ⟨fun c2 => ?_, fun c2 => ?_⟩
      · (try dsimp only)
        exact kk κ13 hV hfr trivial
      · refine ⟨(hV.mm hs_h (by decide) rfl), ?_⟩
        intro z22 ez22
        obtain ⟨bz22, ebz22, hsz22⟩ := hV.1.nn hs_h (by decide) rfl 15 rfl (by decide)
        have ebz22 := ez22.trans ebz22
        intro z23 ez23
        try have hz23 := i_add ez23 (by omega) (by omega)
        have rg_z23 := i_range z23
        intro z24 ez24
        try have hz24 := i_mulk 2 rfl ez24 (by omega) (by omega)
        have rg_z24 := i_range z24
        intro z25 ez25
        try have hz25 := i_add ez25 (by omega) (by omega)
        have rg_z25 := i_range z25
        obtain ⟨fz26, hbz26, hfz26⟩ := hq_a4.ba hV
        refine ⟨fz26, n_a4, hbz26, (by omega), ?_⟩
        intro z26 ez26
        have vz26 : -128 ≤ z26.toInt ∧ z26.toInt ≤ 127 := by rw [ez26]; exact hfz26 _ (by omega)
        intro z27 ez27
        have hz27 := i_tol ez27
        have rg_z27 := l_range z27
        refine ⟨bz22, ebz22, (hV.mm hsz22 (by decide) rfl), ?_⟩
        refine t_X6_put hV bz22 hsz22 rfl z25 2 z27  (fun κ28 hV fκ28 pu2 => ?_)
        have hfr := hfr.tr fκ28 (by decide)
        intro z30 ez30
        try have hz30 := i_add ez30 (by omega) (by omega)
        have rg_z30 := i_range z30
        exact hK14 z30 κ28 ⟨hV, hfr, (by (try dsimp only); omega)⟩ (by (try dsimp only); omega)
  · skip
    refine ⟨fun c3 => ?_, fun c3 => ?_⟩
    · exact hK4 z1 κ ⟨hV, hfr, trivial⟩
    · refine ⟨(hV.mm hs_h (by decide) rfl), ?_⟩
      intro z31 ez31
      obtain ⟨bz31, ebz31, hsz31⟩ := hV.1.nn hs_h (by decide) rfl 15 rfl (by decide)
      have ebz31 := ez31.trans ebz31
      intro z32 ez32
      try have hz32 := i_add ez32 (by omega) (by omega)
      have rg_z32 := i_range z32
      refine ⟨b_a3, e_a3, (hV.mm hs_a3 (by decide) rfl), ?_⟩
      refine t_X4_tellTimes hV b_a3 hs_a3 z31 bz31 ebz31 hsz31 rfl z32  (fun κ33 hV fκ33 pu3 => ?_)
      have hfr := hfr.tr fκ33 (by decide)
      refine ⟨(hV.mm hs_h (by decide) rfl), ?_⟩
      intro z35 ez35
      have ebz35 : z35 = some bz31 := (ez35.trans (hfr.1 h (by rw [hs_h]; decide) 15 (by rw [hs_h]; decide)).2.2).trans (ez31.symm.trans ebz31)
      intro z36 ez36
      try have hz36 := i_add ez36 (by omega) (by omega)
      have rg_z36 := i_range z36
      refine ⟨b_a3, e_a3, (hV.mm hs_a3 (by decide) rfl), ?_⟩
      intro z37 ez37
      have vz37 := hV.1.iv hs_a3 (by decide) rfl 12 0 4096 rfl ez37
      have wz37 : z37.toInt = (sI κ33.1 b_a3 12).toInt := by rw [ez37]
      have w0z37 : z37.toInt = (sI κ.1 b_a3 12).toInt := by rw [ez37, (hfr.1 b_a3 (by rw [hs_a3]; decide) 12 (by rw [hs_a3]; decide)).1]
      intro z38 ez38
      have hz38 := i_tol ez38
      have rg_z38 := l_range z38
      refine ⟨bz31, ebz35, (hV.mm hsz31 (by decide) rfl), ?_⟩
      refine t_X6_put hV bz31 hsz31 rfl z36 8 z38  (fun κ39 hV fκ39 pu4 => ?_)
      have hfr := hfr.tr fκ39 (by decide)
      refine ⟨(hV.mm hs_h (by decide) rfl), ?_⟩
      intro z41 ez41
      have ebz41 : z41 = some bz31 := (ez41.trans (hfr.1 h (by rw [hs_h]; decide) 15 (by rw [hs_h]; decide)).2.2).trans (ez31.symm.trans ebz31)
      intro z42 ez42
      try have hz42 := i_add ez42 (by omega) (by omega)
      have rg_z42 := i_range z42
      refine ⟨b_a3, e_a3, (hV.mm hs_a3 (by decide) rfl), ?_⟩
      refine t_X4_room hV b_a3 hs_a3  (fun z44 pz44 => ?_)
      have rg_z44 := i_range z44
      intro z45 ez45
      have hz45 := i_tol ez45
      have rg_z45 := l_range z45
      refine ⟨bz31, ebz41, (hV.mm hsz31 (by decide) rfl), ?_⟩
      refine t_X6_put hV bz31 hsz31 rfl z42 8 z45  (fun κ46 hV fκ46 pu6 => ?_)
      have hfr := hfr.tr fκ46 (by decide)
      refine ⟨(hV.mm hs_h (by decide) rfl), ?_⟩
      intro z48 ez48
      have ebz48 : z48 = some bz31 := (ez48.trans (hfr.1 h (by rw [hs_h]; decide) 15 (by rw [hs_h]; decide)).2.2).trans (ez31.symm.trans ebz31)
      intro z49 ez49
      try have hz49 := i_add ez49 (by omega) (by omega)
      have rg_z49 := i_range z49
      refine ⟨b_a3, e_a3, (hV.mm hs_a3 (by decide) rfl), ?_⟩
      refine t_X4_toldAttributes hV b_a3 hs_a3  (fun z51 pz51 => ?_)
      have rg_z51 := i_range z51
      intro z52 ez52
      have hz52 := i_tol ez52
      have rg_z52 := l_range z52
      refine ⟨bz31, ebz48, (hV.mm hsz31 (by decide) rfl), ?_⟩
      refine t_X6_put hV bz31 hsz31 rfl z49 4 z52  (fun κ53 hV fκ53 pu8 => ?_)
      have hfr := hfr.tr fκ53 (by decide)
      intro z55 ez55
      try have hz55 := i_add ez55 (by omega) (by omega)
      have rg_z55 := i_range z55
      exact hK4 z55 κ53 ⟨hV, hfr, trivial⟩
set_option maxRecDepth 100000 in
set_option maxHeartbeats 4000000 in
theorem t_X11_nextClosing {G : GE} {E : CE} {W : CW} {c : Int} {κ : CS} (hV : CV G E W c κ) (h : Nat) (hs_h : W.1 h = 1)  {post : Option Nat → CS → Prop} (kk : ∀ (r : Option Nat) (κ' : CS), CV G E W c κ' → CF [(40, 0), (40, 2), (41, 0), (41, 2), (50, 0), (51, 0)] W κ κ' → (r = none ∨ ∃ b, r = some b ∧ W.1 b = 10) → post r κ') : F_X11_nextClosing G h post κ := by
  unfold F_X11_nextClosing
  have hfr : CF [(40, 0), (40, 2), (41, 0), (41, 2), (50, 0), (51, 0)] W κ κ := CF.rf
  have k_m1 : ((-1) : Int32).toInt = (-1) := rfl
  have k_0 : (0 : Int32).toInt = 0 := rfl
  have k_1 : (1 : Int32).toInt = 1 := rfl
  have k_1000000 : (1000000 : Int32).toInt = 1000000 := rfl
  have kl_1 : (1 : Int64).toInt = 1 := rfl
  refine lc_in (fun (x : Int32) (κ' : CS) => κ = κ' ∧ (((0 ≤ x.toInt)))) (fun (x : Int32) (κ' : CS) => (2147483647 - x.toInt).toNat) ⟨rfl, (by (try dsimp only); omega)⟩ (fun x1 κ2 hJ K3 hK3 => ?_)
  obtain ⟨hsg, hv⟩ := hJ
  subst hsg
  (try dsimp only at hv)
  have rg_x1 := i_range x1
  refine ⟨(hV.mm hs_h (by decide) rfl), ?_⟩
  intro z5 ez5
  obtain ⟨bz5, ebz5, hsz5⟩ := hV.1.nn hs_h (by decide) rfl 10 rfl (by decide)
  have ebz5 := ez5.trans ebz5
  refine ⟨bz5, ebz5, (hV.mm hsz5 (by decide) rfl), ?_⟩
  refine t_Jx4a65c_size_8abf5 hV bz5 hsz5 (by decide) (fun z7 pz7 => ?_)
  have rg_z7 := i_range z7
  refine ⟨fun c1 => ?_, fun c1 => ?_⟩
  · refine lc_in (fun (x : Int32) (κ' : CS) => CV G E W c κ' ∧ CF [(40, 0), (40, 2), (41, 0), (41, 2), (50, 0), (51, 0)] W κ κ' ∧ (((0 ≤ x.toInt)))) (fun (x : Int32) (κ' : CS) => (2147483647 - x.toInt).toNat) ⟨hV, hfr, (by (try dsimp only); omega)⟩ (fun x8 κ9 hJ K10 hK10 => ?_)
    obtain ⟨hV, hfr, hv⟩ := hJ
    (try dsimp only at hv)
    have rg_x8 := i_range x8
    refine ⟨fun c2 => ?_, fun c2 => ?_⟩
    · exact kk (none : Option Nat) κ9 hV hfr (Or.inl rfl)
    · refine ⟨(hV.mm hs_h (by decide) rfl), ?_⟩
      refine t_X11_firstEndingSession hV h hs_h  (fun z13 pz13 => ?_)
      have rg_z13 := i_range z13
      refine jc_in (fun (x : Option Nat) (κ' : CS) => κ9 = κ' ∧ ((True) ∧ (x = none ∨ ∃ b, x = some b ∧ W.1 b = 11))) (fun x14 κ15 hJ => ?_) (fun K16 hK16 => ?_)
      · obtain ⟨hsg, hv⟩ := hJ
        subst hsg
        (try dsimp only at hv)
        obtain ⟨hv, nq82_0⟩ := hv
        (try dsimp only at hv)
        refine ⟨(hV.mm hs_h (by decide) rfl), ?_⟩
        refine t_X11_firstEndingTree hV h hs_h x14 nq82_0  (fun z20 pz20 => ?_)
        have rg_z20 := i_range z20
        refine jc_dup ?_
        refine ⟨fun c3 => ?_, fun c3 => ?_⟩
        · refine ⟨fun c4 => ?_, fun c4 => ?_⟩
          · exact kk (none : Option Nat) κ9 hV hfr (Or.inl rfl)
          · refine ⟨(hV.mm hs_h (by decide) rfl), ?_⟩
            intro z27 ez27
            obtain ⟨bz27, ebz27, hsz27⟩ := hV.1.nn hs_h (by decide) rfl 8 rfl (by decide)
            have ebz27 := ez27.trans ebz27
            have ix_ := pz13.2 (by omega) bz27 (ez27.symm.trans ebz27)
            have ix_ := pz13.2 (by omega) bz27 (ez27.symm.trans ebz27)
            refine ⟨bz27, ebz27, (hV.mm hsz27 (by decide) rfl), ?_⟩
            refine t_Jx4a65c_remove_915e3 hV bz27 hsz27 (by decide) z13 (by omega) (fun z29 κ28 hV fκ28 pz29 => ?_)
            have hfr := hfr.tr fκ28 (by decide)
            (try dsimp only)
            intro z26 ez26
            try have hz26 := i_add ez26 (by omega) (by omega)
            have rg_z26 := i_range z26
            exact hK10 z26 κ28 ⟨hV, hfr, (by (try dsimp only); omega)⟩ (by (try dsimp only); omega)
        · refine ⟨(hV.mm hs_h (by decide) rfl), ?_⟩
          intro z30 ez30
          obtain ⟨bz30, ebz30, hsz30⟩ := hV.1.nn hs_h (by decide) rfl 9 rfl (by decide)
          have ebz30 := ez30.trans ebz30
          have ix_ := pz20.2 (by omega) bz30 (ez30.symm.trans ebz30)
          have ix_ := pz20.2 (by omega) bz30 (ez30.symm.trans ebz30)
          refine ⟨bz30, ebz30, (hV.mm hsz30 (by decide) rfl), ?_⟩
          refine t_Jx4a65c_get_915e3 hV bz30 hsz30 (by decide) z20 (by omega) (fun z32 pz32 => ?_)
          obtain ⟨bz32, ebz32, hsz32⟩ := pz32
          have hsz32 : W.1 bz32 = 12 := hsz32
          refine ⟨Or.inr ⟨bz32, ebz32, (hV.mm hsz32 (by decide) rfl)⟩, ?_⟩
          refine ⟨(hV.mm hs_h (by decide) rfl), ?_⟩
          refine t_X11_firstOpenOf hV h hs_h z32 bz32 ebz32 hsz32  (fun z34 pz34 => ?_)
          refine ⟨fun c5 => ?_, fun c5 => ?_⟩
          · refine ⟨(hV.mm hs_h (by decide) rfl), ?_⟩
            intro z35 ez35
            have ebz35 : z35 = some bz30 := (ez35.trans ez30.symm).trans ebz30
            have ix_ := pz20.2 (by omega) bz30 (ez35.symm.trans ebz35)
            have ix_ := pz20.2 (by omega) bz30 (ez35.symm.trans ebz35)
            refine ⟨bz30, ebz35, (hV.mm hsz30 (by decide) rfl), ?_⟩
            refine t_Jx4a65c_remove_915e3 hV bz30 hsz30 (by decide) z20 (by omega) (fun z37 κ36 hV fκ36 pz37 => ?_)
            have hfr := hfr.tr fκ36 (by decide)
            (try dsimp only)
            intro z26 ez26
            try have hz26 := i_add ez26 (by omega) (by omega)
            have rg_z26 := i_range z26
            exact hK10 z26 κ36 ⟨hV, hfr, (by (try dsimp only); omega)⟩ (by (try dsimp only); omega)
          · obtain ⟨bn4, ebn4, hsn4⟩ := pz34.resolve_left c5
            exact kk z34 κ9 hV hfr (Or.inr ⟨bn4, ebn4, hsn4⟩)
      · skip
        refine ⟨fun c6 => ?_, fun c6 => ?_⟩
        · refine ⟨(hV.mm hs_h (by decide) rfl), ?_⟩
          intro z38 ez38
          obtain ⟨bz38, ebz38, hsz38⟩ := hV.1.nn hs_h (by decide) rfl 8 rfl (by decide)
          have ebz38 := ez38.trans ebz38
          have ix_ := pz13.2 (by omega) bz38 (ez38.symm.trans ebz38)
          have ix_ := pz13.2 (by omega) bz38 (ez38.symm.trans ebz38)
          refine ⟨bz38, ebz38, (hV.mm hsz38 (by decide) rfl), ?_⟩
          refine t_Jx4a65c_get_915e3 hV bz38 hsz38 (by decide) z13 (by omega) (fun z40 pz40 => ?_)
          obtain ⟨bz40, ebz40, hsz40⟩ := pz40
          have hsz40 : W.1 bz40 = 11 := hsz40
          refine ⟨Or.inr ⟨bz40, ebz40, (hV.mm hsz40 (by decide) rfl)⟩, ?_⟩
          exact hK16 z40 κ9 ⟨rfl, ⟨trivial, (Or.inr ⟨bz40, ebz40, hsz40⟩)⟩⟩
        · exact hK16 (none : Option Nat) κ9 ⟨rfl, ⟨trivial, (Or.inl rfl)⟩⟩
  · refine ⟨(hV.mm hs_h (by decide) rfl), ?_⟩
    intro z41 ez41
    have ebz41 : z41 = some bz5 := (ez41.trans ez5.symm).trans ebz5
    refine ⟨bz5, ebz41, (hV.mm hsz5 (by decide) rfl), ?_⟩
    refine t_Jx4a65c_get_915e3 hV bz5 hsz5 (by decide) x1 (by omega) (fun z43 pz43 => ?_)
    obtain ⟨bz43, ebz43, hsz43⟩ := pz43
    have hsz43 : W.1 bz43 = 10 := hsz43
    refine ⟨Or.inr ⟨bz43, ebz43, (hV.mm hsz43 (by decide) rfl)⟩, ?_⟩
    refine ⟨bz43, ebz43, (hV.mm hsz43 (by decide) rfl), ?_⟩
    intro z44 ez44
    have vz44 := hV.1.iv hsz43 (by decide) rfl 6 0 1 rfl ez44
    have wz44 : z44.toInt = (sI κ.1 bz43 6).toInt := by rw [ez44]
    refine ⟨fun c7 => ?_, fun c7 => ?_⟩
    · intro z45 ez45
      try have hz45 := i_add ez45 (by omega) (by omega)
      have rg_z45 := i_range z45
      exact hK3 z45 κ ⟨rfl, (by (try dsimp only); omega)⟩ (by (try dsimp only); omega)
    · refine ⟨(hV.mm hs_h (by decide) rfl), ?_⟩
      intro z46 ez46
      have ebz46 : z46 = some bz5 := (ez46.trans ez5.symm).trans ebz5
      refine ⟨bz5, ebz46, (hV.mm hsz5 (by decide) rfl), ?_⟩
      refine t_Jx4a65c_get_915e3 hV bz5 hsz5 (by decide) x1 (by omega) (fun z48 pz48 => ?_)
      obtain ⟨bz48, ebz48, hsz48⟩ := pz48
      have hsz48 : W.1 bz48 = 10 := hsz48
      refine ⟨Or.inr ⟨bz48, ebz48, (hV.mm hsz48 (by decide) rfl)⟩, ?_⟩
      exact kk z48 κ hV hfr (Or.inr ⟨bz48, ebz48, hsz48⟩)
set_option maxRecDepth 100000 in
set_option maxHeartbeats 4000000 in
theorem t_X11_walk {G : GE} {E : CE} {W : CW} {c : Int} {κ : CS} (hV : CV G E W c κ) (h : Nat) (hs_h : W.1 h = 1) (a1 : Option Nat) (b_a1 : Nat) (e_a1 : a1 = some b_a1) (hs_a1 : W.1 b_a1 = 13) (a2 : Option Nat) (b_a2 : Nat) (e_a2 : a2 = some b_a2) (hs_a2 : W.1 b_a2 = 5)  {post : Int32 → CS → Prop} (kk : ∀ (r : Int32) (κ' : CS), CV G E W c κ' → CF [(13, 10), (13, 11), (13, 12)] W κ κ' → ((0 ≤ r.toInt ∧ r.toInt ≤ 1) ∧ (r.toInt ≠ 0 → ∃ b, sP κ'.1 b_a1 10 = some b ∧ W.1 b = 5)) → post r κ') : F_X11_walk G h a1 a2 post κ := by
  unfold F_X11_walk
  have hfr : CF [(13, 10), (13, 11), (13, 12)] W κ κ := CF.rf
  have k_0 : (0 : Int32).toInt = 0 := rfl
  have k_1 : (1 : Int32).toInt = 1 := rfl
  have k_92 : (92 : Int32).toInt = 92 := rfl
  have kl_0 : (0 : Int64).toInt = 0 := rfl
  have kl_1 : (1 : Int64).toInt = 1 := rfl
  refine ⟨b_a1, e_a1, (hV.mm hs_a1 (by decide) rfl), ?_⟩
  intro z1 ez1
  have vz1 := hV.1.iv hs_a1 (by decide) rfl 9 (-2147483648) 2147483647 rfl ez1
  have wz1 : z1.toInt = (sI κ.1 b_a1 9).toInt := by rw [ez1]
  refine jc_in (fun (x : Option Nat) (κ' : CS) => κ = κ' ∧ ((True) ∧ (x = none ∨ ∃ b, x = some b ∧ W.1 b = 5))) (fun x2 κ3 hJ => ?_) (fun K4 hK4 => ?_)
  · obtain ⟨hsg, hv⟩ := hJ
    subst hsg
    (try dsimp only at hv)
    obtain ⟨hv, nq18_0⟩ := hv
    (try dsimp only at hv)
    refine ⟨b_a1, e_a1, (hV.mm hs_a1 (by decide) rfl), ?_⟩
    intro κ7 eκ7
    have hV := hV.uP (k := 11) (v := x2) hs_a1 rfl (Or.inl (by decide)) (by decide) (by decide) (fun _ => (by rcases nq18_0 with e | ⟨b, e, g⟩; exact Or.inr (Or.inl ⟨rfl, e⟩); exact Or.inr (Or.inr (Or.inr ⟨b, e, g⟩)))) eκ7
    have hfr := hfr.uP (k := 11) hs_a1 (by decide) (show ((13, 11) : Nat × Nat) ∈ ([(13, 10), (13, 11), (13, 12)] : List (Nat × Nat)) by decide) eκ7
    refine ⟨b_a1, e_a1, (hV.mm hs_a1 (by decide) rfl), ?_⟩
    intro κ8 eκ8
    have hV := hV.uP (k := 10) (v := a2) hs_a1 rfl (Or.inl (by decide)) (by decide) (by decide) (fun _ => (Or.inr (Or.inr (Or.inr ⟨b_a2, e_a2, hs_a2⟩)))) eκ8
    have hfr := hfr.uP (k := 10) hs_a1 (by decide) (show ((13, 10) : Nat × Nat) ∈ ([(13, 10), (13, 11), (13, 12)] : List (Nat × Nat)) by decide) eκ8
    refine ⟨b_a1, e_a1, (hV.mm hs_a1 (by decide) rfl), ?_⟩
    intro κ9 eκ9
    have rv_κ9 := i_range 0
    have hV := hV.uI (k := 12) (v := 0) hs_a1 (Or.inl rfl) (Or.inl (by decide)) (Or.inl (by decide)) (fun _ => (by omega : (-2147483648 : Int) ≤ (0 : Int32).toInt ∧ (0 : Int32).toInt ≤ 2147483647)) eκ9
    have hfr := hfr.uI (k := 12) hs_a1 (by decide) (show ((13, 12) : Nat × Nat) ∈ ([(13, 10), (13, 11), (13, 12)] : List (Nat × Nat)) by decide) eκ9
    have uκ9 : (sI κ9.1 b_a1 12).toInt = (0 : Int32).toInt := by rw [eκ9]; exact congrArg Int32.toInt u2_same
    refine lc_in (fun (x : Int32 × Int32 × Option Nat) (κ' : CS) => κ9 = κ' ∧ (((0 ≤ x.1.toInt)) ∧ (∃ b, x.2.2 = some b ∧ W.1 b = 5))) (fun (x : Int32 × Int32 × Option Nat) (κ' : CS) => (2147483647 - x.1.toInt).toNat) ⟨rfl, ⟨(by (try dsimp only); omega), ⟨b_a2, e_a2, hs_a2⟩⟩⟩ (fun x10 κ11 hJ K12 hK12 => ?_)
    obtain ⟨hsg, hv⟩ := hJ
    subst hsg
    (try dsimp only at hv)
    obtain ⟨hv, nq34_2⟩ := hv
    (try dsimp only at hv)
    obtain ⟨bq34_2, ebq34_2, hsq34_2⟩ := nq34_2
    have rg_x10_1 := i_range x10.1
    have rg_x10_2_1 := i_range x10.2.1
    refine ⟨b_a1, e_a1, (hV.mm hs_a1 (by decide) rfl), ?_⟩
    intro z14 ez14
    have vz14 := hV.1.iv hs_a1 (by decide) rfl 9 (-2147483648) 2147483647 rfl ez14
    have wz14 : z14.toInt = (sI κ9.1 b_a1 9).toInt := by rw [ez14]
    have w0z14 : z14.toInt = (sI κ.1 b_a1 9).toInt := by rw [ez14, (hfr.1 b_a1 (by rw [hs_a1]; decide) 9 (by rw [hs_a1]; decide)).1]
    refine ⟨fun c1 => ?_, fun c1 => ?_⟩
    · refine ⟨b_a1, e_a1, (hV.mm hs_a1 (by decide) rfl), ?_⟩
      intro z15 ez15
      have vz15 := hV.1.iv hs_a1 (by decide) rfl 9 (-2147483648) 2147483647 rfl ez15
      have wz15 : z15.toInt = (sI κ9.1 b_a1 9).toInt := by rw [ez15]
      have w0z15 : z15.toInt = (sI κ.1 b_a1 9).toInt := by rw [ez15, (hfr.1 b_a1 (by rw [hs_a1]; decide) 9 (by rw [hs_a1]; decide)).1]
      refine jc_dup ?_
      refine ⟨fun c2 => ?_, fun c2 => ?_⟩
      · (try dsimp only)
        refine ⟨by omega, ?_⟩
        exact kk 1 κ9 hV hfr ⟨by omega, fun _ => ⟨b_a2, by rw [eκ9]; show sP κ8.1 b_a1 10 = _; rw [eκ8]; exact u2_same.trans e_a2, hs_a2⟩⟩
      · refine ⟨b_a1, e_a1, (hV.mm hs_a1 (by decide) rfl), ?_⟩
        intro κ21 eκ21
        have hV := hV.uP (k := 10) (v := x10.2.2) hs_a1 rfl (Or.inl (by decide)) (by decide) (by decide) (fun _ => (Or.inr (Or.inr (Or.inr ⟨bq34_2, ebq34_2, hsq34_2⟩)))) eκ21
        have hfr := hfr.uP (k := 10) hs_a1 (by decide) (show ((13, 10) : Nat × Nat) ∈ ([(13, 10), (13, 11), (13, 12)] : List (Nat × Nat)) by decide) eκ21
        refine ⟨b_a1, e_a1, (hV.mm hs_a1 (by decide) rfl), ?_⟩
        intro κ22 eκ22
        have rv_κ22 := i_range x10.2.1
        have hV := hV.uI (k := 12) (v := x10.2.1) hs_a1 (Or.inl rfl) (Or.inl (by decide)) (Or.inl (by decide)) (fun _ => (by omega : (-2147483648 : Int) ≤ (x10.2.1 : Int32).toInt ∧ (x10.2.1 : Int32).toInt ≤ 2147483647)) eκ22
        have hfr := hfr.uI (k := 12) hs_a1 (by decide) (show ((13, 12) : Nat × Nat) ∈ ([(13, 10), (13, 11), (13, 12)] : List (Nat × Nat)) by decide) eκ22
        have uκ22 : (sI κ22.1 b_a1 12).toInt = (x10.2.1 : Int32).toInt := by rw [eκ22]; exact congrArg Int32.toInt u2_same
        refine ⟨(hV.mm hs_h (by decide) rfl), ?_⟩
        intro z23 ez23
        obtain ⟨bz23, ebz23, hsz23⟩ := hV.1.nn hs_h (by decide) rfl 3 rfl (by decide)
        have ebz23 := ez23.trans ebz23
        refine ⟨bq34_2, ebq34_2, (hV.mm hsq34_2 (by decide) rfl), ?_⟩
        intro z24 ez24
        have vz24 := hV.1.iv hsq34_2 (by decide) rfl 0 (-2147483648) 2147483647 rfl ez24
        have wz24 : z24.toInt = (sI κ22.1 bq34_2 0).toInt := by rw [ez24]
        have w0z24 : z24.toInt = (sI κ.1 bq34_2 0).toInt := by rw [ez24, (hfr.1 bq34_2 (by rw [hsq34_2]; decide) 0 (by rw [hsq34_2]; decide)).1]
        refine ⟨b_a1, e_a1, (hV.mm hs_a1 (by decide) rfl), ?_⟩
        intro z25 ez25
        have vz25 := hV.1.iv hs_a1 (by decide) rfl 9 (-2147483648) 2147483647 rfl ez25
        have wz25 : z25.toInt = (sI κ22.1 b_a1 9).toInt := by rw [ez25]
        have w0z25 : z25.toInt = (sI κ.1 b_a1 9).toInt := by rw [ez25, (hfr.1 b_a1 (by rw [hs_a1]; decide) 9 (by rw [hs_a1]; decide)).1]
        refine ⟨bz23, ebz23, (hV.mm hsz23 (by decide) rfl), ?_⟩
        refine t_X9_child hV bz23 hsz23 z24 a1 b_a1 e_a1 hs_a1 x10.2.1 z25  (fun z27 pz27 => ?_)
        refine ⟨b_a1, e_a1, (hV.mm hs_a1 (by decide) rfl), ?_⟩
        intro κ28 eκ28
        have hV := hV.uP (k := 11) (v := z27) hs_a1 rfl (Or.inl (by decide)) (by decide) (by decide) (fun _ => (by rcases pz27 with e | ⟨b, e, g⟩; exact Or.inr (Or.inl ⟨rfl, e⟩); exact Or.inr (Or.inr (Or.inr ⟨b, e, g⟩)))) eκ28
        have hfr := hfr.uP (k := 11) hs_a1 (by decide) (show ((13, 11) : Nat × Nat) ∈ ([(13, 10), (13, 11), (13, 12)] : List (Nat × Nat)) by decide) eκ28
        (try dsimp only)
        refine ⟨by omega, ?_⟩
        exact kk 1 κ28 hV hfr ⟨by omega, fun _ => ⟨bq34_2, by rw [eκ28]; show u2 _ _ _ _ _ _ = _; rw [u2_pl (by decide), eκ22]; show sP κ21.1 b_a1 10 = _; rw [eκ21]; exact u2_same.trans ebq34_2, hsq34_2⟩⟩
    · refine ⟨b_a1, e_a1, (hV.mm hs_a1 (by decide) rfl), ?_⟩
      refine t_X10_unit hV b_a1 hs_a1 x10.1  (fun z30 pz30 => ?_)
      have rg_z30 := i_range z30
      refine jc_dup ?_
      refine ⟨fun c3 => ?_, fun c3 => ?_⟩
      · (try dsimp only)
        intro z36 ez36
        try have hz36 := i_add ez36 (by omega) (by omega)
        have rg_z36 := i_range z36
        exact hK12 (z36, x10.2.1, x10.2.2) κ9 ⟨rfl, ⟨(by (try dsimp only); omega), ⟨bq34_2, ebq34_2, hsq34_2⟩⟩⟩ (by (try dsimp only); omega)
      · refine ⟨(hV.mm hs_h (by decide) rfl), ?_⟩
        intro z37 ez37
        obtain ⟨bz37, ebz37, hsz37⟩ := hV.1.nn hs_h (by decide) rfl 3 rfl (by decide)
        have ebz37 := ez37.trans ebz37
        refine ⟨bq34_2, ebq34_2, (hV.mm hsq34_2 (by decide) rfl), ?_⟩
        intro z38 ez38
        have vz38 := hV.1.iv hsq34_2 (by decide) rfl 0 (-2147483648) 2147483647 rfl ez38
        have wz38 : z38.toInt = (sI κ9.1 bq34_2 0).toInt := by rw [ez38]
        have w0z38 : z38.toInt = (sI κ.1 bq34_2 0).toInt := by rw [ez38, (hfr.1 bq34_2 (by rw [hsq34_2]; decide) 0 (by rw [hsq34_2]; decide)).1]
        refine ⟨bz37, ebz37, (hV.mm hsz37 (by decide) rfl), ?_⟩
        refine t_X9_child hV bz37 hsz37 z38 a1 b_a1 e_a1 hs_a1 x10.2.1 x10.1  (fun z40 pz40 => ?_)
        refine jc_dup ?_
        refine ⟨fun c4 => ?_, fun c4 => ?_⟩
        · (try dsimp only)
          refine ⟨by omega, ?_⟩
          exact kk 0 κ9 hV hfr ⟨by omega, fun q => by exfalso; omega⟩
        · obtain ⟨bn4, ebn4, hsn4⟩ := pz40.resolve_left c4
          refine ⟨bn4, ebn4, (hV.mm hsn4 (by decide) rfl), ?_⟩
          intro z46 ez46
          have vz46 := hV.1.iv hsn4 (by decide) rfl 2 0 1 rfl ez46
          have wz46 : z46.toInt = (sI κ9.1 bn4 2).toInt := by rw [ez46]
          have w0z46 : z46.toInt = (sI κ.1 bn4 2).toInt := by rw [ez46, (hfr.1 bn4 (by rw [hsn4]; decide) 2 (by rw [hsn4]; decide)).1]
          refine ⟨fun c5 => ?_, fun c5 => ?_⟩
          · (try dsimp only)
            refine ⟨by omega, ?_⟩
            exact kk 0 κ9 hV hfr ⟨by omega, fun q => by exfalso; omega⟩
          · refine ⟨bn4, ebn4, (hV.mm hsn4 (by decide) rfl), ?_⟩
            intro z47 ez47
            have vz47 := hV.1.iv hsn4 (by decide) rfl 3 0 1 rfl ez47
            have wz47 : z47.toInt = (sI κ9.1 bn4 3).toInt := by rw [ez47]
            have w0z47 : z47.toInt = (sI κ.1 bn4 3).toInt := by rw [ez47, (hfr.1 bn4 (by rw [hsn4]; decide) 3 (by rw [hsn4]; decide)).1]
            refine ⟨fun c6 => ?_, fun c6 => ?_⟩
            · intro z48 ez48
              try have hz48 := i_add ez48 (by omega) (by omega)
              have rg_z48 := i_range z48
              (try dsimp only)
              intro z36 ez36
              try have hz36 := i_add ez36 (by omega) (by omega)
              have rg_z36 := i_range z36
              exact hK12 (z36, z48, z40) κ9 ⟨rfl, ⟨(by (try dsimp only); omega), ⟨bn4, ebn4, hsn4⟩⟩⟩ (by (try dsimp only); omega)
            · (try dsimp only)
              refine ⟨by omega, ?_⟩
              exact kk 0 κ9 hV hfr ⟨by omega, fun q => by exfalso; omega⟩
  · skip
    refine ⟨fun c7 => ?_, fun c7 => ?_⟩
    · exact hK4 (none : Option Nat) κ ⟨rfl, ⟨trivial, (Or.inl rfl)⟩⟩
    · exact hK4 a2 κ ⟨rfl, ⟨trivial, (Or.inr ⟨b_a2, e_a2, hs_a2⟩)⟩⟩
set_option maxRecDepth 100000 in
set_option maxHeartbeats 4000000 in
theorem t_X11_look {G : GE} {E : CE} {W : CW} {c : Int} {κ : CS} (hV : CV G E W c κ) (h : Nat) (hs_h : W.1 h = 1) (a1 : Option Nat) (b_a1 : Nat) (e_a1 : a1 = some b_a1) (hs_a1 : W.1 b_a1 = 8)  {post : Int32 → CS → Prop} (kk : ∀ (r : Int32) (κ' : CS), CV G E W c κ' → CF [(3, 12), (3, 13), (3, 14), (8, 13), (8, 14), (8, 15)] W κ κ' → ((r.toInt = 0 → ((sI κ.1 b_a1 5).toInt = 0 ∨ (sI κ.1 b_a1 5).toInt = 1 ∨ (sI κ.1 b_a1 5).toInt = 13 ∨ (sI κ.1 b_a1 5).toInt = 12) ∨ ∃ b, sP κ'.1 b_a1 13 = some b ∧ W.1 b = 11)) → post r κ') : F_X11_look G h a1 post κ := by
  unfold F_X11_look
  have hfr : CF [(3, 12), (3, 13), (3, 14), (8, 13), (8, 14), (8, 15)] W κ κ := CF.rf
  have k_m1073741811 : ((-1073741811) : Int32).toInt = (-1073741811) := rfl
  have k_m1073741637 : ((-1073741637) : Int32).toInt = (-1073741637) := rfl
  have k_m1073741623 : ((-1073741623) : Int32).toInt = (-1073741623) := rfl
  have k_m1073741309 : ((-1073741309) : Int32).toInt = (-1073741309) := rfl
  have k_0 : (0 : Int32).toInt = 0 := rfl
  have k_1 : (1 : Int32).toInt = 1 := rfl
  have k_2 : (2 : Int32).toInt = 2 := rfl
  have k_3 : (3 : Int32).toInt = 3 := rfl
  have k_12 : (12 : Int32).toInt = 12 := rfl
  have k_13 : (13 : Int32).toInt = 13 := rfl
  have k_64 : (64 : Int32).toInt = 64 := rfl
  have kl_m1073741811 : ((-1073741811) : Int64).toInt = (-1073741811) := rfl
  have kl_m1073741637 : ((-1073741637) : Int64).toInt = (-1073741637) := rfl
  have kl_m1073741623 : ((-1073741623) : Int64).toInt = (-1073741623) := rfl
  have kl_m1073741309 : ((-1073741309) : Int64).toInt = (-1073741309) := rfl
  have kl_2 : (2 : Int64).toInt = 2 := rfl
  have kl_64 : (64 : Int64).toInt = 64 := rfl
  refine ⟨b_a1, e_a1, (hV.mm hs_a1 (by decide) rfl), ?_⟩
  intro z1 ez1
  have vz1 := hV.1.iv hs_a1 (by decide) rfl 5 (-2147483648) 2147483647 rfl ez1
  have wz1 : z1.toInt = (sI κ.1 b_a1 5).toInt := by rw [ez1]
  refine jc_in (fun (x : Int32) (κ' : CS) => κ = κ' ∧ (((0 ≤ x.toInt ∧ x.toInt ≤ 1) ∧ (x.toInt = 0 ∨ z1.toInt = 0 ∨ z1.toInt = 1 ∨ z1.toInt = 13 ∨ z1.toInt = 12)))) (fun x2 κ3 hJ => ?_) (fun K4 hK4 => ?_)
  · obtain ⟨hsg, hv⟩ := hJ
    subst hsg
    (try dsimp only at hv)
    have rg_x2 := i_range x2
    refine jc_in (fun (x : Unit) (κ' : CS) => CV G E W c κ' ∧ CF [(3, 12), (3, 13), (3, 14), (8, 13), (8, 14), (8, 15)] W κ κ' ∧ ((True)) ∧ ((z1.toInt = 0 ∨ z1.toInt = 1 ∨ z1.toInt = 13 ∨ z1.toInt = 12) ∨ ∃ b, sP κ'.1 b_a1 13 = some b ∧ W.1 b = 11)) (fun x7 κ8 hJ => ?_) (fun K9 hK9 => ?_)
    · obtain ⟨hV, hfr, hv⟩ := hJ
      (try dsimp only at hv)
      obtain ⟨hv, hb_⟩ := hv
      (try dsimp only at hv)
      refine jc_in (fun (x : Unit) (κ' : CS) => CV G E W c κ' ∧ CF [(3, 12), (3, 13), (3, 14), (8, 13), (8, 14), (8, 15)] W κ κ' ∧ ((True)) ∧ ((z1.toInt = 0 ∨ z1.toInt = 1 ∨ z1.toInt = 13 ∨ z1.toInt = 12) ∨ ∃ b, sP κ'.1 b_a1 13 = some b ∧ W.1 b = 11)) (fun x12 κ13 hJ => ?_) (fun K14 hK14 => ?_)
      · obtain ⟨hV, hfr, hv⟩ := hJ
        (try dsimp only at hv)
        obtain ⟨hv, hb_⟩ := hv
        (try dsimp only at hv)
        refine jc_dup ?_
        refine ⟨fun c1 => ?_, fun c1 => ?_⟩
        · (try dsimp only)
          exact kk (-1073741637) κ13 hV hfr (fun q => by exfalso; omega)
        · intro z22 ez22
          have lz22 : z22.toInt = 19 := by rw [ez22]; rfl
          refine ⟨fun c2 => ?_, fun c2 => ?_⟩
          · (try dsimp only)
            exact kk (-1073741637) κ13 hV hfr (fun q => by exfalso; omega)
          · intro z23 ez23
            have lz23 : z23.toInt = 19 := by rw [ez23]; rfl
            refine ⟨fun c3 => ?_, fun c3 => ?_⟩
            · (try dsimp only)
              exact kk (-1073741637) κ13 hV hfr (fun q => by exfalso; omega)
            · refine ⟨by omega, ?_⟩
              intro z24 ez24
              have rg_z24 := i_range z24
              refine ⟨fun c4 => ?_, fun c4 => ?_⟩
              · refine ⟨by omega, ?_⟩
                intro z25 ez25
                have rg_z25 := i_range z25
                refine ⟨b_a1, e_a1, (hV.mm hs_a1 (by decide) rfl), ?_⟩
                intro z26 ez26
                have vz26 := hV.1.iv hs_a1 (by decide) rfl 2 (-2147483648) 2147483647 rfl ez26
                have wz26 : z26.toInt = (sI κ13.1 b_a1 2).toInt := by rw [ez26]
                have w0z26 : z26.toInt = (sI κ.1 b_a1 2).toInt := by rw [ez26, (hfr.1 b_a1 (by rw [hs_a1]; decide) 2 (by rw [hs_a1]; decide)).1]
                intro z27 ez27
                try have hz27 := i_add ez27 (by omega) (by omega)
                have rg_z27 := i_range z27
                intro z28 ez28
                try have hz28 := i_rem 2 rfl ez28 (by omega) (by omega)
                have rg_z28 := i_range z28
                intro z29 ez29
                try have hz29 := i_sub ez29 (by omega) (by omega)
                have rg_z29 := i_range z29
                refine jc_dup ?_
                refine ⟨fun c5 => ?_, fun c5 => ?_⟩
                · (try dsimp only)
                  exact kk (-1073741811) κ13 hV hfr (fun q => by exfalso; omega)
                · refine ⟨b_a1, e_a1, (hV.mm hs_a1 (by decide) rfl), ?_⟩
                  refine t_X0_number hV b_a1 hs_a1 64 2  (fun z36 pz36 => ?_)
                  have rg_z36 := l_range z36
                  intro z37 ez37
                  have hz37 := i_tol ez37
                  have rg_z37 := l_range z37
                  refine ⟨fun c6 => ?_, fun c6 => ?_⟩
                  · (try dsimp only)
                    exact kk (-1073741811) κ13 hV hfr (fun q => by exfalso; omega)
                  · refine ⟨b_a1, e_a1, (hV.mm hs_a1 (by decide) rfl), ?_⟩
                    refine t_X0_holdsWhatItTells hV b_a1 hs_a1  (fun z39 pz39 => ?_)
                    have rg_z39 := i_range z39
                    refine ⟨fun c7 => ?_, fun c7 => ?_⟩
                    · refine ⟨by omega, ?_⟩
                      intro z40 ez40
                      have rg_z40 := i_range z40
                      refine jc_dup ?_
                      refine ⟨fun c8 => ?_, fun c8 => ?_⟩
                      · refine ⟨by omega, ?_⟩
                        intro z46 ez46
                        have rg_z46 := i_range z46
                        refine ⟨(hV.mm hs_h (by decide) rfl), ?_⟩
                        refine t_X11_lookAtFile hV h hs_h a1 b_a1 e_a1 hs_a1 z46  (fun z48 κ47 hV fκ47 pz48 => ?_)
                        have hfr := hfr.tr fκ47 (by decide)
                        have rg_z48 := i_range z48
                        (try dsimp only)
                        exact kk z48 κ47 hV hfr (fun _ => by rw [← wz1]; exact hb_.imp id (fun ⟨b, e, g⟩ => ⟨b, (fκ47.1 b_a1 (by rw [hs_a1]; decide) 13 (by rw [hs_a1]; decide)).2.2.trans e, g⟩))
                      · (try dsimp only)
                        exact kk 0 κ13 hV hfr (fun _ => by rw [← wz1]; exact hb_)
                    · (try dsimp only)
                      exact kk (-1073741811) κ13 hV hfr (fun q => by exfalso; omega)
              · (try dsimp only)
                exact kk (-1073741637) κ13 hV hfr (fun q => by exfalso; omega)
      · skip
        refine ⟨fun c9 => ?_, fun c9 => ?_⟩
        · exact hK14 () κ8 ⟨hV, hfr, trivial, hb_⟩
        · refine ⟨fun c10 => ?_, fun c10 => ?_⟩
          · exact hK14 () κ8 ⟨hV, hfr, trivial, hb_⟩
          · refine ⟨fun c11 => ?_, fun c11 => ?_⟩
            · exact hK14 () κ8 ⟨hV, hfr, trivial, hb_⟩
            · refine ⟨(hV.mm hs_h (by decide) rfl), ?_⟩
              refine t_X11_treeOf hV h hs_h a1 b_a1 e_a1 hs_a1  (fun z50 pz50 => ?_)
              refine ⟨b_a1, e_a1, (hV.mm hs_a1 (by decide) rfl), ?_⟩
              intro κ51 eκ51
              have hV := hV.uP (k := 14) (v := z50) hs_a1 rfl (Or.inl (by decide)) (by decide) (by decide) (fun _ => (by rcases pz50 with e | ⟨b, e, g⟩; exact Or.inr (Or.inl ⟨rfl, e⟩); exact Or.inr (Or.inr (Or.inr ⟨b, e, g⟩)))) eκ51
              have hfr := hfr.uP (k := 14) hs_a1 (by decide) (show ((8, 14) : Nat × Nat) ∈ ([(3, 12), (3, 13), (3, 14), (8, 13), (8, 14), (8, 15)] : List (Nat × Nat)) by decide) eκ51
              refine ⟨b_a1, e_a1, (hV.mm hs_a1 (by decide) rfl), ?_⟩
              intro z52 ez52
              have nz52 := hV.1.nl hs_a1 (by decide) rfl 14 rfl (by decide)
              rw [← ez52] at nz52
              refine ⟨fun c12 => ?_, fun c12 => ?_⟩
              · obtain ⟨bn5, ebn5, hsn5⟩ := nz52.resolve_left c12
                exact hK14 () κ51 ⟨hV, hfr, trivial, (hb_.imp id (fun ⟨b, e, g⟩ => ⟨b, by rw [eκ51]; exact (u2_pl (by decide)).trans e, g⟩))⟩
              · exact kk (-1073741623) κ51 hV hfr (fun q => by exfalso; omega)
    · skip
      refine ⟨fun c13 => ?_, fun c13 => ?_⟩
      · exact hK9 () κ ⟨hV, hfr, trivial, (Or.inl (by omega))⟩
      · refine ⟨(hV.mm hs_h (by decide) rfl), ?_⟩
        refine t_X11_sessionOf hV h hs_h a1 b_a1 e_a1 hs_a1  (fun z54 pz54 => ?_)
        refine ⟨b_a1, e_a1, (hV.mm hs_a1 (by decide) rfl), ?_⟩
        intro κ55 eκ55
        have hV := hV.uP (k := 13) (v := z54) hs_a1 rfl (Or.inl (by decide)) (by decide) (by decide) (fun _ => (by rcases pz54 with e | ⟨b, e, g⟩; exact Or.inr (Or.inl ⟨rfl, e⟩); exact Or.inr (Or.inr (Or.inr ⟨b, e, g⟩)))) eκ55
        have hfr := hfr.uP (k := 13) hs_a1 (by decide) (show ((8, 13) : Nat × Nat) ∈ ([(3, 12), (3, 13), (3, 14), (8, 13), (8, 14), (8, 15)] : List (Nat × Nat)) by decide) eκ55
        refine ⟨b_a1, e_a1, (hV.mm hs_a1 (by decide) rfl), ?_⟩
        intro z56 ez56
        have nz56 := hV.1.nl hs_a1 (by decide) rfl 13 rfl (by decide)
        rw [← ez56] at nz56
        refine ⟨fun c14 => ?_, fun c14 => ?_⟩
        · obtain ⟨bn7, ebn7, hsn7⟩ := nz56.resolve_left c14
          exact hK9 () κ55 ⟨hV, hfr, trivial, (Or.inr ⟨bn7, ez56.symm.trans ebn7, hsn7⟩)⟩
        · exact kk (-1073741309) κ55 hV hfr (fun q => by exfalso; omega)
  · skip
    refine jc_dup ?_
    refine ⟨fun c15 => ?_, fun c15 => ?_⟩
    · (try dsimp only)
      exact hK4 1 κ ⟨rfl, (by (try dsimp only); omega)⟩
    · refine ⟨fun c16 => ?_, fun c16 => ?_⟩
      · (try dsimp only)
        exact hK4 1 κ ⟨rfl, (by (try dsimp only); omega)⟩
      · refine ⟨fun c17 => ?_, fun c17 => ?_⟩
        · (try dsimp only)
          exact hK4 1 κ ⟨rfl, (by (try dsimp only); omega)⟩
        · refine ⟨fun c18 => ?_, fun c18 => ?_⟩
          · exact hK4 0 κ ⟨rfl, (by (try dsimp only); omega)⟩
          · (try dsimp only)
            exact hK4 1 κ ⟨rfl, (by (try dsimp only); omega)⟩

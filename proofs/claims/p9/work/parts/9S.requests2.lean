/-! the class: requests, one by one, what is left of them -/
set_option maxRecDepth 100000 in
set_option maxHeartbeats 4000000 in
theorem t_X11_list {G : GE} {E : CE} {W0 : CW} {c : Int} {κ : CS} (hV : CV G E W0 c κ) (h : Nat) (hs_h : W0.1 h = 1) (a1 : Option Nat) (b_a1 : Nat) (e_a1 : a1 = some b_a1) (hs_a1 : W0.1 b_a1 = 10) (a2 : Int32) (a3 : Int32) (a4 : Int32) (hz : 0 ≤ a3.toInt ∧ a3.toInt ≤ 1024) (hc : 0 ≤ c) {post : Int32 → CS → Prop} (kk : ∀ (r : Int32) (W' : CW) (κ' : CS), WX W0 W' κ → CV G E W' (c - 0) κ' → CF [(10, 12), (10, 14), (20, 0), (30, 0), (61, 0), (61, 1)] W0 κ κ' → (True) → post r κ') : F_X11_list G h a1 a2 a3 a4 post κ := by
  have hs0_h := hs_h
  have hs0_a1 := hs_a1
  suffices H_ : ∀ W : CW, WX W0 W κ → CV G E W (c - 0) κ → (W.1 h = 1) → (W.1 b_a1 = 10) → F_X11_list G h a1 a2 a3 a4 post κ from H_ W0 WX.rf (hV.dn (by omega)) hs_h hs_a1
  intro W hx hV hs_h hs_a1
  unfold F_X11_list
  have hfr : CF [(10, 12), (10, 14), (20, 0), (30, 0), (61, 0), (61, 1)] W0 κ κ := CF.rf
  have k_m2147483642 : ((-2147483642) : Int32).toInt = (-2147483642) := rfl
  have k_m1073741820 : ((-1073741820) : Int32).toInt = (-1073741820) := rfl
  have k_0 : (0 : Int32).toInt = 0 := rfl
  have k_1 : (1 : Int32).toInt = 1 := rfl
  have k_2 : (2 : Int32).toInt = 2 := rfl
  have k_4 : (4 : Int32).toInt = 4 := rfl
  have k_7 : (7 : Int32).toInt = 7 := rfl
  have k_8 : (8 : Int32).toInt = 8 := rfl
  have k_9 : (9 : Int32).toInt = 9 := rfl
  have k_12 : (12 : Int32).toInt = 12 := rfl
  have k_64 : (64 : Int32).toInt = 64 := rfl
  have k_66 : (66 : Int32).toInt = 66 := rfl
  have k_68 : (68 : Int32).toInt = 68 := rfl
  have k_72 : (72 : Int32).toInt = 72 := rfl
  have kl_1 : (1 : Int64).toInt = 1 := rfl
  have kl_2 : (2 : Int64).toInt = 2 := rfl
  have kl_4 : (4 : Int64).toInt = 4 := rfl
  have kl_7 : (7 : Int64).toInt = 7 := rfl
  have kl_8 : (8 : Int64).toInt = 8 := rfl
  have kl_9 : (9 : Int64).toInt = 9 := rfl
  have kl_64 : (64 : Int64).toInt = 64 := rfl
  have kl_66 : (66 : Int64).toInt = 66 := rfl
  have kl_68 : (68 : Int64).toInt = 68 := rfl
  have kl_72 : (72 : Int64).toInt = 72 := rfl
  have rg_a2 := i_range a2
  have rg_a3 := i_range a3
  have rg_a4 := i_range a4
  refine ⟨(hV.mm hs_h (by decide) rfl), ?_⟩
  intro z1 ez1
  obtain ⟨bz1, ebz1, hsz1⟩ := hV.1.nn hs_h (by decide) rfl 15 rfl (by decide)
  have ebz1 := ez1.trans ebz1
  intro z2 ez2
  try have hz2 := i_add ez2 (by omega) (by omega)
  have rg_z2 := i_range z2
  refine ⟨bz1, ebz1, (hV.mm hsz1 (by decide) rfl), ?_⟩
  refine t_X6_begin hV bz1 hsz1 z2 (by omega) (by omega) (fun W κ3 x1_ hV fκ3 pu1 => ?_)
  have hV : CV G E W (c - 0) κ3 := hV.dn (by omega)
  have hx2 := hx.tr x1_ hfr.sl
  have hfr := hfr.trW hx fκ3 (by decide)
  have hs_h := WLe.at (x1_).1 hs_h (by decide)
  have hs_a1 := WLe.at (x1_).1 hs_a1 (by decide)
  have hsz1 := WLe.at (x1_).1 hsz1 (by decide)
  have hx := hx2
  obtain ⟨bby, eby, lby⟩ := pu1
  have wby : W.1 bby = 20 := by
    obtain ⟨q1_, q2_, q3_⟩ := hV.1.nn hsz1 (by decide) rfl 0 rfl (by decide)
    rw [eby] at q2_
    rw [Option.some.inj q2_]
    exact q3_
  refine jc_in (fun (x : Int32) (κ' : CS) => κ3 = κ' ∧ (((x.toInt = 12 ∨ x.toInt = 64)))) (fun x5 κ6 hJ => ?_) (fun K7 hK7 => ?_)
  · obtain ⟨hsg, hv⟩ := hJ
    subst hsg
    (try dsimp only at hv)
    have rg_x5 := i_range x5
    refine lc_in (fun (x : Int32 × Int32 × Int32 × Int32) (κ' : CS) => ∃ W' : CW, WLe W W' ∧ WX W0 W' κ ∧ CV G E W' (c - 0) κ' ∧ CF [(10, 12), (10, 14), (20, 0), (30, 0), (61, 0), (61, 1)] W0 κ κ' ∧ (((0 ≤ x.1.toInt) ∧ (0 ≤ x.2.2.2.toInt) ∧ (x.2.2.2.toInt ≤ a3.toInt) ∧ (0 ≤ x.2.2.1.toInt) ∧ (x.2.2.1.toInt ≤ 1024))) ∧ (∃ b, sP κ'.1 bz1 0 = some b ∧ W'.1 b = 20 ∧ (z2.toInt ≤ (W'.2 b : Int)))) (fun (x : Int32 × Int32 × Int32 × Int32) (κ' : CS) => (2147483647 - x.1.toInt).toNat) ⟨W, WLe.rf, hx, hV.dn (by (try dsimp only); omega), hfr, (by (try dsimp only); omega), ⟨bby, eby, wby, (by (try dsimp only); omega)⟩⟩ (fun x10 κ11 hJ K12 hK12 => ?_)
    obtain ⟨W, le39, hx, hV, hfr, hv⟩ := hJ
    have hs_h := WLe.at le39 hs_h (by decide)
    have hs_a1 := WLe.at le39 hs_a1 (by decide)
    have hsz1 := WLe.at le39 hsz1 (by decide)
    have wl_bby := (le39 bby (by rw [wby]; decide)).2
    have wby := WLe.at le39 wby (by decide)
    (try dsimp only at hv)
    obtain ⟨hv, ⟨bk39_0, ek39_0, wk39_0, xk39_0⟩⟩ := hv
    (try dsimp only at hv)
    (try dsimp only at xk39_0)
    have rg_x10_1 := i_range x10.1
    have rg_x10_2_1 := i_range x10.2.1
    have rg_x10_2_2_1 := i_range x10.2.2.1
    have rg_x10_2_2_2 := i_range x10.2.2.2
    refine jc_in (fun (x : Int32) (κ' : CS) => κ11 = κ' ∧ ((True))) (fun x14 κ15 hJ => ?_) (fun K16 hK16 => ?_)
    · obtain ⟨hsg, hv⟩ := hJ
      subst hsg
      (try dsimp only at hv)
      have rg_x14 := i_range x14
      refine ⟨(hV.mm hs_h (by decide) rfl), ?_⟩
      intro z19 ez19
      have ebz19 : z19 = some bz1 := (ez19.trans (hfr.1 h (by rw [hs0_h]; decide) 15 (by rw [hs0_h]; decide)).2.2).trans (ez1.symm.trans ebz1)
      refine ⟨bz1, ebz19, (hV.mm hsz1 (by decide) rfl), ?_⟩
      refine t_X6_put hV bz1 hsz1 rfl 64 2 9  (fun κ20 hV fκ20 pu2 => ?_)
      have pk1 := (fκ20.1 bz1 (by rw [hsz1]; decide) 0 (by rw [hsz1]; decide)).2.2.trans ek39_0
      have hfr := hfr.trW hx fκ20 (by decide)
      refine ⟨(hV.mm hs_h (by decide) rfl), ?_⟩
      intro z22 ez22
      have ebz22 : z22 = some bz1 := (ez22.trans (hfr.1 h (by rw [hs0_h]; decide) 15 (by rw [hs0_h]; decide)).2.2).trans (ez1.symm.trans ebz1)
      refine ⟨bz1, ebz22, (hV.mm hsz1 (by decide) rfl), ?_⟩
      refine t_X6_put hV bz1 hsz1 rfl 66 2 72  (fun κ23 hV fκ23 pu3 => ?_)
      have pk2 := (fκ23.1 bz1 (by rw [hsz1]; decide) 0 (by rw [hsz1]; decide)).2.2.trans pk1
      have hfr := hfr.trW hx fκ23 (by decide)
      refine ⟨(hV.mm hs_h (by decide) rfl), ?_⟩
      intro z25 ez25
      have ebz25 : z25 = some bz1 := (ez25.trans (hfr.1 h (by rw [hs0_h]; decide) 15 (by rw [hs0_h]; decide)).2.2).trans (ez1.symm.trans ebz1)
      intro z26 ez26
      have hz26 := i_tol ez26
      have rg_z26 := l_range z26
      refine ⟨bz1, ebz25, (hV.mm hsz1 (by decide) rfl), ?_⟩
      refine t_X6_put hV bz1 hsz1 rfl 68 4 z26  (fun κ27 hV fκ27 pu4 => ?_)
      have pk3 := (fκ27.1 bz1 (by rw [hsz1]; decide) 0 (by rw [hsz1]; decide)).2.2.trans pk2
      have hfr := hfr.trW hx fκ27 (by decide)
      refine ⟨(hV.mm hs_h (by decide) rfl), ?_⟩
      intro z29 ez29
      have ebz29 : z29 = some bz1 := (ez29.trans (hfr.1 h (by rw [hs0_h]; decide) 15 (by rw [hs0_h]; decide)).2.2).trans (ez1.symm.trans ebz1)
      intro z30 ez30
      try have hz30 := i_add ez30 (by omega) (by omega)
      have rg_z30 := i_range z30
      refine ⟨bz1, ebz29, (hV.mm hsz1 (by decide) rfl), ?_⟩
      intro κ31 eκ31
      have roκ31 := hV.2.1 bz1 (by rw [hsz1]; rfl) bk39_0 pk3
      have hV := hV.uRL hsz1 rfl pk3 (by show 0 ≤ (z30 : Int32).toInt ∧ (z30 : Int32).toInt ≤ 1200; omega) (by omega) eκ31
      have uκ31 : (sI κ31.1 bz1 1).toInt = (z30 : Int32).toInt := by rw [eκ31]; exact congrArg Int32.toInt u2_same
      have f1κ31 : CF [(61, 1)] W κ27 κ31 := CF.rf.uI (k := 1) hsz1 (by decide) (show ((61, 1) : Nat × Nat) ∈ ([(61, 1)] : List (Nat × Nat)) by simp) eκ31
      have pk4 := (f1κ31.1 bz1 (by rw [hsz1]; decide) 0 (by rw [hsz1]; decide)).2.2.trans pk3
      have hfr := hfr.trW hx f1κ31 (by decide)
      exact kk x14 W κ31 hx (hV.dn (by omega)) hfr trivial
    · skip
      refine ⟨fun c1 => ?_, fun c1 => ?_⟩
      · exact hK16 x10.2.1 κ11 ⟨rfl, trivial⟩
      · refine ⟨(hV.mm hs_h (by decide) rfl), ?_⟩
        refine t_X11_nextStage hV h hs_h a1 b_a1 e_a1 hs_a1  (fun z33 pz33 => ?_)
        have rg_z33 := i_range z33
        refine ⟨(hV.mm hs_h (by decide) rfl), ?_⟩
        refine t_X11_entryNode hV h hs_h a1 b_a1 e_a1 hs_a1 z33  (fun z35 pz35 => ?_)
        refine ⟨fun c2 => ?_, fun c2 => ?_⟩
        · obtain ⟨bn7, ebn7, hsn7⟩ := pz35.resolve_left c2
          refine jc_dup ?_
          refine ⟨fun c3 => ?_, fun c3 => ?_⟩
          · refine ⟨bn7, ebn7, (hV.mm hsn7 (by decide) rfl), ?_⟩
            intro z75 ez75
            obtain ⟨bz75, ebz75, hsz75⟩ := hV.1.nn hsn7 (by decide) rfl 5 rfl (by decide)
            have ebz75 := ez75.trans ebz75
            (try dsimp only)
            refine jc_in (fun (x : Int32) (κ' : CS) => κ11 = κ' ∧ (((0 ≤ x.toInt) ∧ (x.toInt ≤ 12)))) (fun x41 κ42 hJ => ?_) (fun K43 hK43 => ?_)
            · obtain ⟨hsg, hv⟩ := hJ
              subst hsg
              (try dsimp only at hv)
              have rg_x41 := i_range x41
              intro z46 ez46
              try have hz46 := i_add ez46 (by omega) (by omega)
              have rg_z46 := i_range z46
              intro z47 ez47
              try have hz47 := i_add ez47 (by omega) (by omega)
              have rg_z47 := i_range z47
              intro z48 ez48
              try have hz48 := i_rem 8 rfl ez48 (by omega) (by omega)
              have rg_z48 := i_range z48
              intro z49 ez49
              try have hz49 := i_sub ez49 (by omega) (by omega)
              have rg_z49 := i_range z49
              intro z50 ez50
              try have hz50 := i_add ez50 (by omega) (by omega)
              have rg_z50 := i_range z50
              intro z51 ez51
              try have hz51 := i_mulk 2 rfl ez51 (by omega) (by omega)
              have rg_z51 := i_range z51
              intro z52 ez52
              try have hz52 := i_add ez52 (by omega) (by omega)
              have rg_z52 := i_range z52
              refine ⟨fun c4 => ?_, fun c4 => ?_⟩
              · refine ⟨(hV.mm hs_h (by decide) rfl), ?_⟩
                intro z53 ez53
                have ebz53 : z53 = some bz1 := (ez53.trans (hfr.1 h (by rw [hs0_h]; decide) 15 (by rw [hs0_h]; decide)).2.2).trans (ez1.symm.trans ebz1)
                intro z54 ez54
                try have hz54 := i_add ez54 (by omega) (by omega)
                have rg_z54 := i_range z54
                intro z55 ez55
                try have hz55 := i_sub ez55 (by omega) (by omega)
                have rg_z55 := i_range z55
                intro z56 ez56
                have hz56 := i_tol ez56
                have rg_z56 := l_range z56
                refine ⟨bz1, ebz53, (hV.mm hsz1 (by decide) rfl), ?_⟩
                refine t_X6_put hV bz1 hsz1 rfl z54 4 z56  (fun κ57 hV fκ57 pu8 => ?_)
                have pk5 := (fκ57.1 bz1 (by rw [hsz1]; decide) 0 (by rw [hsz1]; decide)).2.2.trans ek39_0
                have hfr := hfr.trW hx fκ57 (by decide)
                intro z59 ez59
                try have hz59 := i_add ez59 (by omega) (by omega)
                have rg_z59 := i_range z59
                refine ⟨(hV.mm hs_h (by decide) rfl), ?_⟩
                refine t_X11_putEntry hV h hs_h z59 a2 z35 bn7 ebn7 hsn7 z75 _ (Or.inl ⟨bz75, ebz75, hsz75, rfl⟩) x41  (fun κ60 hV fκ60 pu9 => ?_)
                have pk6 := (fκ60.1 bz1 (by rw [hsz1]; decide) 0 (by rw [hsz1]; decide)).2.2.trans pk5
                have hfr := hfr.trW hx fκ60 (by decide)
                refine ⟨b_a1, e_a1, (hV.mm hs_a1 (by decide) rfl), ?_⟩
                refine t_X5_goBehind hV b_a1 hs_a1 z33 z35 bn7 ebn7 hsn7 (by omega) (fun κ62 hV fκ62 pu10 => ?_)
                have pk7 := (fκ62.1 bz1 (by rw [hsz1]; decide) 0 (by rw [hsz1]; decide)).2.2.trans pk6
                have hfr := hfr.trW hx fκ62 (by decide)
                intro z64 ez64
                try have hz64 := i_add ez64 (by omega) (by omega)
                have rg_z64 := i_range z64
                intro z65 ez65
                try have hz65 := i_mulk 2 rfl ez65 (by omega) (by omega)
                have rg_z65 := i_range z65
                intro z66 ez66
                try have hz66 := i_add ez66 (by omega) (by omega)
                have rg_z66 := i_range z66
                intro z67 ez67
                try have hz67 := i_add ez67 (by omega) (by omega)
                have rg_z67 := i_range z67
                exact hK12 (z67, 0, z49, z66) κ62 ⟨W, le39, hx, hV.dn (by (try dsimp only); omega), hfr, (by (try dsimp only); omega), ⟨bk39_0, pk7, wk39_0, (by (try dsimp only); omega)⟩⟩ (by (try dsimp only); omega)
              · refine jc_dup ?_
                refine ⟨fun c5 => ?_, fun c5 => ?_⟩
                · (try dsimp only)
                  exact hK16 x10.2.1 κ11 ⟨rfl, trivial⟩
                · (try dsimp only)
                  exact hK16 (-1073741820) κ11 ⟨rfl, trivial⟩
            · skip
              refine ⟨fun c6 => ?_, fun c6 => ?_⟩
              · refine ⟨bn7, ebn7, (hV.mm hsn7 (by decide) rfl), ?_⟩
                intro z73 ez73
                have vz73 := hV.1.iv hsn7 (by decide) rfl 6 0 12 rfl ez73
                have wz73 : z73.toInt = (sI κ11.1 bn7 6).toInt := by rw [ez73]
                exact hK43 z73 κ11 ⟨rfl, (by (try dsimp only); omega)⟩
              · intro z74 ez74
                try have hz74 := i_add ez74 (by omega) (by omega)
                have rg_z74 := i_range z74
                exact hK43 z74 κ11 ⟨rfl, (by (try dsimp only); omega)⟩
          · (try dsimp only)
            refine jc_in (fun (x : Int32) (κ' : CS) => κ11 = κ' ∧ (((0 ≤ x.toInt) ∧ (x.toInt ≤ 12)))) (fun x41 κ42 hJ => ?_) (fun K43 hK43 => ?_)
            · obtain ⟨hsg, hv⟩ := hJ
              subst hsg
              (try dsimp only at hv)
              have rg_x41 := i_range x41
              intro z46 ez46
              try have hz46 := i_add ez46 (by omega) (by omega)
              have rg_z46 := i_range z46
              intro z47 ez47
              try have hz47 := i_add ez47 (by omega) (by omega)
              have rg_z47 := i_range z47
              intro z48 ez48
              try have hz48 := i_rem 8 rfl ez48 (by omega) (by omega)
              have rg_z48 := i_range z48
              intro z49 ez49
              try have hz49 := i_sub ez49 (by omega) (by omega)
              have rg_z49 := i_range z49
              intro z50 ez50
              try have hz50 := i_add ez50 (by omega) (by omega)
              have rg_z50 := i_range z50
              intro z51 ez51
              try have hz51 := i_mulk 2 rfl ez51 (by omega) (by omega)
              have rg_z51 := i_range z51
              intro z52 ez52
              try have hz52 := i_add ez52 (by omega) (by omega)
              have rg_z52 := i_range z52
              refine ⟨fun c7 => ?_, fun c7 => ?_⟩
              · refine ⟨(hV.mm hs_h (by decide) rfl), ?_⟩
                intro z53 ez53
                have ebz53 : z53 = some bz1 := (ez53.trans (hfr.1 h (by rw [hs0_h]; decide) 15 (by rw [hs0_h]; decide)).2.2).trans (ez1.symm.trans ebz1)
                intro z54 ez54
                try have hz54 := i_add ez54 (by omega) (by omega)
                have rg_z54 := i_range z54
                intro z55 ez55
                try have hz55 := i_sub ez55 (by omega) (by omega)
                have rg_z55 := i_range z55
                intro z56 ez56
                have hz56 := i_tol ez56
                have rg_z56 := l_range z56
                refine ⟨bz1, ebz53, (hV.mm hsz1 (by decide) rfl), ?_⟩
                refine t_X6_put hV bz1 hsz1 rfl z54 4 z56  (fun κ57 hV fκ57 pu11 => ?_)
                have pk8 := (fκ57.1 bz1 (by rw [hsz1]; decide) 0 (by rw [hsz1]; decide)).2.2.trans ek39_0
                have hfr := hfr.trW hx fκ57 (by decide)
                intro z59 ez59
                try have hz59 := i_add ez59 (by omega) (by omega)
                have rg_z59 := i_range z59
                refine ⟨(hV.mm hs_h (by decide) rfl), ?_⟩
                refine t_X11_putEntry hV h hs_h z59 a2 z35 bn7 ebn7 hsn7 (some G.2.2.2.1) _ (Or.inr ⟨rfl, rfl⟩) x41  (fun κ60 hV fκ60 pu12 => ?_)
                have pk9 := (fκ60.1 bz1 (by rw [hsz1]; decide) 0 (by rw [hsz1]; decide)).2.2.trans pk8
                have hfr := hfr.trW hx fκ60 (by decide)
                refine ⟨b_a1, e_a1, (hV.mm hs_a1 (by decide) rfl), ?_⟩
                refine t_X5_goBehind hV b_a1 hs_a1 z33 z35 bn7 ebn7 hsn7 (by omega) (fun κ62 hV fκ62 pu13 => ?_)
                have pk10 := (fκ62.1 bz1 (by rw [hsz1]; decide) 0 (by rw [hsz1]; decide)).2.2.trans pk9
                have hfr := hfr.trW hx fκ62 (by decide)
                intro z64 ez64
                try have hz64 := i_add ez64 (by omega) (by omega)
                have rg_z64 := i_range z64
                intro z65 ez65
                try have hz65 := i_mulk 2 rfl ez65 (by omega) (by omega)
                have rg_z65 := i_range z65
                intro z66 ez66
                try have hz66 := i_add ez66 (by omega) (by omega)
                have rg_z66 := i_range z66
                intro z67 ez67
                try have hz67 := i_add ez67 (by omega) (by omega)
                have rg_z67 := i_range z67
                exact hK12 (z67, 0, z49, z66) κ62 ⟨W, le39, hx, hV.dn (by (try dsimp only); omega), hfr, (by (try dsimp only); omega), ⟨bk39_0, pk10, wk39_0, (by (try dsimp only); omega)⟩⟩ (by (try dsimp only); omega)
              · refine jc_dup ?_
                refine ⟨fun c8 => ?_, fun c8 => ?_⟩
                · (try dsimp only)
                  exact hK16 x10.2.1 κ11 ⟨rfl, trivial⟩
                · (try dsimp only)
                  exact hK16 (-1073741820) κ11 ⟨rfl, trivial⟩
            · skip
              refine ⟨fun c9 => ?_, fun c9 => ?_⟩
              · refine ⟨bn7, ebn7, (hV.mm hsn7 (by decide) rfl), ?_⟩
                intro z73 ez73
                have vz73 := hV.1.iv hsn7 (by decide) rfl 6 0 12 rfl ez73
                have wz73 : z73.toInt = (sI κ11.1 bn7 6).toInt := by rw [ez73]
                exact hK43 z73 κ11 ⟨rfl, (by (try dsimp only); omega)⟩
              · intro z74 ez74
                try have hz74 := i_add ez74 (by omega) (by omega)
                have rg_z74 := i_range z74
                exact hK43 z74 κ11 ⟨rfl, (by (try dsimp only); omega)⟩
        · exact hK16 x10.2.1 κ11 ⟨rfl, trivial⟩
  · skip
    refine ⟨fun c10 => ?_, fun c10 => ?_⟩
    · exact hK7 12 κ3 ⟨rfl, (by (try dsimp only); omega)⟩
    · exact hK7 64 κ3 ⟨rfl, (by (try dsimp only); omega)⟩
set_option maxRecDepth 100000 in
set_option maxHeartbeats 4000000 in
theorem t_X11_queryDirectory {G : GE} {E : CE} {W0 : CW} {c : Int} {κ : CS} (hV : CV G E W0 c κ) (h : Nat) (hs_h : W0.1 h = 1) (a1 : Option Nat) (b_a1 : Nat) (e_a1 : a1 = some b_a1) (hs_a1 : W0.1 b_a1 = 8) (a2 : Option Nat) (b_a2 : Nat) (e_a2 : a2 = some b_a2) (hs_a2 : W0.1 b_a2 = 10)  (hc : 52 ≤ c) {post : Int32 → CS → Prop} (kk : ∀ (r : Int32) (W' : CW) (κ' : CS), WX W0 W' κ → CV G E W' (c - 52) κ' → CF [(10, 11), (10, 12), (10, 14), (20, 0), (21, 0), (30, 0), (61, 0), (61, 1)] W0 κ κ' → (True) → post r κ') : F_X11_queryDirectory G h a1 a2 post κ := by
  have hs0_h := hs_h
  have hs0_a1 := hs_a1
  have hs0_a2 := hs_a2
  suffices H_ : ∀ W : CW, WX W0 W κ → CV G E W (c - 0) κ → (W.1 h = 1) → (W.1 b_a1 = 8) → (W.1 b_a2 = 10) → F_X11_queryDirectory G h a1 a2 post κ from H_ W0 WX.rf (hV.dn (by omega)) hs_h hs_a1 hs_a2
  intro W hx hV hs_h hs_a1 hs_a2
  unfold F_X11_queryDirectory
  have hfr : CF [(10, 11), (10, 12), (10, 14), (20, 0), (21, 0), (30, 0), (61, 0), (61, 1)] W0 κ κ := CF.rf
  have k_m2147483642 : ((-2147483642) : Int32).toInt = (-2147483642) := rfl
  have k_m1073741821 : ((-1073741821) : Int32).toInt = (-1073741821) := rfl
  have k_m1073741811 : ((-1073741811) : Int32).toInt = (-1073741811) := rfl
  have k_m1073741809 : ((-1073741809) : Int32).toInt = (-1073741809) := rfl
  have k_m1073741790 : ((-1073741790) : Int32).toInt = (-1073741790) := rfl
  have k_m1073741773 : ((-1073741773) : Int32).toInt = (-1073741773) := rfl
  have k_0 : (0 : Int32).toInt = 0 := rfl
  have k_1 : (1 : Int32).toInt = 1 := rfl
  have k_2 : (2 : Int32).toInt = 2 := rfl
  have k_4 : (4 : Int32).toInt = 4 := rfl
  have k_12 : (12 : Int32).toInt = 12 := rfl
  have k_40 : (40 : Int32).toInt = 40 := rfl
  have k_66 : (66 : Int32).toInt = 66 := rfl
  have k_67 : (67 : Int32).toInt = 67 := rfl
  have k_82 : (82 : Int32).toInt = 82 := rfl
  have k_88 : (88 : Int32).toInt = 88 := rfl
  have k_90 : (90 : Int32).toInt = 90 := rfl
  have k_92 : (92 : Int32).toInt = 92 := rfl
  have kl_m1073741821 : ((-1073741821) : Int64).toInt = (-1073741821) := rfl
  have kl_m1073741811 : ((-1073741811) : Int64).toInt = (-1073741811) := rfl
  have kl_m1073741790 : ((-1073741790) : Int64).toInt = (-1073741790) := rfl
  have kl_m1073741773 : ((-1073741773) : Int64).toInt = (-1073741773) := rfl
  have kl_1 : (1 : Int64).toInt = 1 := rfl
  have kl_2 : (2 : Int64).toInt = 2 := rfl
  have kl_4 : (4 : Int64).toInt = 4 := rfl
  have kl_66 : (66 : Int64).toInt = 66 := rfl
  have kl_67 : (67 : Int64).toInt = 67 := rfl
  have kl_88 : (88 : Int64).toInt = 88 := rfl
  have kl_90 : (90 : Int64).toInt = 90 := rfl
  have kl_92 : (92 : Int64).toInt = 92 := rfl
  have kl_1024 : (1024 : Int64).toInt = 1024 := rfl
  refine ⟨b_a1, e_a1, (hV.mm hs_a1 (by decide) rfl), ?_⟩
  refine t2_X0_number hV b_a1 hs_a1 92 4  (by decide) (fun z2 pz2 => ?_)
  have rg_z2 := l_range z2
  refine ⟨b_a1, e_a1, (hV.mm hs_a1 (by decide) rfl), ?_⟩
  refine t2_X0_number hV b_a1 hs_a1 66 1  (by decide) (fun z4 pz4 => ?_)
  have rg_z4 := l_range z4
  intro z5 ez5
  try have hz5 := l_toi ez5 (by omega) (by omega)
  have rg_z5 := i_range z5
  refine ⟨b_a1, e_a1, (hV.mm hs_a1 (by decide) rfl), ?_⟩
  refine t2_X0_number hV b_a1 hs_a1 67 1  (by decide) (fun z7 pz7 => ?_)
  have rg_z7 := l_range z7
  intro z8 ez8
  try have hz8 := l_toi ez8 (by omega) (by omega)
  have rg_z8 := i_range z8
  refine jc_dup ?_
  refine ⟨fun c1 => ?_, fun c1 => ?_⟩
  · (try dsimp only)
    exact kk (-1073741811) W κ hx (hV.dn (by omega)) hfr trivial
  · refine ⟨b_a2, e_a2, (hV.mm hs_a2 (by decide) rfl), ?_⟩
    intro z14 ez14
    obtain ⟨bz14, ebz14, hsz14⟩ := hV.1.nn hs_a2 (by decide) rfl 2 rfl (by decide)
    have ebz14 := ez14.trans ebz14
    refine ⟨bz14, ebz14, (hV.mm hsz14 (by decide) rfl), ?_⟩
    intro z15 ez15
    have vz15 := hV.1.iv hsz14 (by decide) rfl 2 0 1 rfl ez15
    have wz15 : z15.toInt = (sI κ.1 bz14 2).toInt := by rw [ez15]
    refine ⟨fun c2 => ?_, fun c2 => ?_⟩
    · refine jc_in (fun (x : Unit) (κ' : CS) => κ = κ' ∧ ((True))) (fun x16 κ17 hJ => ?_) (fun K18 hK18 => ?_)
      · obtain ⟨hsg, hv⟩ := hJ
        subst hsg
        (try dsimp only at hv)
        refine ⟨b_a2, e_a2, (hV.mm hs_a2 (by decide) rfl), ?_⟩
        intro z21 ez21
        have vz21 := hV.1.iv hs_a2 (by decide) rfl 3 (-2147483648) 2147483647 rfl ez21
        have wz21 : z21.toInt = (sI κ.1 b_a2 3).toInt := by rw [ez21]
        intro z22 ez22
        try have hz22 := i_and1 ez22 (by omega)
        have rg_z22 := i_range z22
        refine ⟨fun c3 => ?_, fun c3 => ?_⟩
        · refine ⟨b_a2, e_a2, (hV.mm hs_a2 (by decide) rfl), ?_⟩
          intro z23 ez23
          have nz23 := hV.1.nl hs_a2 (by decide) rfl 11 rfl (by decide)
          rw [← ez23] at nz23
          refine jc_in (fun (x : Int32) (κ' : CS) => κ = κ' ∧ (((0 ≤ x.toInt ∧ x.toInt ≤ 1)))) (fun x24 κ25 hJ => ?_) (fun K26 hK26 => ?_)
          · obtain ⟨hsg, hv⟩ := hJ
            subst hsg
            (try dsimp only at hv)
            have rg_x24 := i_range x24
            refine jc_in (fun (x : Unit) (κ' : CS) => ∃ W' : CW, WLe W W' ∧ WX W0 W' κ ∧ CV G E W' (c - 52) κ' ∧ CF [(10, 11), (10, 12), (10, 14), (20, 0), (21, 0), (30, 0), (61, 0), (61, 1)] W0 κ κ' ∧ ((True))) (fun x29 κ30 hJ => ?_) (fun K31 hK31 => ?_)
            · obtain ⟨W, le151, hx, hV, hfr, hv⟩ := hJ
              have hs_h := WLe.at le151 hs_h (by decide)
              have hs_a1 := WLe.at le151 hs_a1 (by decide)
              have hs_a2 := WLe.at le151 hs_a2 (by decide)
              have hsz14 := WLe.at le151 hsz14 (by decide)
              have nz23 := nul_up le151 nz23 (by decide)
              (try dsimp only at hv)
              intro z34 ez34
              try have hz34 := i_and ez34 (by omega)
              have rg_z34 := i_range z34
              refine jc_in (fun (x : Int32) (κ' : CS) => κ30 = κ' ∧ ((True))) (fun x35 κ36 hJ => ?_) (fun K37 hK37 => ?_)
              · obtain ⟨hsg, hv⟩ := hJ
                subst hsg
                (try dsimp only at hv)
                have rg_x35 := i_range x35
                intro z40 ez40
                try have hz40 := l_toi ez40 (by omega) (by omega)
                have rg_z40 := i_range z40
                refine ⟨(hV.mm hs_h (by decide) rfl), ?_⟩
                refine t_X11_list hV h hs_h a2 b_a2 e_a2 hs_a2 z5 z40 x35 (by omega) (by omega) (fun z42 W κ41 x1_ hV fκ41 pz42 => ?_)
                have hV : CV G E W (c - 52) κ41 := hV.dn (by omega)
                have hx2 := hx.tr x1_ hfr.sl
                have hfr := hfr.trW hx fκ41 (by decide)
                have hs_h := WLe.at (x1_).1 hs_h (by decide)
                have hs_a1 := WLe.at (x1_).1 hs_a1 (by decide)
                have hs_a2 := WLe.at (x1_).1 hs_a2 (by decide)
                have hsz14 := WLe.at (x1_).1 hsz14 (by decide)
                have nz23 := nul_up (x1_).1 nz23 (by decide)
                have hx := hx2
                have rg_z42 := i_range z42
                refine jc_dup ?_
                refine jc_dup ?_
                refine ⟨fun c4 => ?_, fun c4 => ?_⟩
                · (try dsimp only)
                  (try dsimp only)
                  exact kk z42 W κ41 hx (hV.dn (by omega)) hfr trivial
                · refine ⟨fun c5 => ?_, fun c5 => ?_⟩
                  · (try dsimp only)
                    (try dsimp only)
                    exact kk z42 W κ41 hx (hV.dn (by omega)) hfr trivial
                  · (try dsimp only)
                    exact kk (-1073741809) W κ41 hx (hV.dn (by omega)) hfr trivial
              · skip
                refine ⟨fun c6 => ?_, fun c6 => ?_⟩
                · exact hK37 82 κ30 ⟨rfl, trivial⟩
                · exact hK37 1 κ30 ⟨rfl, trivial⟩
            · skip
              have le151 : WLe W W := WLe.rf
              refine ⟨fun c7 => ?_, fun c7 => ?_⟩
              · exact hK31 () κ ⟨W, le151, hx, hV.dn (by (try dsimp only); omega), hfr, trivial⟩
              · refine ⟨b_a1, e_a1, (hV.mm hs_a1 (by decide) rfl), ?_⟩
                refine t2_X0_number hV b_a1 hs_a1 90 2  (by decide) (fun z54 pz54 => ?_)
                have rg_z54 := l_range z54
                intro z55 ez55
                try have hz55 := l_toi ez55 (by omega) (by omega)
                have rg_z55 := i_range z55
                intro z56 ez56
                try have hz56 := i_rem 2 rfl ez56 (by omega) (by omega)
                have rg_z56 := i_range z56
                refine jc_dup ?_
                refine ⟨fun c8 => ?_, fun c8 => ?_⟩
                · (try dsimp only)
                  exact kk (-1073741773) W κ hx (hV.dn (by omega)) hfr trivial
                · refine ⟨fun c9 => ?_, fun c9 => ?_⟩
                  · refine ⟨b_a1, e_a1, (hV.mm hs_a1 (by decide) rfl), ?_⟩
                    refine t2_X0_number hV b_a1 hs_a1 88 2  (by decide) (fun z63 pz63 => ?_)
                    have rg_z63 := l_range z63
                    intro z64 ez64
                    try have hz64 := l_toi ez64 (by omega) (by omega)
                    have rg_z64 := i_range z64
                    intro z65 ez65
                    try have hz65 := i_div 2 rfl ez65 (by omega) (by omega)
                    have rg_z65 := i_range z65
                    refine ⟨b_a2, e_a2, (hV.mm hs_a2 (by decide) rfl), ?_⟩
                    refine t_X5_takePattern hV b_a2 hs_a2 a1 b_a1 e_a1 hs_a1 z64 z65 (by omega) (by omega) (fun W κ66 x1_ hV fκ66 pu7 => ?_)
                    have hV : CV G E W (c - 52) κ66 := hV.dn (by omega)
                    have hx2 := hx.tr x1_ hfr.sl
                    have hfr := hfr.trW hx fκ66 (by decide)
                    have hs_h := WLe.at (x1_).1 hs_h (by decide)
                    have hs_a1 := WLe.at (x1_).1 hs_a1 (by decide)
                    have hs_a2 := WLe.at (x1_).1 hs_a2 (by decide)
                    have hsz14 := WLe.at (x1_).1 hsz14 (by decide)
                    have nz23 := nul_up (x1_).1 nz23 (by decide)
                    have le151 := WLe.tr le151 (x1_).1
                    have hx := hx2
                    exact hK31 () κ66 ⟨W, le151, hx, hV.dn (by (try dsimp only); omega), hfr, trivial⟩
                  · (try dsimp only)
                    exact kk (-1073741773) W κ hx (hV.dn (by omega)) hfr trivial
          · skip
            refine jc_dup ?_
            refine ⟨fun c10 => ?_, fun c10 => ?_⟩
            · (try dsimp only)
              exact hK26 1 κ ⟨rfl, (by (try dsimp only); omega)⟩
            · obtain ⟨bn8, ebn8, hsn8⟩ := nz23.resolve_left c10
              intro z73 ez73
              try have hz73 := i_and1 ez73 (by omega)
              have rg_z73 := i_range z73
              refine ⟨fun c11 => ?_, fun c11 => ?_⟩
              · exact hK26 0 κ ⟨rfl, (by (try dsimp only); omega)⟩
              · (try dsimp only)
                exact hK26 1 κ ⟨rfl, (by (try dsimp only); omega)⟩
        · exact kk (-1073741790) W κ hx (hV.dn (by omega)) hfr trivial
      · skip
        refine ⟨fun c12 => ?_, fun c12 => ?_⟩
        · exact hK18 () κ ⟨rfl, trivial⟩
        · refine ⟨fun c13 => ?_, fun c13 => ?_⟩
          · exact hK18 () κ ⟨rfl, trivial⟩
          · exact kk (-1073741821) W κ hx (hV.dn (by omega)) hfr trivial
    · (try dsimp only)
      exact kk (-1073741811) W κ hx (hV.dn (by omega)) hfr trivial
set_option maxRecDepth 100000 in
set_option maxHeartbeats 4000000 in
theorem t_X11_queryInfo {G : GE} {E : CE} {W0 : CW} {c : Int} {κ : CS} (hV : CV G E W0 c κ) (h : Nat) (hs_h : W0.1 h = 1) (a1 : Option Nat) (b_a1 : Nat) (e_a1 : a1 = some b_a1) (hs_a1 : W0.1 b_a1 = 8) (a2 : Option Nat) (b_a2 : Nat) (e_a2 : a2 = some b_a2) (hs_a2 : W0.1 b_a2 = 10)  (hc : 0 ≤ c) {post : Int32 → CS → Prop} (kk : ∀ (r : Int32) (W' : CW) (κ' : CS), WX W0 W' κ → CV G E W' (c - 0) κ' → CF [(20, 0), (61, 0), (61, 1)] W0 κ κ' → (True) → post r κ') : F_X11_queryInfo G h a1 a2 post κ := by
  have hs0_h := hs_h
  have hs0_a1 := hs_a1
  have hs0_a2 := hs_a2
  suffices H_ : ∀ W : CW, WX W0 W κ → CV G E W (c - 0) κ → (W.1 h = 1) → (W.1 b_a1 = 8) → (W.1 b_a2 = 10) → F_X11_queryInfo G h a1 a2 post κ from H_ W0 WX.rf (hV.dn (by omega)) hs_h hs_a1 hs_a2
  intro W hx hV hs_h hs_a1 hs_a2
  unfold F_X11_queryInfo
  have hfr : CF [(20, 0), (61, 0), (61, 1)] W0 κ κ := CF.rf
  have k_m1073741821 : ((-1073741821) : Int32).toInt = (-1073741821) := rfl
  have k_m1073741820 : ((-1073741820) : Int32).toInt = (-1073741820) := rfl
  have k_m1073741790 : ((-1073741790) : Int32).toInt = (-1073741790) := rfl
  have k_0 : (0 : Int32).toInt = 0 := rfl
  have k_1 : (1 : Int32).toInt = 1 := rfl
  have k_2 : (2 : Int32).toInt = 2 := rfl
  have k_4 : (4 : Int32).toInt = 4 := rfl
  have k_8 : (8 : Int32).toInt = 8 := rfl
  have k_9 : (9 : Int32).toInt = 9 := rfl
  have k_24 : (24 : Int32).toInt = 24 := rfl
  have k_40 : (40 : Int32).toInt = 40 := rfl
  have k_64 : (64 : Int32).toInt = 64 := rfl
  have k_66 : (66 : Int32).toInt = 66 := rfl
  have k_67 : (67 : Int32).toInt = 67 := rfl
  have k_68 : (68 : Int32).toInt = 68 := rfl
  have k_72 : (72 : Int32).toInt = 72 := rfl
  have k_80 : (80 : Int32).toInt = 80 := rfl
  have k_88 : (88 : Int32).toInt = 88 := rfl
  have k_92 : (92 : Int32).toInt = 92 := rfl
  have k_104 : (104 : Int32).toInt = 104 := rfl
  have k_112 : (112 : Int32).toInt = 112 := rfl
  have k_128 : (128 : Int32).toInt = 128 := rfl
  have k_136 : (136 : Int32).toInt = 136 := rfl
  have k_148 : (148 : Int32).toInt = 148 := rfl
  have k_512 : (512 : Int32).toInt = 512 := rfl
  have kl_m1073741821 : ((-1073741821) : Int64).toInt = (-1073741821) := rfl
  have kl_m1073741820 : ((-1073741820) : Int64).toInt = (-1073741820) := rfl
  have kl_m1073741790 : ((-1073741790) : Int64).toInt = (-1073741790) := rfl
  have kl_0 : (0 : Int64).toInt = 0 := rfl
  have kl_1 : (1 : Int64).toInt = 1 := rfl
  have kl_2 : (2 : Int64).toInt = 2 := rfl
  have kl_4 : (4 : Int64).toInt = 4 := rfl
  have kl_8 : (8 : Int64).toInt = 8 := rfl
  have kl_9 : (9 : Int64).toInt = 9 := rfl
  have kl_64 : (64 : Int64).toInt = 64 := rfl
  have kl_66 : (66 : Int64).toInt = 66 := rfl
  have kl_67 : (67 : Int64).toInt = 67 := rfl
  have kl_68 : (68 : Int64).toInt = 68 := rfl
  have kl_72 : (72 : Int64).toInt = 72 := rfl
  have kl_80 : (80 : Int64).toInt = 80 := rfl
  have kl_88 : (88 : Int64).toInt = 88 := rfl
  have kl_92 : (92 : Int64).toInt = 92 := rfl
  have kl_104 : (104 : Int64).toInt = 104 := rfl
  have kl_128 : (128 : Int64).toInt = 128 := rfl
  have kl_136 : (136 : Int64).toInt = 136 := rfl
  have kl_148 : (148 : Int64).toInt = 148 := rfl
  have kl_512 : (512 : Int64).toInt = 512 := rfl
  refine ⟨b_a1, e_a1, (hV.mm hs_a1 (by decide) rfl), ?_⟩
  refine t2_X0_number hV b_a1 hs_a1 66 1  (by decide) (fun z2 pz2 => ?_)
  have rg_z2 := l_range z2
  intro z3 ez3
  try have hz3 := l_toi ez3 (by omega) (by omega)
  have rg_z3 := i_range z3
  refine ⟨b_a1, e_a1, (hV.mm hs_a1 (by decide) rfl), ?_⟩
  refine t2_X0_number hV b_a1 hs_a1 67 1  (by decide) (fun z5 pz5 => ?_)
  have rg_z5 := l_range z5
  intro z6 ez6
  try have hz6 := l_toi ez6 (by omega) (by omega)
  have rg_z6 := i_range z6
  refine t_X11_infoSize hV z3 z6  (fun z8 pz8 => ?_)
  have rg_z8 := i_range z8
  refine ⟨fun c1 => ?_, fun c1 => ?_⟩
  · refine jc_in (fun (x : Unit) (κ' : CS) => κ = κ' ∧ ((True))) (fun x9 κ10 hJ => ?_) (fun K11 hK11 => ?_)
    · obtain ⟨hsg, hv⟩ := hJ
      subst hsg
      (try dsimp only at hv)
      refine ⟨b_a1, e_a1, (hV.mm hs_a1 (by decide) rfl), ?_⟩
      refine t2_X0_number hV b_a1 hs_a1 68 4  (by decide) (fun z15 pz15 => ?_)
      have rg_z15 := l_range z15
      intro z16 ez16
      have hz16 := i_tol ez16
      have rg_z16 := l_range z16
      refine ⟨fun c2 => ?_, fun c2 => ?_⟩
      · refine ⟨(hV.mm hs_h (by decide) rfl), ?_⟩
        intro z17 ez17
        obtain ⟨bz17, ebz17, hsz17⟩ := hV.1.nn hs_h (by decide) rfl 15 rfl (by decide)
        have ebz17 := ez17.trans ebz17
        intro z18 ez18
        try have hz18 := i_add ez18 (by omega) (by omega)
        have rg_z18 := i_range z18
        refine ⟨bz17, ebz17, (hV.mm hsz17 (by decide) rfl), ?_⟩
        refine t_X6_begin hV bz17 hsz17 z18 (by omega) (by omega) (fun W κ19 x1_ hV fκ19 pu5 => ?_)
        have hV : CV G E W (c - 0) κ19 := hV.dn (by omega)
        have hx2 := hx.tr x1_ hfr.sl
        have hfr := hfr.trW hx fκ19 (by decide)
        have hs_h := WLe.at (x1_).1 hs_h (by decide)
        have hs_a1 := WLe.at (x1_).1 hs_a1 (by decide)
        have hs_a2 := WLe.at (x1_).1 hs_a2 (by decide)
        have hsz17 := WLe.at (x1_).1 hsz17 (by decide)
        have hx := hx2
        refine ⟨(hV.mm hs_h (by decide) rfl), ?_⟩
        intro z21 ez21
        have ebz21 : z21 = some bz17 := (ez21.trans (hfr.1 h (by rw [hs0_h]; decide) 15 (by rw [hs0_h]; decide)).2.2).trans (ez17.symm.trans ebz17)
        refine ⟨bz17, ebz21, (hV.mm hsz17 (by decide) rfl), ?_⟩
        refine t_X6_put hV bz17 hsz17 rfl 64 2 9  (fun κ22 hV fκ22 pu6 => ?_)
        have hfr := hfr.trW hx fκ22 (by decide)
        refine ⟨(hV.mm hs_h (by decide) rfl), ?_⟩
        intro z24 ez24
        have ebz24 : z24 = some bz17 := (ez24.trans (hfr.1 h (by rw [hs0_h]; decide) 15 (by rw [hs0_h]; decide)).2.2).trans (ez17.symm.trans ebz17)
        refine ⟨bz17, ebz24, (hV.mm hsz17 (by decide) rfl), ?_⟩
        refine t_X6_put hV bz17 hsz17 rfl 66 2 72  (fun κ25 hV fκ25 pu7 => ?_)
        have hfr := hfr.trW hx fκ25 (by decide)
        refine ⟨(hV.mm hs_h (by decide) rfl), ?_⟩
        intro z27 ez27
        have ebz27 : z27 = some bz17 := (ez27.trans (hfr.1 h (by rw [hs0_h]; decide) 15 (by rw [hs0_h]; decide)).2.2).trans (ez17.symm.trans ebz17)
        intro z28 ez28
        have hz28 := i_tol ez28
        have rg_z28 := l_range z28
        refine ⟨bz17, ebz27, (hV.mm hsz17 (by decide) rfl), ?_⟩
        refine t_X6_put hV bz17 hsz17 rfl 68 4 z28  (fun κ29 hV fκ29 pu8 => ?_)
        have hfr := hfr.trW hx fκ29 (by decide)
        refine ⟨fun c3 => ?_, fun c3 => ?_⟩
        · refine jc_in (fun (x : Unit) (κ' : CS) => ∃ W' : CW, WLe W W' ∧ WX W0 W' κ ∧ CV G E W' (c - 0) κ' ∧ CF [(20, 0), (61, 0), (61, 1)] W0 κ κ' ∧ ((True))) (fun x31 κ32 hJ => ?_) (fun K33 hK33 => ?_)
          · obtain ⟨W, le226, hx, hV, hfr, hv⟩ := hJ
            have hs_h := WLe.at le226 hs_h (by decide)
            have hs_a1 := WLe.at le226 hs_a1 (by decide)
            have hs_a2 := WLe.at le226 hs_a2 (by decide)
            have hsz17 := WLe.at le226 hsz17 (by decide)
            (try dsimp only at hv)
            refine jc_in (fun (x : Unit) (κ' : CS) => ∃ W' : CW, WLe W W' ∧ WX W0 W' κ ∧ CV G E W' (c - 0) κ' ∧ CF [(20, 0), (61, 0), (61, 1)] W0 κ κ' ∧ ((True))) (fun x36 κ37 hJ => ?_) (fun K38 hK38 => ?_)
            · obtain ⟨W, le258, hx, hV, hfr, hv⟩ := hJ
              have hs_h := WLe.at le258 hs_h (by decide)
              have hs_a1 := WLe.at le258 hs_a1 (by decide)
              have hs_a2 := WLe.at le258 hs_a2 (by decide)
              have hsz17 := WLe.at le258 hsz17 (by decide)
              (try dsimp only at hv)
              refine jc_dup ?_
              refine ⟨fun c4 => ?_, fun c4 => ?_⟩
              · (try dsimp only)
                exact kk 0 W κ37 hx (hV.dn (by omega)) hfr trivial
              · refine ⟨(hV.mm hs_h (by decide) rfl), ?_⟩
                intro z46 ez46
                have ebz46 : z46 = some bz17 := (ez46.trans (hfr.1 h (by rw [hs0_h]; decide) 15 (by rw [hs0_h]; decide)).2.2).trans (ez17.symm.trans ebz17)
                refine ⟨b_a2, e_a2, (hV.mm hs_a2 (by decide) rfl), ?_⟩
                intro z47 ez47
                obtain ⟨bz47, ebz47, hsz47⟩ := hV.1.nn hs_a2 (by decide) rfl 2 rfl (by decide)
                have ebz47 := ez47.trans ebz47
                refine ⟨bz47, ebz47, (hV.mm hsz47 (by decide) rfl), ?_⟩
                intro z48 ez48
                have vz48 := hV.1.iv hsz47 (by decide) rfl 0 (-2147483648) 2147483647 rfl ez48
                have wz48 : z48.toInt = (sI κ37.1 bz47 0).toInt := by rw [ez48]
                intro z49 ez49
                have hz49 := i_tol ez49
                have rg_z49 := l_range z49
                refine ⟨bz17, ebz46, (hV.mm hsz17 (by decide) rfl), ?_⟩
                refine t_X6_put hV bz17 hsz17 rfl 136 8 z49  (fun κ50 hV fκ50 pu9 => ?_)
                have hfr := hfr.trW hx fκ50 (by decide)
                refine ⟨(hV.mm hs_h (by decide) rfl), ?_⟩
                intro z52 ez52
                have ebz52 : z52 = some bz17 := (ez52.trans (hfr.1 h (by rw [hs0_h]; decide) 15 (by rw [hs0_h]; decide)).2.2).trans (ez17.symm.trans ebz17)
                refine ⟨b_a2, e_a2, (hV.mm hs_a2 (by decide) rfl), ?_⟩
                intro z53 ez53
                have vz53 := hV.1.iv hs_a2 (by decide) rfl 3 (-2147483648) 2147483647 rfl ez53
                have wz53 : z53.toInt = (sI κ50.1 b_a2 3).toInt := by rw [ez53]
                have w0z53 : z53.toInt = (sI κ.1 b_a2 3).toInt := by rw [ez53, (hfr.1 b_a2 (by rw [hs0_a2]; decide) 3 (by rw [hs0_a2]; decide)).1]
                intro z54 ez54
                have hz54 := i_tol ez54
                have rg_z54 := l_range z54
                refine ⟨bz17, ebz52, (hV.mm hsz17 (by decide) rfl), ?_⟩
                refine t_X6_put hV bz17 hsz17 rfl 148 4 z54  (fun κ55 hV fκ55 pu10 => ?_)
                have hfr := hfr.trW hx fκ55 (by decide)
                (try dsimp only)
                exact kk 0 W κ55 hx (hV.dn (by omega)) hfr trivial
            · skip
              have le258 : WLe W W := WLe.rf
              refine ⟨fun c5 => ?_, fun c5 => ?_⟩
              · exact hK38 () κ32 ⟨W, le258, hx, hV.dn (by (try dsimp only); omega), hfr, trivial⟩
              · refine ⟨b_a2, e_a2, (hV.mm hs_a2 (by decide) rfl), ?_⟩
                intro z57 ez57
                obtain ⟨bz57, ebz57, hsz57⟩ := hV.1.nn hs_a2 (by decide) rfl 2 rfl (by decide)
                have ebz57 := ez57.trans ebz57
                refine ⟨(hV.mm hs_h (by decide) rfl), ?_⟩
                intro z58 ez58
                have ebz58 : z58 = some bz17 := (ez58.trans (hfr.1 h (by rw [hs0_h]; decide) 15 (by rw [hs0_h]; decide)).2.2).trans (ez17.symm.trans ebz17)
                refine jc_dup ?_
                refine ⟨fun c6 => ?_, fun c6 => ?_⟩
                · (try dsimp only)
                  refine ⟨bz57, ebz57, (hV.mm hsz57 (by decide) rfl), ?_⟩
                  refine t_X4_tellStanding hV bz57 hsz57 z58 bz17 ebz58 hsz17 rfl 112  (fun κ64 hV fκ64 pu11 => ?_)
                  have hfr := hfr.trW hx fκ64 (by decide)
                  exact hK38 () κ64 ⟨W, le258, hx, hV.dn (by (try dsimp only); omega), hfr, trivial⟩
                · (try dsimp only)
                  refine ⟨bz57, ebz57, (hV.mm hsz57 (by decide) rfl), ?_⟩
                  refine t_X4_tellStanding hV bz57 hsz57 z58 bz17 ebz58 hsz17 rfl 72  (fun κ64 hV fκ64 pu12 => ?_)
                  have hfr := hfr.trW hx fκ64 (by decide)
                  exact hK38 () κ64 ⟨W, le258, hx, hV.dn (by (try dsimp only); omega), hfr, trivial⟩
          · skip
            have le226 : WLe W W := WLe.rf
            refine ⟨fun c7 => ?_, fun c7 => ?_⟩
            · exact hK33 () κ29 ⟨W, le226, hx, hV.dn (by (try dsimp only); omega), hfr, trivial⟩
            · refine ⟨b_a2, e_a2, (hV.mm hs_a2 (by decide) rfl), ?_⟩
              intro z66 ez66
              obtain ⟨bz66, ebz66, hsz66⟩ := hV.1.nn hs_a2 (by decide) rfl 2 rfl (by decide)
              have ebz66 := ez66.trans ebz66
              refine ⟨(hV.mm hs_h (by decide) rfl), ?_⟩
              intro z67 ez67
              have ebz67 : z67 = some bz17 := (ez67.trans (hfr.1 h (by rw [hs0_h]; decide) 15 (by rw [hs0_h]; decide)).2.2).trans (ez17.symm.trans ebz17)
              refine ⟨bz66, ebz66, (hV.mm hsz66 (by decide) rfl), ?_⟩
              refine t_X4_tellTimes hV bz66 hsz66 z67 bz17 ebz67 hsz17 rfl 72  (fun κ68 hV fκ68 pu13 => ?_)
              have hfr := hfr.trW hx fκ68 (by decide)
              refine ⟨(hV.mm hs_h (by decide) rfl), ?_⟩
              intro z70 ez70
              have ebz70 : z70 = some bz17 := (ez70.trans (hfr.1 h (by rw [hs0_h]; decide) 15 (by rw [hs0_h]; decide)).2.2).trans (ez17.symm.trans ebz17)
              refine ⟨b_a2, e_a2, (hV.mm hs_a2 (by decide) rfl), ?_⟩
              intro z71 ez71
              obtain ⟨bz71, ebz71, hsz71⟩ := hV.1.nn hs_a2 (by decide) rfl 2 rfl (by decide)
              have ebz71 := ez71.trans ebz71
              refine ⟨bz71, ebz71, (hV.mm hsz71 (by decide) rfl), ?_⟩
              refine t_X4_toldAttributes hV bz71 hsz71  (fun z73 pz73 => ?_)
              have rg_z73 := i_range z73
              intro z74 ez74
              have hz74 := i_tol ez74
              have rg_z74 := l_range z74
              refine ⟨bz17, ebz70, (hV.mm hsz17 (by decide) rfl), ?_⟩
              refine t_X6_put hV bz17 hsz17 rfl 104 4 z74  (fun κ75 hV fκ75 pu15 => ?_)
              have hfr := hfr.trW hx fκ75 (by decide)
              exact hK33 () κ75 ⟨W, le226, hx, hV.dn (by (try dsimp only); omega), hfr, trivial⟩
        · refine ⟨(hV.mm hs_h (by decide) rfl), ?_⟩
          intro z77 ez77
          have ebz77 : z77 = some bz17 := (ez77.trans (hfr.1 h (by rw [hs0_h]; decide) 15 (by rw [hs0_h]; decide)).2.2).trans (ez17.symm.trans ebz17)
          refine ⟨bz17, ebz77, (hV.mm hsz17 (by decide) rfl), ?_⟩
          refine t_X6_put hV bz17 hsz17 rfl 72 8 80  (fun κ78 hV fκ78 pu16 => ?_)
          have hfr := hfr.trW hx fκ78 (by decide)
          refine ⟨(hV.mm hs_h (by decide) rfl), ?_⟩
          intro z80 ez80
          have ebz80 : z80 = some bz17 := (ez80.trans (hfr.1 h (by rw [hs0_h]; decide) 15 (by rw [hs0_h]; decide)).2.2).trans (ez17.symm.trans ebz17)
          refine ⟨(hV.mm hs_h (by decide) rfl), ?_⟩
          intro z81 ez81
          obtain ⟨bz81, ebz81, hsz81⟩ := hV.1.nn hs_h (by decide) rfl 3 rfl (by decide)
          have ebz81 := ez81.trans ebz81
          refine ⟨bz81, ebz81, (hV.mm hsz81 (by decide) rfl), ?_⟩
          intro z82 ez82
          have vz82 := hV.1.iv hsz81 (by decide) rfl 1 (-2147483648) 2147483647 rfl ez82
          have wz82 : z82.toInt = (sI κ78.1 bz81 1).toInt := by rw [ez82]
          intro z83 ez83
          try have hz83 := i_sub ez83 (by omega) (by omega)
          have rg_z83 := i_range z83
          intro z84 ez84
          have hz84 := i_tol ez84
          have rg_z84 := l_range z84
          refine ⟨bz17, ebz80, (hV.mm hsz17 (by decide) rfl), ?_⟩
          refine t_X6_put hV bz17 hsz17 rfl 80 8 z84  (fun κ85 hV fκ85 pu17 => ?_)
          have hfr := hfr.trW hx fκ85 (by decide)
          refine ⟨(hV.mm hs_h (by decide) rfl), ?_⟩
          intro z87 ez87
          have ebz87 : z87 = some bz17 := (ez87.trans (hfr.1 h (by rw [hs0_h]; decide) 15 (by rw [hs0_h]; decide)).2.2).trans (ez17.symm.trans ebz17)
          refine ⟨bz17, ebz87, (hV.mm hsz17 (by decide) rfl), ?_⟩
          refine t_X6_put hV bz17 hsz17 rfl 88 4 1  (fun κ88 hV fκ88 pu18 => ?_)
          have hfr := hfr.trW hx fκ88 (by decide)
          refine ⟨(hV.mm hs_h (by decide) rfl), ?_⟩
          intro z90 ez90
          have ebz90 : z90 = some bz17 := (ez90.trans (hfr.1 h (by rw [hs0_h]; decide) 15 (by rw [hs0_h]; decide)).2.2).trans (ez17.symm.trans ebz17)
          refine ⟨bz17, ebz90, (hV.mm hsz17 (by decide) rfl), ?_⟩
          refine t_X6_put hV bz17 hsz17 rfl 92 4 512  (fun κ91 hV fκ91 pu19 => ?_)
          have hfr := hfr.trW hx fκ91 (by decide)
          exact kk 0 W κ91 hx (hV.dn (by omega)) hfr trivial
      · exact kk (-1073741820) W κ hx (hV.dn (by omega)) hfr trivial
    · skip
      refine ⟨fun c8 => ?_, fun c8 => ?_⟩
      · exact hK11 () κ ⟨rfl, trivial⟩
      · refine ⟨b_a2, e_a2, (hV.mm hs_a2 (by decide) rfl), ?_⟩
        intro z93 ez93
        have vz93 := hV.1.iv hs_a2 (by decide) rfl 3 (-2147483648) 2147483647 rfl ez93
        have wz93 : z93.toInt = (sI κ.1 b_a2 3).toInt := by rw [ez93]
        intro z94 ez94
        try have hz94 := i_and ez94 (by omega)
        have rg_z94 := i_range z94
        refine ⟨fun c9 => ?_, fun c9 => ?_⟩
        · exact hK11 () κ ⟨rfl, trivial⟩
        · exact kk (-1073741790) W κ hx (hV.dn (by omega)) hfr trivial
  · exact kk (-1073741821) W κ hx (hV.dn (by omega)) hfr trivial
set_option maxRecDepth 100000 in
set_option maxHeartbeats 4000000 in
theorem t_X11_setValues {G : GE} {E : CE} {W0 : CW} {c : Int} {κ : CS} (hV : CV G E W0 c κ) (h : Nat) (hs_h : W0.1 h = 1) (a1 : Option Nat) (b_a1 : Nat) (e_a1 : a1 = some b_a1) (hs_a1 : W0.1 b_a1 = 8) (a2 : Option Nat) (b_a2 : Nat) (e_a2 : a2 = some b_a2) (hs_a2 : W0.1 b_a2 = 10) (a3 : Int32)  (hc : 0 ≤ c) {post : Int32 → CS → Prop} (kk : ∀ (r : Int32) (W' : CW) (κ' : CS), WX W0 W' κ → CV G E W' (c - 0) κ' → CF [(1, 6), (20, 0), (30, 0), (4, 0), (4, 1), (4, 10), (4, 11), (4, 12), (4, 13), (4, 2), (4, 3), (4, 5), (4, 6), (4, 7), (4, 8), (4, 9), (5, 1), (5, 10), (5, 11), (5, 12), (5, 13), (5, 2), (5, 3), (5, 4), (5, 6), (5, 7), (5, 8), (5, 9), (6, 1)] W0 κ κ' → (True) → post r κ') : F_X11_setValues G h a1 a2 a3 post κ := by
  have hs0_h := hs_h
  have hs0_a1 := hs_a1
  have hs0_a2 := hs_a2
  suffices H_ : ∀ W : CW, WX W0 W κ → CV G E W (c - 0) κ → (W.1 h = 1) → (W.1 b_a1 = 8) → (W.1 b_a2 = 10) → F_X11_setValues G h a1 a2 a3 post κ from H_ W0 WX.rf (hV.dn (by omega)) hs_h hs_a1 hs_a2
  intro W hx hV hs_h hs_a1 hs_a2
  unfold F_X11_setValues
  have hfr : CF [(1, 6), (20, 0), (30, 0), (4, 0), (4, 1), (4, 10), (4, 11), (4, 12), (4, 13), (4, 2), (4, 3), (4, 5), (4, 6), (4, 7), (4, 8), (4, 9), (5, 1), (5, 10), (5, 11), (5, 12), (5, 13), (5, 2), (5, 3), (5, 4), (5, 6), (5, 7), (5, 8), (5, 9), (6, 1)] W0 κ κ := CF.rf
  have k_0 : (0 : Int32).toInt = 0 := rfl
  have k_3 : (3 : Int32).toInt = 3 := rfl
  have k_4 : (4 : Int32).toInt = 4 := rfl
  have k_8 : (8 : Int32).toInt = 8 := rfl
  have k_16 : (16 : Int32).toInt = 16 := rfl
  have k_24 : (24 : Int32).toInt = 24 := rfl
  have k_32 : (32 : Int32).toInt = 32 := rfl
  have k_39 : (39 : Int32).toInt = 39 := rfl
  have kl_0 : (0 : Int64).toInt = 0 := rfl
  have kl_3 : (3 : Int64).toInt = 3 := rfl
  have kl_4 : (4 : Int64).toInt = 4 := rfl
  have kl_8 : (8 : Int64).toInt = 8 := rfl
  have kl_16 : (16 : Int64).toInt = 16 := rfl
  have kl_24 : (24 : Int64).toInt = 24 := rfl
  have kl_32 : (32 : Int64).toInt = 32 := rfl
  have kl_39 : (39 : Int64).toInt = 39 := rfl
  have rg_a3 := i_range a3
  refine ⟨b_a1, e_a1, (hV.mm hs_a1 (by decide) rfl), ?_⟩
  refine t_X0_number hV b_a1 hs_a1 a3 8  (fun z2 pz2 => ?_)
  have rg_z2 := l_range z2
  intro z3 ez3
  try have hz3 := i_add ez3 (by omega) (by omega)
  have rg_z3 := i_range z3
  refine ⟨b_a1, e_a1, (hV.mm hs_a1 (by decide) rfl), ?_⟩
  refine t_X0_number hV b_a1 hs_a1 z3 8  (fun z5 pz5 => ?_)
  have rg_z5 := l_range z5
  intro z6 ez6
  try have hz6 := i_add ez6 (by omega) (by omega)
  have rg_z6 := i_range z6
  refine ⟨b_a1, e_a1, (hV.mm hs_a1 (by decide) rfl), ?_⟩
  refine t_X0_number hV b_a1 hs_a1 z6 8  (fun z8 pz8 => ?_)
  have rg_z8 := l_range z8
  intro z9 ez9
  try have hz9 := i_add ez9 (by omega) (by omega)
  have rg_z9 := i_range z9
  refine ⟨b_a1, e_a1, (hV.mm hs_a1 (by decide) rfl), ?_⟩
  refine t_X0_number hV b_a1 hs_a1 z9 8  (fun z11 pz11 => ?_)
  have rg_z11 := l_range z11
  intro z12 ez12
  try have hz12 := i_add ez12 (by omega) (by omega)
  have rg_z12 := i_range z12
  refine ⟨b_a1, e_a1, (hV.mm hs_a1 (by decide) rfl), ?_⟩
  refine t2_X0_number hV b_a1 hs_a1 z12 4  (by decide) (fun z14 pz14 => ?_)
  have rg_z14 := l_range z14
  intro z15 ez15
  try have hz15 := l_toi ez15 (by omega) (by omega)
  have rg_z15 := i_range z15
  refine ⟨b_a2, e_a2, (hV.mm hs_a2 (by decide) rfl), ?_⟩
  intro z16 ez16
  obtain ⟨bz16, ebz16, hsz16⟩ := hV.1.nn hs_a2 (by decide) rfl 2 rfl (by decide)
  have ebz16 := ez16.trans ebz16
  refine ⟨(hV.mm hs_h (by decide) rfl), ?_⟩
  refine t_X11_nextChange hV h hs_h 3 z16 bz16 ebz16 hsz16  (by omega) (fun z18 W κ17 x1_ hV fκ17 pz18 => ?_)
  have hV : CV G E W (c - 0) κ17 := hV.dn (by omega)
  have hx2 := hx.tr x1_ hfr.sl
  have hfr := hfr.trW hx fκ17 (by decide)
  have hs_h := WLe.at (x1_).1 hs_h (by decide)
  have hs_a1 := WLe.at (x1_).1 hs_a1 (by decide)
  have hs_a2 := WLe.at (x1_).1 hs_a2 (by decide)
  have hsz16 := WLe.at (x1_).1 hsz16 (by decide)
  have hx := hx2
  obtain ⟨bz18, ebz18, hsz18⟩ := pz18
  refine jc_in (fun (x : Int64) (κ' : CS) => κ17 = κ' ∧ ((True))) (fun x19 κ20 hJ => ?_) (fun K21 hK21 => ?_)
  · obtain ⟨hsg, hv⟩ := hJ
    subst hsg
    (try dsimp only at hv)
    have rg_x19 := l_range x19
    refine ⟨bz18, ebz18, (hV.mm hsz18 (by decide) rfl), ?_⟩
    intro κ24 eκ24
    have hV := hV.uJ eκ24
    have f1κ24 : CF [(4, 7)] W κ17 κ24 := CF.rf.uJ (k := 7) hsz18 (by decide) (show ((4, 7) : Nat × Nat) ∈ ([(4, 7)] : List (Nat × Nat)) by simp) eκ24
    have hfr := hfr.trW hx f1κ24 (by decide)
    refine jc_in (fun (x : Int64) (κ' : CS) => κ24 = κ' ∧ ((True))) (fun x25 κ26 hJ => ?_) (fun K27 hK27 => ?_)
    · obtain ⟨hsg, hv⟩ := hJ
      subst hsg
      (try dsimp only at hv)
      have rg_x25 := l_range x25
      refine ⟨bz18, ebz18, (hV.mm hsz18 (by decide) rfl), ?_⟩
      intro κ30 eκ30
      have hV := hV.uJ eκ30
      have f1κ30 : CF [(4, 8)] W κ24 κ30 := CF.rf.uJ (k := 8) hsz18 (by decide) (show ((4, 8) : Nat × Nat) ∈ ([(4, 8)] : List (Nat × Nat)) by simp) eκ30
      have hfr := hfr.trW hx f1κ30 (by decide)
      refine jc_in (fun (x : Int64) (κ' : CS) => κ30 = κ' ∧ ((True))) (fun x31 κ32 hJ => ?_) (fun K33 hK33 => ?_)
      · obtain ⟨hsg, hv⟩ := hJ
        subst hsg
        (try dsimp only at hv)
        have rg_x31 := l_range x31
        refine ⟨bz18, ebz18, (hV.mm hsz18 (by decide) rfl), ?_⟩
        intro κ36 eκ36
        have hV := hV.uJ eκ36
        have f1κ36 : CF [(4, 9)] W κ30 κ36 := CF.rf.uJ (k := 9) hsz18 (by decide) (show ((4, 9) : Nat × Nat) ∈ ([(4, 9)] : List (Nat × Nat)) by simp) eκ36
        have hfr := hfr.trW hx f1κ36 (by decide)
        refine jc_in (fun (x : Int64) (κ' : CS) => κ36 = κ' ∧ ((True))) (fun x37 κ38 hJ => ?_) (fun K39 hK39 => ?_)
        · obtain ⟨hsg, hv⟩ := hJ
          subst hsg
          (try dsimp only at hv)
          have rg_x37 := l_range x37
          refine ⟨bz18, ebz18, (hV.mm hsz18 (by decide) rfl), ?_⟩
          intro κ42 eκ42
          have hV := hV.uJ eκ42
          have f1κ42 : CF [(4, 10)] W κ36 κ42 := CF.rf.uJ (k := 10) hsz18 (by decide) (show ((4, 10) : Nat × Nat) ∈ ([(4, 10)] : List (Nat × Nat)) by simp) eκ42
          have hfr := hfr.trW hx f1κ42 (by decide)
          refine jc_dup ?_
          refine ⟨fun c1 => ?_, fun c1 => ?_⟩
          · intro z51 ez51
            try have hz51 := i_and ez51 (by omega)
            have rg_z51 := i_range z51
            (try dsimp only)
            refine ⟨bz18, ebz18, (hV.mm hsz18 (by decide) rfl), ?_⟩
            intro κ48 eκ48
            have rv_κ48 := i_range z51
            have hV := hV.uI (k := 6) (v := z51) hsz18 (Or.inl rfl) (Or.inl (by decide)) (Or.inl (by decide)) (fun _ => (by omega : (-2147483648 : Int) ≤ (z51 : Int32).toInt ∧ (z51 : Int32).toInt ≤ 2147483647)) eκ48
            have uκ48 : (sI κ48.1 bz18 6).toInt = (z51 : Int32).toInt := by rw [eκ48]; exact congrArg Int32.toInt u2_same
            have f1κ48 : CF [(4, 6)] W κ42 κ48 := CF.rf.uI (k := 6) hsz18 (by decide) (show ((4, 6) : Nat × Nat) ∈ ([(4, 6)] : List (Nat × Nat)) by simp) eκ48
            have hfr := hfr.trW hx f1κ48 (by decide)
            refine ⟨(hV.mm hs_h (by decide) rfl), ?_⟩
            refine t_X11_done hV h hs_h z18 bz18 ebz18 hsz18  (by omega) (fun W κ49 x1_ hV fκ49 pu7 => ?_)
            have hV : CV G E W (c - 0) κ49 := hV.dn (by omega)
            have hx2 := hx.tr x1_ hfr.sl
            have hfr := hfr.trW hx fκ49 (by decide)
            have hs_h := WLe.at (x1_).1 hs_h (by decide)
            have hs_a1 := WLe.at (x1_).1 hs_a1 (by decide)
            have hs_a2 := WLe.at (x1_).1 hs_a2 (by decide)
            have hsz16 := WLe.at (x1_).1 hsz16 (by decide)
            have hsz18 := WLe.at (x1_).1 hsz18 (by decide)
            have hx := hx2
            exact kk 0 W κ49 hx (hV.dn (by omega)) hfr trivial
          · refine ⟨bz18, ebz18, (hV.mm hsz18 (by decide) rfl), ?_⟩
            intro z52 ez52
            have vz52 := hV.1.iv hsz18 (by decide) rfl 6 (-2147483648) 2147483647 rfl ez52
            have wz52 : z52.toInt = (sI κ42.1 bz18 6).toInt := by rw [ez52]
            (try dsimp only)
            refine ⟨bz18, ebz18, (hV.mm hsz18 (by decide) rfl), ?_⟩
            intro κ48 eκ48
            have rv_κ48 := i_range z52
            have hV := hV.uI (k := 6) (v := z52) hsz18 (Or.inl rfl) (Or.inl (by decide)) (Or.inl (by decide)) (fun _ => (by omega : (-2147483648 : Int) ≤ (z52 : Int32).toInt ∧ (z52 : Int32).toInt ≤ 2147483647)) eκ48
            have uκ48 : (sI κ48.1 bz18 6).toInt = (z52 : Int32).toInt := by rw [eκ48]; exact congrArg Int32.toInt u2_same
            have f1κ48 : CF [(4, 6)] W κ42 κ48 := CF.rf.uI (k := 6) hsz18 (by decide) (show ((4, 6) : Nat × Nat) ∈ ([(4, 6)] : List (Nat × Nat)) by simp) eκ48
            have hfr := hfr.trW hx f1κ48 (by decide)
            refine ⟨(hV.mm hs_h (by decide) rfl), ?_⟩
            refine t_X11_done hV h hs_h z18 bz18 ebz18 hsz18  (by omega) (fun W κ49 x1_ hV fκ49 pu8 => ?_)
            have hV : CV G E W (c - 0) κ49 := hV.dn (by omega)
            have hx2 := hx.tr x1_ hfr.sl
            have hfr := hfr.trW hx fκ49 (by decide)
            have hs_h := WLe.at (x1_).1 hs_h (by decide)
            have hs_a1 := WLe.at (x1_).1 hs_a1 (by decide)
            have hs_a2 := WLe.at (x1_).1 hs_a2 (by decide)
            have hsz16 := WLe.at (x1_).1 hsz16 (by decide)
            have hsz18 := WLe.at (x1_).1 hsz18 (by decide)
            have hx := hx2
            exact kk 0 W κ49 hx (hV.dn (by omega)) hfr trivial
        · skip
          refine ⟨fun c2 => ?_, fun c2 => ?_⟩
          · exact hK39 z11 κ36 ⟨rfl, trivial⟩
          · refine ⟨(hV.mm hs_h (by decide) rfl), ?_⟩
            intro z53 ez53
            have vz53 := l_range z53
            have wz53 : z53.toInt = (sJ κ36.1 h 7).toInt := by rw [ez53]
            exact hK39 z53 κ36 ⟨rfl, trivial⟩
      · skip
        refine ⟨fun c3 => ?_, fun c3 => ?_⟩
        · exact hK33 z8 κ30 ⟨rfl, trivial⟩
        · refine ⟨bz18, ebz18, (hV.mm hsz18 (by decide) rfl), ?_⟩
          intro z54 ez54
          have vz54 := l_range z54
          have wz54 : z54.toInt = (sJ κ30.1 bz18 9).toInt := by rw [ez54]
          exact hK33 z54 κ30 ⟨rfl, trivial⟩
    · skip
      refine ⟨fun c4 => ?_, fun c4 => ?_⟩
      · exact hK27 z5 κ24 ⟨rfl, trivial⟩
      · refine ⟨bz18, ebz18, (hV.mm hsz18 (by decide) rfl), ?_⟩
        intro z55 ez55
        have vz55 := l_range z55
        have wz55 : z55.toInt = (sJ κ24.1 bz18 8).toInt := by rw [ez55]
        exact hK27 z55 κ24 ⟨rfl, trivial⟩
  · skip
    refine ⟨fun c5 => ?_, fun c5 => ?_⟩
    · exact hK21 z2 κ17 ⟨rfl, trivial⟩
    · refine ⟨bz18, ebz18, (hV.mm hsz18 (by decide) rfl), ?_⟩
      intro z56 ez56
      have vz56 := l_range z56
      have wz56 : z56.toInt = (sJ κ17.1 bz18 7).toInt := by rw [ez56]
      exact hK21 z56 κ17 ⟨rfl, trivial⟩
set_option maxRecDepth 100000 in
set_option maxHeartbeats 4000000 in
theorem t_X11_setSize {G : GE} {E : CE} {W0 : CW} {c : Int} {κ : CS} (hV : CV G E W0 c κ) (h : Nat) (hs_h : W0.1 h = 1) (a1 : Option Nat) (b_a1 : Nat) (e_a1 : a1 = some b_a1) (hs_a1 : W0.1 b_a1 = 10) (a2 : Int64)  (hc : 0 ≤ c) {post : Int32 → CS → Prop} (kk : ∀ (r : Int32) (W' : CW) (κ' : CS), WX W0 W' κ → CV G E W' (c - 0) κ' → CF [(1, 6), (10, 7), (20, 0), (30, 0), (4, 0), (4, 1), (4, 10), (4, 11), (4, 12), (4, 13), (4, 2), (4, 3), (4, 5), (4, 6), (4, 7), (4, 8), (4, 9), (5, 1), (5, 10), (5, 11), (5, 12), (5, 13), (5, 2), (5, 3), (5, 4), (5, 6), (5, 7), (5, 8), (5, 9), (6, 1), (61, 0), (61, 1), (63, 0), (63, 1)] W0 κ κ' → (True) → post r κ') : F_X11_setSize G h a1 a2 post κ := by
  have hs0_h := hs_h
  have hs0_a1 := hs_a1
  suffices H_ : ∀ W : CW, WX W0 W κ → CV G E W (c - 0) κ → (W.1 h = 1) → (W.1 b_a1 = 10) → F_X11_setSize G h a1 a2 post κ from H_ W0 WX.rf (hV.dn (by omega)) hs_h hs_a1
  intro W hx hV hs_h hs_a1
  unfold F_X11_setSize
  have hfr : CF [(1, 6), (10, 7), (20, 0), (30, 0), (4, 0), (4, 1), (4, 10), (4, 11), (4, 12), (4, 13), (4, 2), (4, 3), (4, 5), (4, 6), (4, 7), (4, 8), (4, 9), (5, 1), (5, 10), (5, 11), (5, 12), (5, 13), (5, 2), (5, 3), (5, 4), (5, 6), (5, 7), (5, 8), (5, 9), (6, 1), (61, 0), (61, 1), (63, 0), (63, 1)] W0 κ κ := CF.rf
  have k_m1073741740 : ((-1073741740) : Int32).toInt = (-1073741740) := rfl
  have k_m1073741697 : ((-1073741697) : Int32).toInt = (-1073741697) := rfl
  have k_m1073741638 : ((-1073741638) : Int32).toInt = (-1073741638) := rfl
  have k_0 : (0 : Int32).toInt = 0 := rfl
  have k_1 : (1 : Int32).toInt = 1 := rfl
  have k_2 : (2 : Int32).toInt = 2 := rfl
  have k_4097 : (4097 : Int32).toInt = 4097 := rfl
  have kl_m1073741740 : ((-1073741740) : Int64).toInt = (-1073741740) := rfl
  have kl_m1073741697 : ((-1073741697) : Int64).toInt = (-1073741697) := rfl
  have kl_m1073741638 : ((-1073741638) : Int64).toInt = (-1073741638) := rfl
  have kl_0 : (0 : Int64).toInt = 0 := rfl
  have kl_1 : (1 : Int64).toInt = 1 := rfl
  have kl_2 : (2 : Int64).toInt = 2 := rfl
  have kl_4097 : (4097 : Int64).toInt = 4097 := rfl
  have rg_a2 := l_range a2
  refine ⟨b_a1, e_a1, (hV.mm hs_a1 (by decide) rfl), ?_⟩
  intro z1 ez1
  obtain ⟨bz1, ebz1, hsz1⟩ := hV.1.nn hs_a1 (by decide) rfl 2 rfl (by decide)
  have ebz1 := ez1.trans ebz1
  refine t_X11_below hV a2 4097  (fun z3 pz3 => ?_)
  have rg_z3 := i_range z3
  refine ⟨fun c1 => ?_, fun c1 => ?_⟩
  · refine ⟨bz1, ebz1, (hV.mm hsz1 (by decide) rfl), ?_⟩
    intro z4 ez4
    have vz4 := hV.1.iv hsz1 (by decide) rfl 2 0 1 rfl ez4
    have wz4 : z4.toInt = (sI κ.1 bz1 2).toInt := by rw [ez4]
    refine ⟨fun c2 => ?_, fun c2 => ?_⟩
    · refine ⟨bz1, ebz1, (hV.mm hsz1 (by decide) rfl), ?_⟩
      intro z5 ez5
      have vz5 := hV.1.iv hsz1 (by decide) rfl 12 0 4096 rfl ez5
      have wz5 : z5.toInt = (sI κ.1 bz1 12).toInt := by rw [ez5]
      intro z6 ez6
      have hz6 := i_tol ez6
      have rg_z6 := l_range z6
      intro z8 mz8
      have rg_z8 := l_range z8
      refine ⟨bz1, ebz1, (hV.mm hsz1 (by decide) rfl), ?_⟩
      intro z9 ez9
      have vz9 := hV.1.iv hsz1 (by decide) rfl 12 0 4096 rfl ez9
      have wz9 : z9.toInt = (sI κ.1 bz1 12).toInt := by rw [ez9]
      intro z10 ez10
      have hz10 := i_tol ez10
      have rg_z10 := l_range z10
      intro z11 ez11
      try have hz11 := l_sub ez11 (by omega) (by omega)
      have rg_z11 := l_range z11
      intro z13 mz13
      have rg_z13 := l_range z13
      refine ⟨(hV.mm hs_h (by decide) rfl), ?_⟩
      refine t_X11_othersLock hV h hs_h a1 b_a1 e_a1 hs_a1 z8 z13 1  (fun z15 pz15 => ?_)
      have rg_z15 := i_range z15
      refine ⟨fun c3 => ?_, fun c3 => ?_⟩
      · refine ⟨(hV.mm hs_h (by decide) rfl), ?_⟩
        refine t_X11_nextChange hV h hs_h 2 z1 bz1 ebz1 hsz1  (by omega) (fun z17 W κ16 x1_ hV fκ16 pz17 => ?_)
        have hV : CV G E W (c - 0) κ16 := hV.dn (by omega)
        have hx2 := hx.tr x1_ hfr.sl
        have hfr := hfr.trW hx fκ16 (by decide)
        have hs_h := WLe.at (x1_).1 hs_h (by decide)
        have hs_a1 := WLe.at (x1_).1 hs_a1 (by decide)
        have hsz1 := WLe.at (x1_).1 hsz1 (by decide)
        have hx := hx2
        obtain ⟨bz17, ebz17, hsz17⟩ := pz17
        intro z18 ez18
        try have hz18 := l_toi ez18 (by omega) (by omega)
        have rg_z18 := i_range z18
        refine ⟨bz17, ebz17, (hV.mm hsz17 (by decide) rfl), ?_⟩
        intro κ19 eκ19
        have rv_κ19 := i_range z18
        have hV := hV.uI (k := 11) (v := z18) hsz17 (Or.inl rfl) (Or.inl (by decide)) (Or.inl (by decide)) (fun _ => (by omega : (-2147483648 : Int) ≤ (z18 : Int32).toInt ∧ (z18 : Int32).toInt ≤ 2147483647)) eκ19
        have uκ19 : (sI κ19.1 bz17 11).toInt = (z18 : Int32).toInt := by rw [eκ19]; exact congrArg Int32.toInt u2_same
        have f1κ19 : CF [(4, 11)] W κ16 κ19 := CF.rf.uI (k := 11) hsz17 (by decide) (show ((4, 11) : Nat × Nat) ∈ ([(4, 11)] : List (Nat × Nat)) by simp) eκ19
        have hfr := hfr.trW hx f1κ19 (by decide)
        refine ⟨(hV.mm hs_h (by decide) rfl), ?_⟩
        intro z20 ez20
        have vz20 := l_range z20
        have wz20 : z20.toInt = (sJ κ19.1 h 7).toInt := by rw [ez20]
        refine ⟨bz17, ebz17, (hV.mm hsz17 (by decide) rfl), ?_⟩
        intro κ21 eκ21
        have hV := hV.uJ eκ21
        have f1κ21 : CF [(4, 9)] W κ19 κ21 := CF.rf.uJ (k := 9) hsz17 (by decide) (show ((4, 9) : Nat × Nat) ∈ ([(4, 9)] : List (Nat × Nat)) by simp) eκ21
        have hfr := hfr.trW hx f1κ21 (by decide)
        refine ⟨(hV.mm hs_h (by decide) rfl), ?_⟩
        intro z22 ez22
        have vz22 := l_range z22
        have wz22 : z22.toInt = (sJ κ21.1 h 7).toInt := by rw [ez22]
        refine ⟨bz17, ebz17, (hV.mm hsz17 (by decide) rfl), ?_⟩
        intro κ23 eκ23
        have hV := hV.uJ eκ23
        have f1κ23 : CF [(4, 10)] W κ21 κ23 := CF.rf.uJ (k := 10) hsz17 (by decide) (show ((4, 10) : Nat × Nat) ∈ ([(4, 10)] : List (Nat × Nat)) by simp) eκ23
        have hfr := hfr.trW hx f1κ23 (by decide)
        refine ⟨(hV.mm hs_h (by decide) rfl), ?_⟩
        refine t_X11_done hV h hs_h z17 bz17 ebz17 hsz17  (by omega) (fun W κ24 x1_ hV fκ24 pu4 => ?_)
        have hV : CV G E W (c - 0) κ24 := hV.dn (by omega)
        have hx2 := hx.tr x1_ hfr.sl
        have hfr := hfr.trW hx fκ24 (by decide)
        have hs_h := WLe.at (x1_).1 hs_h (by decide)
        have hs_a1 := WLe.at (x1_).1 hs_a1 (by decide)
        have hsz1 := WLe.at (x1_).1 hsz1 (by decide)
        have hsz17 := WLe.at (x1_).1 hsz17 (by decide)
        have hx := hx2
        refine ⟨(hV.mm hs_h (by decide) rfl), ?_⟩
        refine t_X11_breakLevelTwo hV h hs_h z1 bz1 ebz1 hsz1 a1 (Or.inr ⟨b_a1, e_a1, hs_a1⟩)  (by omega) (fun W κ26 x1_ hV fκ26 pu5 => ?_)
        have hV : CV G E W (c - 0) κ26 := hV.dn (by omega)
        have hx2 := hx.tr x1_ hfr.sl
        have hfr := hfr.trW hx fκ26 (by decide)
        have hs_h := WLe.at (x1_).1 hs_h (by decide)
        have hs_a1 := WLe.at (x1_).1 hs_a1 (by decide)
        have hsz1 := WLe.at (x1_).1 hsz1 (by decide)
        have hsz17 := WLe.at (x1_).1 hsz17 (by decide)
        have hx := hx2
        exact kk 0 W κ26 hx (hV.dn (by omega)) hfr trivial
      · exact kk (-1073741740) W κ hx (hV.dn (by omega)) hfr trivial
    · exact kk (-1073741638) W κ hx (hV.dn (by omega)) hfr trivial
  · exact kk (-1073741697) W κ hx (hV.dn (by omega)) hfr trivial
set_option maxRecDepth 100000 in
set_option maxHeartbeats 4000000 in
theorem t_X11_rename {G : GE} {E : CE} {W0 : CW} {c : Int} {κ : CS} (hV : CV G E W0 c κ) (h : Nat) (hs_h : W0.1 h = 1) (a1 : Option Nat) (b_a1 : Nat) (e_a1 : a1 = some b_a1) (hs_a1 : W0.1 b_a1 = 8) (a2 : Option Nat) (b_a2 : Nat) (e_a2 : a2 = some b_a2) (hs_a2 : W0.1 b_a2 = 10) (a3 : Int32) (a4 : Int64)  (hc : 169 ≤ c) {post : Int32 → CS → Prop} (kk : ∀ (r : Int32) (W' : CW) (κ' : CS), WX W0 W' κ → CV G E W' (c - 169) κ' → CF [(1, 6), (13, 10), (13, 11), (13, 12), (13, 8), (13, 9), (20, 0), (21, 0), (30, 0), (4, 0), (4, 1), (4, 10), (4, 11), (4, 12), (4, 13), (4, 2), (4, 3), (4, 5), (4, 6), (4, 7), (4, 8), (4, 9), (5, 1), (5, 10), (5, 11), (5, 12), (5, 13), (5, 2), (5, 3), (5, 4), (5, 6), (5, 7), (5, 8), (5, 9), (6, 1)] W0 κ κ' → (True) → post r κ') : F_X11_rename G h a1 a2 a3 a4 post κ := by
  have hs0_h := hs_h
  have hs0_a1 := hs_a1
  have hs0_a2 := hs_a2
  suffices H_ : ∀ W : CW, WX W0 W κ → CV G E W (c - 0) κ → (W.1 h = 1) → (W.1 b_a1 = 8) → (W.1 b_a2 = 10) → F_X11_rename G h a1 a2 a3 a4 post κ from H_ W0 WX.rf (hV.dn (by omega)) hs_h hs_a1 hs_a2
  intro W hx hV hs_h hs_a1 hs_a2
  unfold F_X11_rename
  have hfr : CF [(1, 6), (13, 10), (13, 11), (13, 12), (13, 8), (13, 9), (20, 0), (21, 0), (30, 0), (4, 0), (4, 1), (4, 10), (4, 11), (4, 12), (4, 13), (4, 2), (4, 3), (4, 5), (4, 6), (4, 7), (4, 8), (4, 9), (5, 1), (5, 10), (5, 11), (5, 12), (5, 13), (5, 2), (5, 3), (5, 4), (5, 6), (5, 7), (5, 8), (5, 9), (6, 1)] W0 κ κ := CF.rf
  have k_m1073741820 : ((-1073741820) : Int32).toInt = (-1073741820) := rfl
  have k_m1073741811 : ((-1073741811) : Int32).toInt = (-1073741811) := rfl
  have k_m1073741790 : ((-1073741790) : Int32).toInt = (-1073741790) := rfl
  have k_m1073741773 : ((-1073741773) : Int32).toInt = (-1073741773) := rfl
  have k_m1073741771 : ((-1073741771) : Int32).toInt = (-1073741771) := rfl
  have k_m1073741766 : ((-1073741766) : Int32).toInt = (-1073741766) := rfl
  have k_m1 : ((-1) : Int32).toInt = (-1) := rfl
  have k_0 : (0 : Int32).toInt = 0 := rfl
  have k_1 : (1 : Int32).toInt = 1 := rfl
  have k_4 : (4 : Int32).toInt = 4 := rfl
  have k_5 : (5 : Int32).toInt = 5 := rfl
  have k_16 : (16 : Int32).toInt = 16 := rfl
  have k_20 : (20 : Int32).toInt = 20 := rfl
  have kl_m1073741820 : ((-1073741820) : Int64).toInt = (-1073741820) := rfl
  have kl_m1073741811 : ((-1073741811) : Int64).toInt = (-1073741811) := rfl
  have kl_m1073741790 : ((-1073741790) : Int64).toInt = (-1073741790) := rfl
  have kl_m1073741773 : ((-1073741773) : Int64).toInt = (-1073741773) := rfl
  have kl_m1073741771 : ((-1073741771) : Int64).toInt = (-1073741771) := rfl
  have kl_m1073741766 : ((-1073741766) : Int64).toInt = (-1073741766) := rfl
  have kl_0 : (0 : Int64).toInt = 0 := rfl
  have kl_1 : (1 : Int64).toInt = 1 := rfl
  have kl_4 : (4 : Int64).toInt = 4 := rfl
  have kl_5 : (5 : Int64).toInt = 5 := rfl
  have kl_16 : (16 : Int64).toInt = 16 := rfl
  have kl_20 : (20 : Int64).toInt = 20 := rfl
  have rg_a3 := i_range a3
  have rg_a4 := l_range a4
  refine ⟨b_a2, e_a2, (hV.mm hs_a2 (by decide) rfl), ?_⟩
  intro z1 ez1
  obtain ⟨bz1, ebz1, hsz1⟩ := hV.1.nn hs_a2 (by decide) rfl 2 rfl (by decide)
  have ebz1 := ez1.trans ebz1
  intro z2 ez2
  try have hz2 := i_add ez2 (by omega) (by omega)
  have rg_z2 := i_range z2
  refine ⟨b_a1, e_a1, (hV.mm hs_a1 (by decide) rfl), ?_⟩
  refine t2_X0_number hV b_a1 hs_a1 z2 4  (by decide) (fun z4 pz4 => ?_)
  have rg_z4 := l_range z4
  intro z5 ez5
  try have hz5 := l_add ez5 (by omega) (by omega)
  have rg_z5 := l_range z5
  refine ⟨fun c1 => ?_, fun c1 => ?_⟩
  · have hbd_ := hV.bud
    refine ⟨by omega, ?_⟩
    intro o6 hn_o6 κ7 eκ7
    have hpn_o6 : PO G E W κ7 o6 13 [8] := PO.new hV hn_o6 eκ7 rfl (by decide)
    have f1κ7 : CF [] W κ κ7 := CF.rf.uN hV.1 hn_o6 eκ7
    have hq0_o6 : o6 ∉ sL κ.1 := fun h => hn_o6 (hfr.sl o6 h)
    have hV := hV.newO hn_o6 (by omega) eκ7
    have hV : CV G E W (c - 25) κ7 := hV.dn (by omega)
    have hfr := hfr.trW hx f1κ7 (by decide)
    have hp_o6 := hpn_o6
    have hq_ := (hp_o6).1
    refine t_X10_init hV o6 hp_o6  (by omega) (fun W κ8 x1_ hV fκ8 hp_o6 pκ8 => ?_)
    have hV : CV G E W (c - 37) κ8 := hV.dn (by omega)
    have hx2 := hx.tr x1_ hfr.sl
    have hfr := hfr.trX hx hq0_o6 hq_ fκ8 (by decide)
    obtain ⟨W, xa_, hV, hs_o6⟩ := hV.addO hp_o6 (by decide)
    have hx := hx2.add hq0_o6 xa_
    have hs_h := WLe.at (x1_.1.tr xa_.1) hs_h (by decide)
    have hs_a1 := WLe.at (x1_.1.tr xa_.1) hs_a1 (by decide)
    have hs_a2 := WLe.at (x1_.1.tr xa_.1) hs_a2 (by decide)
    have hsz1 := WLe.at (x1_.1.tr xa_.1) hsz1 (by decide)
    intro z10 ez10
    try have hz10 := i_add ez10 (by omega) (by omega)
    have rg_z10 := i_range z10
    refine ⟨(hV.mm hs_o6 (by decide) rfl), ?_⟩
    refine t_X10_takePath hV o6 hs_o6 a1 b_a1 e_a1 hs_a1 z10 z4  (by omega) (fun z12 W κ11 x1_ hV fκ11 pz12 => ?_)
    have hV : CV G E W (c - 169) κ11 := hV.dn (by omega)
    have hx2 := hx.tr x1_ hfr.sl
    have hfr := hfr.trW hx fκ11 (by decide)
    have hs_h := WLe.at (x1_).1 hs_h (by decide)
    have hs_a1 := WLe.at (x1_).1 hs_a1 (by decide)
    have hs_a2 := WLe.at (x1_).1 hs_a2 (by decide)
    have hsz1 := WLe.at (x1_).1 hsz1 (by decide)
    have hs_o6 := WLe.at (x1_).1 hs_o6 (by decide)
    have hx := hx2
    have rg_z12 := i_range z12
    refine ⟨fun c2 => ?_, fun c2 => ?_⟩
    · refine ⟨b_a2, e_a2, (hV.mm hs_a2 (by decide) rfl), ?_⟩
      intro z13 ez13
      obtain ⟨bz13, ebz13, hsz13⟩ := hV.1.nn hs_a2 (by decide) rfl 1 rfl (by decide)
      have ebz13 := ez13.trans ebz13
      refine ⟨bz13, ebz13, (hV.mm hsz13 (by decide) rfl), ?_⟩
      intro z14 ez14
      obtain ⟨bz14, ebz14, hsz14⟩ := hV.1.nn hsz13 (by decide) rfl 2 rfl (by decide)
      have ebz14 := ez14.trans ebz14
      refine ⟨(hV.mm hs_h (by decide) rfl), ?_⟩
      refine t_X11_walk hV h hs_h (some o6) o6 rfl hs_o6 z14 bz14 ebz14 hsz14  (fun z16 κ15 hV fκ15 pz16 => ?_)
      have hfr := hfr.trW hx fκ15 (by decide)
      have rg_z16 := i_range z16
      refine ⟨fun c3 => ?_, fun c3 => ?_⟩
      · obtain ⟨bpl, epl, wpl⟩ := pz16.2 (by omega)
        refine ⟨(hV.mm hs_o6 (by decide) rfl), ?_⟩
        intro z17 ez17
        have vz17 := hV.1.iv hs_o6 (by decide) rfl 9 (-2147483648) 2147483647 rfl ez17
        have wz17 : z17.toInt = (sI κ15.1 o6 9).toInt := by rw [ez17]
        refine jc_dup ?_
        refine ⟨fun c4 => ?_, fun c4 => ?_⟩
        · (try dsimp only)
          exact kk (-1073741790) W κ15 hx (hV.dn (by omega)) hfr trivial
        · refine ⟨bz1, ebz1, (hV.mm hsz1 (by decide) rfl), ?_⟩
          intro z23 ez23
          have vz23 := hV.1.iv hsz1 (by decide) rfl 4 (-2147483648) 2147483647 rfl ez23
          have wz23 : z23.toInt = (sI κ15.1 bz1 4).toInt := by rw [ez23]
          refine ⟨fun c5 => ?_, fun c5 => ?_⟩
          · refine ⟨(hV.mm hs_h (by decide) rfl), ?_⟩
            intro z24 ez24
            obtain ⟨bz24, ebz24, hsz24⟩ := hV.1.nn hs_h (by decide) rfl 3 rfl (by decide)
            have ebz24 := ez24.trans ebz24
            refine ⟨(hV.mm hs_o6 (by decide) rfl), ?_⟩
            intro z25 ez25
            have ebz25 : z25 = some bpl := ez25.trans epl
            refine ⟨bz24, ebz24, (hV.mm hsz24 (by decide) rfl), ?_⟩
            refine t_X9_isWithin hV bz24 hsz24 z25 (Or.inr ⟨bpl, ebz25, wpl⟩) z1 (Or.inr ⟨bz1, ebz1, hsz1⟩)  (fun z27 pz27 => ?_)
            have rg_z27 := i_range z27
            refine ⟨fun c6 => ?_, fun c6 => ?_⟩
            · refine ⟨bz1, ebz1, (hV.mm hsz1 (by decide) rfl), ?_⟩
              intro z28 ez28
              have vz28 := hV.1.iv hsz1 (by decide) rfl 2 0 1 rfl ez28
              have wz28 : z28.toInt = (sI κ15.1 bz1 2).toInt := by rw [ez28]
              refine jc_in (fun (x : Unit) (κ' : CS) => κ15 = κ' ∧ ((True))) (fun x29 κ30 hJ => ?_) (fun K31 hK31 => ?_)
              · obtain ⟨hsg, hv⟩ := hJ
                subst hsg
                (try dsimp only at hv)
                refine ⟨(hV.mm hs_o6 (by decide) rfl), ?_⟩
                intro z34 ez34
                have nz34 := hV.1.nl hs_o6 (by decide) rfl 11 rfl (by decide)
                rw [← ez34] at nz34
                refine jc_in (fun (x : Unit) (κ' : CS) => ∃ W' : CW, WLe W W' ∧ WX W0 W' κ ∧ CV G E W' (c - 169) κ' ∧ CF [(1, 6), (13, 10), (13, 11), (13, 12), (13, 8), (13, 9), (20, 0), (21, 0), (30, 0), (4, 0), (4, 1), (4, 10), (4, 11), (4, 12), (4, 13), (4, 2), (4, 3), (4, 5), (4, 6), (4, 7), (4, 8), (4, 9), (5, 1), (5, 10), (5, 11), (5, 12), (5, 13), (5, 2), (5, 3), (5, 4), (5, 6), (5, 7), (5, 8), (5, 9), (6, 1)] W0 κ κ' ∧ ((True)) ∧ (∃ b, sP κ'.1 o6 10 = some b ∧ W'.1 b = 5 ∧ (True))) (fun x35 κ36 hJ => ?_) (fun K37 hK37 => ?_)
                · obtain ⟨W, le226, hx, hV, hfr, hv⟩ := hJ
                  have hs_h := WLe.at le226 hs_h (by decide)
                  have hs_a1 := WLe.at le226 hs_a1 (by decide)
                  have hs_a2 := WLe.at le226 hs_a2 (by decide)
                  have hsz1 := WLe.at le226 hsz1 (by decide)
                  have hs_o6 := WLe.at le226 hs_o6 (by decide)
                  have hsz13 := WLe.at le226 hsz13 (by decide)
                  have hsz14 := WLe.at le226 hsz14 (by decide)
                  have wpl := WLe.at le226 wpl (by decide)
                  have hsz24 := WLe.at le226 hsz24 (by decide)
                  have nz34 := nul_up le226 nz34 (by decide)
                  (try dsimp only at hv)
                  obtain ⟨hv, ⟨bk226_0, ek226_0, wk226_0, xk226_0⟩⟩ := hv
                  (try dsimp only at hv)
                  (try dsimp only at xk226_0)
                  refine ⟨(hV.mm hs_h (by decide) rfl), ?_⟩
                  refine t_X11_nextChange hV h hs_h 4 z1 bz1 ebz1 hsz1  (by omega) (fun z41 W κ40 x1_ hV fκ40 pz41 => ?_)
                  have hV : CV G E W (c - 169) κ40 := hV.dn (by omega)
                  have pk1 := (fκ40.1 o6 (by rw [hs_o6]; decide) 10 (by rw [hs_o6]; decide)).2.2.trans ek226_0
                  have hx2 := hx.tr x1_ hfr.sl
                  have hfr := hfr.trW hx fκ40 (by decide)
                  have hs_h := WLe.at (x1_).1 hs_h (by decide)
                  have hs_a1 := WLe.at (x1_).1 hs_a1 (by decide)
                  have hs_a2 := WLe.at (x1_).1 hs_a2 (by decide)
                  have hsz1 := WLe.at (x1_).1 hsz1 (by decide)
                  have hs_o6 := WLe.at (x1_).1 hs_o6 (by decide)
                  have hsz13 := WLe.at (x1_).1 hsz13 (by decide)
                  have hsz14 := WLe.at (x1_).1 hsz14 (by decide)
                  have wpl := WLe.at (x1_).1 wpl (by decide)
                  have hsz24 := WLe.at (x1_).1 hsz24 (by decide)
                  have wk226_0 := WLe.at (x1_).1 wk226_0 (by decide)
                  have nz34 := nul_up (x1_).1 nz34 (by decide)
                  have hx := hx2
                  obtain ⟨bz41, ebz41, hsz41⟩ := pz41
                  refine ⟨(hV.mm hs_o6 (by decide) rfl), ?_⟩
                  intro z42 ez42
                  have ebz42 : z42 = some bk226_0 := ez42.trans pk1
                  refine ⟨bk226_0, ebz42, (hV.mm wk226_0 (by decide) rfl), ?_⟩
                  intro z43 ez43
                  have vz43 := hV.1.iv wk226_0 (by decide) rfl 0 (-2147483648) 2147483647 rfl ez43
                  have wz43 : z43.toInt = (sI κ40.1 bk226_0 0).toInt := by rw [ez43]
                  refine ⟨bz41, ebz41, (hV.mm hsz41 (by decide) rfl), ?_⟩
                  intro κ44 eκ44
                  have rv_κ44 := i_range z43
                  have hV := hV.uI (k := 2) (v := z43) hsz41 (Or.inl rfl) (Or.inl (by decide)) (Or.inl (by decide)) (fun _ => (by omega : (-2147483648 : Int) ≤ (z43 : Int32).toInt ∧ (z43 : Int32).toInt ≤ 2147483647)) eκ44
                  have uκ44 : (sI κ44.1 bz41 2).toInt = (z43 : Int32).toInt := by rw [eκ44]; exact congrArg Int32.toInt u2_same
                  have f1κ44 : CF [(4, 2)] W κ40 κ44 := CF.rf.uI (k := 2) hsz41 (by decide) (show ((4, 2) : Nat × Nat) ∈ ([(4, 2)] : List (Nat × Nat)) by simp) eκ44
                  have pk2 := (f1κ44.1 o6 (by rw [hs_o6]; decide) 10 (by rw [hs_o6]; decide)).2.2.trans pk1
                  have hfr := hfr.trW hx f1κ44 (by decide)
                  refine ⟨(hV.mm hs_o6 (by decide) rfl), ?_⟩
                  refine t_X10_nameTo hV o6 hs_o6 z41 bz41 ebz41 hsz41  (fun κ45 hV fκ45 pu6 => ?_)
                  have pk3 := (fκ45.1 o6 (by rw [hs_o6]; decide) 10 (by rw [hs_o6]; decide)).2.2.trans pk2
                  have hfr := hfr.trW hx fκ45 (by decide)
                  refine ⟨(hV.mm hs_h (by decide) rfl), ?_⟩
                  intro z47 ez47
                  have vz47 := l_range z47
                  have wz47 : z47.toInt = (sJ κ45.1 h 7).toInt := by rw [ez47]
                  refine ⟨bz41, ebz41, (hV.mm hsz41 (by decide) rfl), ?_⟩
                  intro κ48 eκ48
                  have hV := hV.uJ eκ48
                  have f1κ48 : CF [(4, 10)] W κ45 κ48 := CF.rf.uJ (k := 10) hsz41 (by decide) (show ((4, 10) : Nat × Nat) ∈ ([(4, 10)] : List (Nat × Nat)) by simp) eκ48
                  have pk4 := (f1κ48.1 o6 (by rw [hs_o6]; decide) 10 (by rw [hs_o6]; decide)).2.2.trans pk3
                  have hfr := hfr.trW hx f1κ48 (by decide)
                  refine ⟨(hV.mm hs_h (by decide) rfl), ?_⟩
                  refine t_X11_done hV h hs_h z41 bz41 ebz41 hsz41  (by omega) (fun W κ49 x1_ hV fκ49 pu7 => ?_)
                  have hV : CV G E W (c - 169) κ49 := hV.dn (by omega)
                  have pk5 := (fκ49.1 o6 (by rw [hs_o6]; decide) 10 (by rw [hs_o6]; decide)).2.2.trans pk4
                  have hx2 := hx.tr x1_ hfr.sl
                  have hfr := hfr.trW hx fκ49 (by decide)
                  have hs_h := WLe.at (x1_).1 hs_h (by decide)
                  have hs_a1 := WLe.at (x1_).1 hs_a1 (by decide)
                  have hs_a2 := WLe.at (x1_).1 hs_a2 (by decide)
                  have hsz1 := WLe.at (x1_).1 hsz1 (by decide)
                  have hs_o6 := WLe.at (x1_).1 hs_o6 (by decide)
                  have hsz13 := WLe.at (x1_).1 hsz13 (by decide)
                  have hsz14 := WLe.at (x1_).1 hsz14 (by decide)
                  have wpl := WLe.at (x1_).1 wpl (by decide)
                  have hsz24 := WLe.at (x1_).1 hsz24 (by decide)
                  have wk226_0 := WLe.at (x1_).1 wk226_0 (by decide)
                  have hsz41 := WLe.at (x1_).1 hsz41 (by decide)
                  have nz34 := nul_up (x1_).1 nz34 (by decide)
                  have hx := hx2
                  exact kk 0 W κ49 hx (hV.dn (by omega)) hfr trivial
                · skip
                  have le226 : WLe W W := WLe.rf
                  refine ⟨fun c7 => ?_, fun c7 => ?_⟩
                  · exact hK37 () κ15 ⟨W, le226, hx, hV.dn (by (try dsimp only); omega), hfr, trivial, ⟨bpl, epl, wpl, trivial⟩⟩
                  · obtain ⟨bn8, ebn8, hsn8⟩ := nz34.resolve_left c7
                    refine ⟨(hV.mm hs_o6 (by decide) rfl), ?_⟩
                    intro z51 ez51
                    have ebz51 : z51 = some bn8 := (ez51.trans ez34.symm).trans ebn8
                    refine ⟨fun c8 => ?_, fun c8 => ?_⟩
                    · exact hK37 () κ15 ⟨W, le226, hx, hV.dn (by (try dsimp only); omega), hfr, trivial, ⟨bpl, epl, wpl, trivial⟩⟩
                    · refine ⟨(hV.mm hs_o6 (by decide) rfl), ?_⟩
                      intro z52 ez52
                      have ebz52 : z52 = some bn8 := (ez52.trans ez34.symm).trans ebn8
                      refine ⟨b_a1, e_a1, (hV.mm hs_a1 (by decide) rfl), ?_⟩
                      refine t2_X0_number hV b_a1 hs_a1 a3 1  (by decide) (fun z54 pz54 => ?_)
                      have rg_z54 := l_range z54
                      refine ⟨fun c9 => ?_, fun c9 => ?_⟩
                      · refine ⟨bn8, ebz52, (hV.mm hsn8 (by decide) rfl), ?_⟩
                        intro z55 ez55
                        have vz55 := hV.1.iv hsn8 (by decide) rfl 2 0 1 rfl ez55
                        have wz55 : z55.toInt = (sI κ15.1 bn8 2).toInt := by rw [ez55]
                        refine jc_dup ?_
                        refine ⟨fun c10 => ?_, fun c10 => ?_⟩
                        · (try dsimp only)
                          exact kk (-1073741790) W κ15 hx (hV.dn (by omega)) hfr trivial
                        · refine ⟨(hV.mm hs_h (by decide) rfl), ?_⟩
                          refine t_X11_isOpened hV h hs_h z52 bn8 ebz52 hsn8  (fun z62 pz62 => ?_)
                          have rg_z62 := i_range z62
                          refine ⟨fun c11 => ?_, fun c11 => ?_⟩
                          · (try dsimp only)
                            exact kk (-1073741790) W κ15 hx (hV.dn (by omega)) hfr trivial
                          · refine ⟨bn8, ebz52, (hV.mm hsn8 (by decide) rfl), ?_⟩
                            intro z63 ez63
                            have vz63 := hV.1.iv hsn8 (by decide) rfl 7 (-2147483648) 2147483647 rfl ez63
                            have wz63 : z63.toInt = (sI κ15.1 bn8 7).toInt := by rw [ez63]
                            intro z64 ez64
                            try have hz64 := i_and1 ez64 (by omega)
                            have rg_z64 := i_range z64
                            refine ⟨fun c12 => ?_, fun c12 => ?_⟩
                            · refine ⟨(hV.mm hs_h (by decide) rfl), ?_⟩
                              refine t_X11_nextChange hV h hs_h 5 z52 bn8 ebz52 hsn8  (by omega) (fun z66 W κ65 x1_ hV fκ65 pz66 => ?_)
                              have hV : CV G E W (c - 169) κ65 := hV.dn (by omega)
                              have pk6 := (fκ65.1 o6 (by rw [hs_o6]; decide) 10 (by rw [hs_o6]; decide)).2.2.trans epl
                              have hx2 := hx.tr x1_ hfr.sl
                              have hfr := hfr.trW hx fκ65 (by decide)
                              have hs_h := WLe.at (x1_).1 hs_h (by decide)
                              have hs_a1 := WLe.at (x1_).1 hs_a1 (by decide)
                              have hs_a2 := WLe.at (x1_).1 hs_a2 (by decide)
                              have hsz1 := WLe.at (x1_).1 hsz1 (by decide)
                              have hs_o6 := WLe.at (x1_).1 hs_o6 (by decide)
                              have hsz13 := WLe.at (x1_).1 hsz13 (by decide)
                              have hsz14 := WLe.at (x1_).1 hsz14 (by decide)
                              have wpl := WLe.at (x1_).1 wpl (by decide)
                              have hsz24 := WLe.at (x1_).1 hsz24 (by decide)
                              have hsn8 := WLe.at (x1_).1 hsn8 (by decide)
                              have le226 := WLe.tr le226 (x1_).1
                              have hx := hx2
                              obtain ⟨bz66, ebz66, hsz66⟩ := pz66
                              refine ⟨(hV.mm hs_h (by decide) rfl), ?_⟩
                              refine t_X11_done hV h hs_h z66 bz66 ebz66 hsz66  (by omega) (fun W κ67 x1_ hV fκ67 pu12 => ?_)
                              have hV : CV G E W (c - 169) κ67 := hV.dn (by omega)
                              have pk7 := (fκ67.1 o6 (by rw [hs_o6]; decide) 10 (by rw [hs_o6]; decide)).2.2.trans pk6
                              have hx2 := hx.tr x1_ hfr.sl
                              have hfr := hfr.trW hx fκ67 (by decide)
                              have hs_h := WLe.at (x1_).1 hs_h (by decide)
                              have hs_a1 := WLe.at (x1_).1 hs_a1 (by decide)
                              have hs_a2 := WLe.at (x1_).1 hs_a2 (by decide)
                              have hsz1 := WLe.at (x1_).1 hsz1 (by decide)
                              have hs_o6 := WLe.at (x1_).1 hs_o6 (by decide)
                              have hsz13 := WLe.at (x1_).1 hsz13 (by decide)
                              have hsz14 := WLe.at (x1_).1 hsz14 (by decide)
                              have wpl := WLe.at (x1_).1 wpl (by decide)
                              have hsz24 := WLe.at (x1_).1 hsz24 (by decide)
                              have hsn8 := WLe.at (x1_).1 hsn8 (by decide)
                              have hsz66 := WLe.at (x1_).1 hsz66 (by decide)
                              have le226 := WLe.tr le226 (x1_).1
                              have hx := hx2
                              exact hK37 () κ67 ⟨W, le226, hx, hV.dn (by (try dsimp only); omega), hfr, trivial, ⟨bpl, pk7, wpl, trivial⟩⟩
                            · (try dsimp only)
                              exact kk (-1073741790) W κ15 hx (hV.dn (by omega)) hfr trivial
                      · exact kk (-1073741771) W κ15 hx (hV.dn (by omega)) hfr trivial
              · skip
                refine ⟨fun c13 => ?_, fun c13 => ?_⟩
                · exact hK31 () κ15 ⟨rfl, trivial⟩
                · refine ⟨(hV.mm hs_h (by decide) rfl), ?_⟩
                  refine t_X11_isOpenedBelow hV h hs_h z1 bz1 ebz1 hsz1  (fun z70 pz70 => ?_)
                  have rg_z70 := i_range z70
                  refine ⟨fun c14 => ?_, fun c14 => ?_⟩
                  · exact hK31 () κ15 ⟨rfl, trivial⟩
                  · exact kk (-1073741790) W κ15 hx (hV.dn (by omega)) hfr trivial
            · exact kk (-1073741811) W κ15 hx (hV.dn (by omega)) hfr trivial
          · (try dsimp only)
            exact kk (-1073741790) W κ15 hx (hV.dn (by omega)) hfr trivial
      · exact kk (-1073741766) W κ15 hx (hV.dn (by omega)) hfr trivial
    · exact kk (-1073741773) W κ11 hx (hV.dn (by omega)) hfr trivial
  · exact kk (-1073741820) W κ hx (hV.dn (by omega)) hfr trivial
set_option maxRecDepth 100000 in
set_option maxHeartbeats 4000000 in
theorem t_X11_setInfo {G : GE} {E : CE} {W0 : CW} {c : Int} {κ : CS} (hV : CV G E W0 c κ) (h : Nat) (hs_h : W0.1 h = 1) (a1 : Option Nat) (b_a1 : Nat) (e_a1 : a1 = some b_a1) (hs_a1 : W0.1 b_a1 = 8) (a2 : Option Nat) (b_a2 : Nat) (e_a2 : a2 = some b_a2) (hs_a2 : W0.1 b_a2 = 10)  (hc : 169 ≤ c) {post : Int32 → CS → Prop} (kk : ∀ (r : Int32) (W' : CW) (κ' : CS), WX W0 W' κ → CV G E W' (c - 169) κ' → CF [(1, 6), (10, 7), (13, 10), (13, 11), (13, 12), (13, 8), (13, 9), (20, 0), (21, 0), (30, 0), (4, 0), (4, 1), (4, 10), (4, 11), (4, 12), (4, 13), (4, 2), (4, 3), (4, 5), (4, 6), (4, 7), (4, 8), (4, 9), (5, 1), (5, 10), (5, 11), (5, 12), (5, 13), (5, 2), (5, 3), (5, 4), (5, 6), (5, 7), (5, 8), (5, 9), (6, 1), (61, 0), (61, 1), (63, 0), (63, 1)] W0 κ κ' → (True) → post r κ') : F_X11_setInfo G h a1 a2 post κ := by
  have hs0_h := hs_h
  have hs0_a1 := hs_a1
  have hs0_a2 := hs_a2
  suffices H_ : ∀ W : CW, WX W0 W κ → CV G E W (c - 0) κ → (W.1 h = 1) → (W.1 b_a1 = 8) → (W.1 b_a2 = 10) → F_X11_setInfo G h a1 a2 post κ from H_ W0 WX.rf (hV.dn (by omega)) hs_h hs_a1 hs_a2
  intro W hx hV hs_h hs_a1 hs_a2
  unfold F_X11_setInfo
  have hfr : CF [(1, 6), (10, 7), (13, 10), (13, 11), (13, 12), (13, 8), (13, 9), (20, 0), (21, 0), (30, 0), (4, 0), (4, 1), (4, 10), (4, 11), (4, 12), (4, 13), (4, 2), (4, 3), (4, 5), (4, 6), (4, 7), (4, 8), (4, 9), (5, 1), (5, 10), (5, 11), (5, 12), (5, 13), (5, 2), (5, 3), (5, 4), (5, 6), (5, 7), (5, 8), (5, 9), (6, 1), (61, 0), (61, 1), (63, 0), (63, 1)] W0 κ κ := CF.rf
  have k_m1073741821 : ((-1073741821) : Int32).toInt = (-1073741821) := rfl
  have k_m1073741820 : ((-1073741820) : Int32).toInt = (-1073741820) := rfl
  have k_m1073741790 : ((-1073741790) : Int32).toInt = (-1073741790) := rfl
  have k_0 : (0 : Int32).toInt = 0 := rfl
  have k_1 : (1 : Int32).toInt = 1 := rfl
  have k_2 : (2 : Int32).toInt = 2 := rfl
  have k_4 : (4 : Int32).toInt = 4 := rfl
  have k_8 : (8 : Int32).toInt = 8 := rfl
  have k_64 : (64 : Int32).toInt = 64 := rfl
  have k_66 : (66 : Int32).toInt = 66 := rfl
  have k_67 : (67 : Int32).toInt = 67 := rfl
  have k_68 : (68 : Int32).toInt = 68 := rfl
  have k_72 : (72 : Int32).toInt = 72 := rfl
  have kl_m1073741821 : ((-1073741821) : Int64).toInt = (-1073741821) := rfl
  have kl_m1073741820 : ((-1073741820) : Int64).toInt = (-1073741820) := rfl
  have kl_m1073741790 : ((-1073741790) : Int64).toInt = (-1073741790) := rfl
  have kl_0 : (0 : Int64).toInt = 0 := rfl
  have kl_1 : (1 : Int64).toInt = 1 := rfl
  have kl_2 : (2 : Int64).toInt = 2 := rfl
  have kl_4 : (4 : Int64).toInt = 4 := rfl
  have kl_8 : (8 : Int64).toInt = 8 := rfl
  have kl_64 : (64 : Int64).toInt = 64 := rfl
  have kl_66 : (66 : Int64).toInt = 66 := rfl
  have kl_67 : (67 : Int64).toInt = 67 := rfl
  have kl_68 : (68 : Int64).toInt = 68 := rfl
  have kl_72 : (72 : Int64).toInt = 72 := rfl
  refine ⟨b_a1, e_a1, (hV.mm hs_a1 (by decide) rfl), ?_⟩
  refine t2_X0_number hV b_a1 hs_a1 66 1  (by decide) (fun z2 pz2 => ?_)
  have rg_z2 := l_range z2
  intro z3 ez3
  try have hz3 := l_toi ez3 (by omega) (by omega)
  have rg_z3 := i_range z3
  refine ⟨b_a1, e_a1, (hV.mm hs_a1 (by decide) rfl), ?_⟩
  refine t2_X0_number hV b_a1 hs_a1 67 1  (by decide) (fun z5 pz5 => ?_)
  have rg_z5 := l_range z5
  intro z6 ez6
  try have hz6 := l_toi ez6 (by omega) (by omega)
  have rg_z6 := i_range z6
  refine ⟨b_a1, e_a1, (hV.mm hs_a1 (by decide) rfl), ?_⟩
  refine t2_X0_number hV b_a1 hs_a1 68 4  (by decide) (fun z8 pz8 => ?_)
  have rg_z8 := l_range z8
  refine ⟨b_a1, e_a1, (hV.mm hs_a1 (by decide) rfl), ?_⟩
  refine t2_X0_number hV b_a1 hs_a1 72 2  (by decide) (fun z10 pz10 => ?_)
  have rg_z10 := l_range z10
  intro z11 ez11
  try have hz11 := l_toi ez11 (by omega) (by omega)
  have rg_z11 := i_range z11
  refine t_X11_setSizeOf hV z6  (fun z13 pz13 => ?_)
  have rg_z13 := i_range z13
  refine jc_dup ?_
  refine ⟨fun c1 => ?_, fun c1 => ?_⟩
  · (try dsimp only)
    exact kk (-1073741821) W κ hx (hV.dn (by omega)) hfr trivial
  · refine ⟨fun c2 => ?_, fun c2 => ?_⟩
    · intro z19 ez19
      have hz19 := i_tol ez19
      have rg_z19 := l_range z19
      refine ⟨fun c3 => ?_, fun c3 => ?_⟩
      · refine ⟨b_a2, e_a2, (hV.mm hs_a2 (by decide) rfl), ?_⟩
        intro z20 ez20
        have vz20 := hV.1.iv hs_a2 (by decide) rfl 3 (-2147483648) 2147483647 rfl ez20
        have wz20 : z20.toInt = (sI κ.1 b_a2 3).toInt := by rw [ez20]
        refine t_X11_setAccessOf hV z6  (fun z22 pz22 => ?_)
        have rg_z22 := i_range z22
        intro z23 ez23
        try have hz23 := i_and ez23 (by omega)
        have rg_z23 := i_range z23
        refine ⟨fun c4 => ?_, fun c4 => ?_⟩
        · refine jc_in (fun (x : Int32) (κ' : CS) => ∃ W' : CW, WLe W W' ∧ WX W0 W' κ ∧ CV G E W' (c - 169) κ' ∧ CF [(1, 6), (10, 7), (13, 10), (13, 11), (13, 12), (13, 8), (13, 9), (20, 0), (21, 0), (30, 0), (4, 0), (4, 1), (4, 10), (4, 11), (4, 12), (4, 13), (4, 2), (4, 3), (4, 5), (4, 6), (4, 7), (4, 8), (4, 9), (5, 1), (5, 10), (5, 11), (5, 12), (5, 13), (5, 2), (5, 3), (5, 4), (5, 6), (5, 7), (5, 8), (5, 9), (6, 1), (61, 0), (61, 1), (63, 0), (63, 1)] W0 κ κ' ∧ ((True))) (fun x24 κ25 hJ => ?_) (fun K26 hK26 => ?_)
          · obtain ⟨W, le197, hx, hV, hfr, hv⟩ := hJ
            have hs_h := WLe.at le197 hs_h (by decide)
            have hs_a1 := WLe.at le197 hs_a1 (by decide)
            have hs_a2 := WLe.at le197 hs_a2 (by decide)
            (try dsimp only at hv)
            have rg_x24 := i_range x24
            refine ⟨(hV.mm hs_h (by decide) rfl), ?_⟩
            intro z29 ez29
            obtain ⟨bz29, ebz29, hsz29⟩ := hV.1.nn hs_h (by decide) rfl 15 rfl (by decide)
            have ebz29 := ez29.trans ebz29
            refine ⟨bz29, ebz29, (hV.mm hsz29 (by decide) rfl), ?_⟩
            refine t_X6_begin hV bz29 hsz29 66 (by omega) (by omega) (fun W κ30 x1_ hV fκ30 pu7 => ?_)
            have hV : CV G E W (c - 169) κ30 := hV.dn (by omega)
            have hx2 := hx.tr x1_ hfr.sl
            have hfr := hfr.trW hx fκ30 (by decide)
            have hs_h := WLe.at (x1_).1 hs_h (by decide)
            have hs_a1 := WLe.at (x1_).1 hs_a1 (by decide)
            have hs_a2 := WLe.at (x1_).1 hs_a2 (by decide)
            have hsz29 := WLe.at (x1_).1 hsz29 (by decide)
            have hx := hx2
            refine ⟨(hV.mm hs_h (by decide) rfl), ?_⟩
            intro z32 ez32
            obtain ⟨bz32, ebz32, hsz32⟩ := hV.1.nn hs_h (by decide) rfl 15 rfl (by decide)
            have ebz32 := ez32.trans ebz32
            refine ⟨bz32, ebz32, (hV.mm hsz32 (by decide) rfl), ?_⟩
            refine t_X6_put hV bz32 hsz32 rfl 64 2 2  (fun κ33 hV fκ33 pu8 => ?_)
            have hfr := hfr.trW hx fκ33 (by decide)
            exact kk x24 W κ33 hx (hV.dn (by omega)) hfr trivial
          · skip
            have le197 : WLe W W := WLe.rf
            refine ⟨fun c5 => ?_, fun c5 => ?_, fun c5 => ?_, fun c5 => ?_⟩
            · refine ⟨(hV.mm hs_h (by decide) rfl), ?_⟩
              refine t_X11_setValues hV h hs_h a1 b_a1 e_a1 hs_a1 a2 b_a2 e_a2 hs_a2 z11  (by omega) (fun z36 W κ35 x1_ hV fκ35 pz36 => ?_)
              have hV : CV G E W (c - 0) κ35 := hV.dn (by omega)
              have hx2 := hx.tr x1_ hfr.sl
              have hfr := hfr.trW hx fκ35 (by decide)
              have hs_h := WLe.at (x1_).1 hs_h (by decide)
              have hs_a1 := WLe.at (x1_).1 hs_a1 (by decide)
              have hs_a2 := WLe.at (x1_).1 hs_a2 (by decide)
              have le197 := WLe.tr le197 (x1_).1
              have hx := hx2
              have rg_z36 := i_range z36
              exact hK26 z36 κ35 ⟨W, le197, hx, hV.dn (by (try dsimp only); omega), hfr, trivial⟩
            · refine ⟨b_a2, e_a2, (hV.mm hs_a2 (by decide) rfl), ?_⟩
              intro z37 ez37
              obtain ⟨bz37, ebz37, hsz37⟩ := hV.1.nn hs_a2 (by decide) rfl 2 rfl (by decide)
              have ebz37 := ez37.trans ebz37
              refine ⟨b_a1, e_a1, (hV.mm hs_a1 (by decide) rfl), ?_⟩
              refine t2_X0_number hV b_a1 hs_a1 z11 1  (by decide) (fun z39 pz39 => ?_)
              have rg_z39 := l_range z39
              refine jc_dup ?_
              refine ⟨fun c6 => ?_, fun c6 => ?_⟩
              · (try dsimp only)
                refine ⟨(hV.mm hs_h (by decide) rfl), ?_⟩
                refine t_X11_setToGo hV h hs_h z37 bz37 ebz37 hsz37 0 (by omega) (fun z46 κ45 hV fκ45 pz46 => ?_)
                have hfr := hfr.trW hx fκ45 (by decide)
                have rg_z46 := i_range z46
                exact hK26 z46 κ45 ⟨W, le197, hx, hV.dn (by (try dsimp only); omega), hfr, trivial⟩
              · (try dsimp only)
                refine ⟨(hV.mm hs_h (by decide) rfl), ?_⟩
                refine t_X11_setToGo hV h hs_h z37 bz37 ebz37 hsz37 1 (by omega) (fun z46 κ45 hV fκ45 pz46 => ?_)
                have hfr := hfr.trW hx fκ45 (by decide)
                have rg_z46 := i_range z46
                exact hK26 z46 κ45 ⟨W, le197, hx, hV.dn (by (try dsimp only); omega), hfr, trivial⟩
            · refine ⟨b_a1, e_a1, (hV.mm hs_a1 (by decide) rfl), ?_⟩
              refine t_X0_number hV b_a1 hs_a1 z11 8  (fun z48 pz48 => ?_)
              have rg_z48 := l_range z48
              refine ⟨(hV.mm hs_h (by decide) rfl), ?_⟩
              refine t_X11_setSize hV h hs_h a2 b_a2 e_a2 hs_a2 z48  (by omega) (fun z50 W κ49 x1_ hV fκ49 pz50 => ?_)
              have hV : CV G E W (c - 0) κ49 := hV.dn (by omega)
              have hx2 := hx.tr x1_ hfr.sl
              have hfr := hfr.trW hx fκ49 (by decide)
              have hs_h := WLe.at (x1_).1 hs_h (by decide)
              have hs_a1 := WLe.at (x1_).1 hs_a1 (by decide)
              have hs_a2 := WLe.at (x1_).1 hs_a2 (by decide)
              have le197 := WLe.tr le197 (x1_).1
              have hx := hx2
              have rg_z50 := i_range z50
              exact hK26 z50 κ49 ⟨W, le197, hx, hV.dn (by (try dsimp only); omega), hfr, trivial⟩
            · refine ⟨(hV.mm hs_h (by decide) rfl), ?_⟩
              refine t_X11_rename hV h hs_h a1 b_a1 e_a1 hs_a1 a2 b_a2 e_a2 hs_a2 z11 z8  (by omega) (fun z52 W κ51 x1_ hV fκ51 pz52 => ?_)
              have hV : CV G E W (c - 169) κ51 := hV.dn (by omega)
              have hx2 := hx.tr x1_ hfr.sl
              have hfr := hfr.trW hx fκ51 (by decide)
              have hs_h := WLe.at (x1_).1 hs_h (by decide)
              have hs_a1 := WLe.at (x1_).1 hs_a1 (by decide)
              have hs_a2 := WLe.at (x1_).1 hs_a2 (by decide)
              have le197 := WLe.tr le197 (x1_).1
              have hx := hx2
              have rg_z52 := i_range z52
              exact hK26 z52 κ51 ⟨W, le197, hx, hV.dn (by (try dsimp only); omega), hfr, trivial⟩
        · exact kk (-1073741790) W κ hx (hV.dn (by omega)) hfr trivial
      · exact kk (-1073741820) W κ hx (hV.dn (by omega)) hfr trivial
    · (try dsimp only)
      exact kk (-1073741821) W κ hx (hV.dn (by omega)) hfr trivial
set_option maxRecDepth 100000 in
set_option maxHeartbeats 4000000 in
theorem t_X11_answerBreak {G : GE} {E : CE} {W0 : CW} {c : Int} {κ : CS} (hV : CV G E W0 c κ) (h : Nat) (hs_h : W0.1 h = 1) (a1 : Option Nat) (b_a1 : Nat) (e_a1 : a1 = some b_a1) (hs_a1 : W0.1 b_a1 = 8) (a2 : Option Nat) (b_a2 : Nat) (e_a2 : a2 = some b_a2) (hs_a2 : W0.1 b_a2 = 10)  (hc : 0 ≤ c) {post : Int32 → CS → Prop} (kk : ∀ (r : Int32) (W' : CW) (κ' : CS), WX W0 W' κ → CV G E W' (c - 0) κ' → CF [(10, 7), (10, 8), (20, 0), (61, 0), (61, 1), (8, 19)] W0 κ κ' → (True) → post r κ') : F_X11_answerBreak G h a1 a2 post κ := by
  have hs0_h := hs_h
  have hs0_a1 := hs_a1
  have hs0_a2 := hs_a2
  suffices H_ : ∀ W : CW, WX W0 W κ → CV G E W (c - 0) κ → (W.1 h = 1) → (W.1 b_a1 = 8) → (W.1 b_a2 = 10) → F_X11_answerBreak G h a1 a2 post κ from H_ W0 WX.rf (hV.dn (by omega)) hs_h hs_a1 hs_a2
  intro W hx hV hs_h hs_a1 hs_a2
  unfold F_X11_answerBreak
  have hfr : CF [(10, 7), (10, 8), (20, 0), (61, 0), (61, 1), (8, 19)] W0 κ κ := CF.rf
  have k_m1073741597 : ((-1073741597) : Int32).toInt = (-1073741597) := rfl
  have k_0 : (0 : Int32).toInt = 0 := rfl
  have k_1 : (1 : Int32).toInt = 1 := rfl
  have k_2 : (2 : Int32).toInt = 2 := rfl
  have k_8 : (8 : Int32).toInt = 8 := rfl
  have k_24 : (24 : Int32).toInt = 24 := rfl
  have k_64 : (64 : Int32).toInt = 64 := rfl
  have k_66 : (66 : Int32).toInt = 66 := rfl
  have k_72 : (72 : Int32).toInt = 72 := rfl
  have k_80 : (80 : Int32).toInt = 80 := rfl
  have k_88 : (88 : Int32).toInt = 88 := rfl
  have kl_m1073741597 : ((-1073741597) : Int64).toInt = (-1073741597) := rfl
  have kl_0 : (0 : Int64).toInt = 0 := rfl
  have kl_1 : (1 : Int64).toInt = 1 := rfl
  have kl_2 : (2 : Int64).toInt = 2 := rfl
  have kl_8 : (8 : Int64).toInt = 8 := rfl
  have kl_24 : (24 : Int64).toInt = 24 := rfl
  have kl_64 : (64 : Int64).toInt = 64 := rfl
  have kl_66 : (66 : Int64).toInt = 66 := rfl
  have kl_72 : (72 : Int64).toInt = 72 := rfl
  have kl_80 : (80 : Int64).toInt = 80 := rfl
  have kl_88 : (88 : Int64).toInt = 88 := rfl
  refine ⟨b_a1, e_a1, (hV.mm hs_a1 (by decide) rfl), ?_⟩
  refine t2_X0_number hV b_a1 hs_a1 66 1  (by decide) (fun z2 pz2 => ?_)
  have rg_z2 := l_range z2
  intro z3 ez3
  try have hz3 := l_toi ez3 (by omega) (by omega)
  have rg_z3 := i_range z3
  refine ⟨b_a2, e_a2, (hV.mm hs_a2 (by decide) rfl), ?_⟩
  intro z4 ez4
  have vz4 := hV.1.iv hs_a2 (by decide) rfl 8 0 1 rfl ez4
  have wz4 : z4.toInt = (sI κ.1 b_a2 8).toInt := by rw [ez4]
  refine ⟨fun c1 => ?_, fun c1 => ?_⟩
  · refine ⟨b_a2, e_a2, (hV.mm hs_a2 (by decide) rfl), ?_⟩
    intro z5 ez5
    have vz5 := hV.1.iv hs_a2 (by decide) rfl 9 (-2147483648) 2147483647 rfl ez5
    have wz5 : z5.toInt = (sI κ.1 b_a2 9).toInt := by rw [ez5]
    refine jc_in (fun (x : Int32) (κ' : CS) => κ = κ' ∧ (((0 ≤ x.toInt ∧ x.toInt ≤ 1)))) (fun x6 κ7 hJ => ?_) (fun K8 hK8 => ?_)
    · obtain ⟨hsg, hv⟩ := hJ
      subst hsg
      (try dsimp only at hv)
      have rg_x6 := i_range x6
      refine jc_in (fun (x : Int32) (κ' : CS) => κ = κ' ∧ ((True))) (fun x11 κ12 hJ => ?_) (fun K13 hK13 => ?_)
      · obtain ⟨hsg, hv⟩ := hJ
        subst hsg
        (try dsimp only at hv)
        have rg_x11 := i_range x11
        refine ⟨(hV.mm hs_h (by decide) rfl), ?_⟩
        refine t_X11_endBreak hV h hs_h a2 b_a2 e_a2 hs_a2 x11  (fun κ16 hV fκ16 pu2 => ?_)
        have hfr := hfr.trW hx fκ16 (by decide)
        refine ⟨fun c2 => ?_, fun c2 => ?_⟩
        · refine ⟨(hV.mm hs_h (by decide) rfl), ?_⟩
          intro z18 ez18
          obtain ⟨bz18, ebz18, hsz18⟩ := hV.1.nn hs_h (by decide) rfl 15 rfl (by decide)
          have ebz18 := ez18.trans ebz18
          refine ⟨bz18, ebz18, (hV.mm hsz18 (by decide) rfl), ?_⟩
          refine t_X6_begin hV bz18 hsz18 88 (by omega) (by omega) (fun W κ19 x1_ hV fκ19 pu3 => ?_)
          have hV : CV G E W (c - 0) κ19 := hV.dn (by omega)
          have hx2 := hx.tr x1_ hfr.sl
          have hfr := hfr.trW hx fκ19 (by decide)
          have hs_h := WLe.at (x1_).1 hs_h (by decide)
          have hs_a1 := WLe.at (x1_).1 hs_a1 (by decide)
          have hs_a2 := WLe.at (x1_).1 hs_a2 (by decide)
          have hsz18 := WLe.at (x1_).1 hsz18 (by decide)
          have hx := hx2
          refine ⟨(hV.mm hs_h (by decide) rfl), ?_⟩
          intro z21 ez21
          obtain ⟨bz21, ebz21, hsz21⟩ := hV.1.nn hs_h (by decide) rfl 15 rfl (by decide)
          have ebz21 := ez21.trans ebz21
          refine ⟨bz21, ebz21, (hV.mm hsz21 (by decide) rfl), ?_⟩
          refine t_X6_put hV bz21 hsz21 rfl 64 2 24  (fun κ22 hV fκ22 pu4 => ?_)
          have hfr := hfr.trW hx fκ22 (by decide)
          refine ⟨(hV.mm hs_h (by decide) rfl), ?_⟩
          intro z24 ez24
          obtain ⟨bz24, ebz24, hsz24⟩ := hV.1.nn hs_h (by decide) rfl 15 rfl (by decide)
          have ebz24 := ez24.trans ebz24
          intro z25 ez25
          have hz25 := i_tol ez25
          have rg_z25 := l_range z25
          refine ⟨bz24, ebz24, (hV.mm hsz24 (by decide) rfl), ?_⟩
          refine t_X6_put hV bz24 hsz24 rfl 66 1 z25  (fun κ26 hV fκ26 pu5 => ?_)
          have hfr := hfr.trW hx fκ26 (by decide)
          refine ⟨(hV.mm hs_h (by decide) rfl), ?_⟩
          intro z28 ez28
          obtain ⟨bz28, ebz28, hsz28⟩ := hV.1.nn hs_h (by decide) rfl 15 rfl (by decide)
          have ebz28 := ez28.trans ebz28
          refine ⟨b_a2, e_a2, (hV.mm hs_a2 (by decide) rfl), ?_⟩
          intro z29 ez29
          have vz29 := l_range z29
          have wz29 : z29.toInt = (sJ κ26.1 b_a2 0).toInt := by rw [ez29]
          refine ⟨bz28, ebz28, (hV.mm hsz28 (by decide) rfl), ?_⟩
          refine t_X6_put hV bz28 hsz28 rfl 72 8 z29  (fun κ30 hV fκ30 pu6 => ?_)
          have hfr := hfr.trW hx fκ30 (by decide)
          refine ⟨(hV.mm hs_h (by decide) rfl), ?_⟩
          intro z32 ez32
          obtain ⟨bz32, ebz32, hsz32⟩ := hV.1.nn hs_h (by decide) rfl 15 rfl (by decide)
          have ebz32 := ez32.trans ebz32
          refine ⟨b_a2, e_a2, (hV.mm hs_a2 (by decide) rfl), ?_⟩
          intro z33 ez33
          have vz33 := l_range z33
          have wz33 : z33.toInt = (sJ κ30.1 b_a2 0).toInt := by rw [ez33]
          refine ⟨bz32, ebz32, (hV.mm hsz32 (by decide) rfl), ?_⟩
          refine t_X6_put hV bz32 hsz32 rfl 80 8 z33  (fun κ34 hV fκ34 pu7 => ?_)
          have hfr := hfr.trW hx fκ34 (by decide)
          exact kk 0 W κ34 hx (hV.dn (by omega)) hfr trivial
        · exact kk (-1073741597) W κ16 hx (hV.dn (by omega)) hfr trivial
      · skip
        refine ⟨fun c3 => ?_, fun c3 => ?_⟩
        · exact hK13 0 κ ⟨rfl, trivial⟩
        · exact hK13 z3 κ ⟨rfl, trivial⟩
    · skip
      refine ⟨fun c4 => ?_, fun c4 => ?_⟩
      · exact hK8 0 κ ⟨rfl, (by (try dsimp only); omega)⟩
      · exact hK8 1 κ ⟨rfl, (by (try dsimp only); omega)⟩
  · exact kk (-1073741597) W κ hx (hV.dn (by omega)) hfr trivial
set_option maxRecDepth 100000 in
set_option maxHeartbeats 4000000 in
theorem t_X11_performOnFile {G : GE} {E : CE} {W0 : CW} {c : Int} {κ : CS} (hV : CV G E W0 c κ) (h : Nat) (hs_h : W0.1 h = 1) (a1 : Option Nat) (b_a1 : Nat) (e_a1 : a1 = some b_a1) (hs_a1 : W0.1 b_a1 = 8) (a2 : Option Nat) (b_a2 : Nat) (e_a2 : a2 = some b_a2) (hs_a2 : W0.1 b_a2 = 10)  (hc : 1462 ≤ c) {post : Int32 → CS → Prop} (kk : ∀ (r : Int32) (W' : CW) (κ' : CS), WX W0 W' κ → CV G E W' (c - 1462) κ' → CF [(1, 6), (10, 11), (10, 12), (10, 14), (10, 6), (10, 7), (10, 8), (13, 10), (13, 11), (13, 12), (13, 8), (13, 9), (20, 0), (21, 0), (30, 0), (33, 0), (4, 0), (4, 1), (4, 10), (4, 11), (4, 12), (4, 13), (4, 14), (4, 2), (4, 3), (4, 5), (4, 6), (4, 7), (4, 8), (4, 9), (43, 0), (43, 1), (43, 2), (44, 0), (44, 1), (44, 2), (5, 1), (5, 10), (5, 11), (5, 12), (5, 13), (5, 2), (5, 3), (5, 4), (5, 6), (5, 7), (5, 8), (5, 9), (53, 0), (54, 0), (6, 1), (61, 0), (61, 1), (63, 0), (63, 1), (8, 16), (8, 19), (8, 20)] W0 κ κ' → (True) → post r κ') : F_X11_performOnFile G h a1 a2 post κ := by
  have hs0_h := hs_h
  have hs0_a1 := hs_a1
  have hs0_a2 := hs_a2
  suffices H_ : ∀ W : CW, WX W0 W κ → CV G E W (c - 0) κ → (W.1 h = 1) → (W.1 b_a1 = 8) → (W.1 b_a2 = 10) → F_X11_performOnFile G h a1 a2 post κ from H_ W0 WX.rf (hV.dn (by omega)) hs_h hs_a1 hs_a2
  intro W hx hV hs_h hs_a1 hs_a2
  unfold F_X11_performOnFile
  have hfr : CF [(1, 6), (10, 11), (10, 12), (10, 14), (10, 6), (10, 7), (10, 8), (13, 10), (13, 11), (13, 12), (13, 8), (13, 9), (20, 0), (21, 0), (30, 0), (33, 0), (4, 0), (4, 1), (4, 10), (4, 11), (4, 12), (4, 13), (4, 14), (4, 2), (4, 3), (4, 5), (4, 6), (4, 7), (4, 8), (4, 9), (43, 0), (43, 1), (43, 2), (44, 0), (44, 1), (44, 2), (5, 1), (5, 10), (5, 11), (5, 12), (5, 13), (5, 2), (5, 3), (5, 4), (5, 6), (5, 7), (5, 8), (5, 9), (53, 0), (54, 0), (6, 1), (61, 0), (61, 1), (63, 0), (63, 1), (8, 16), (8, 19), (8, 20)] W0 κ κ := CF.rf
  have k_m1073741637 : ((-1073741637) : Int32).toInt = (-1073741637) := rfl
  have k_0 : (0 : Int32).toInt = 0 := rfl
  have kl_m1073741637 : ((-1073741637) : Int64).toInt = (-1073741637) := rfl
  refine ⟨b_a1, e_a1, (hV.mm hs_a1 (by decide) rfl), ?_⟩
  intro z1 ez1
  have vz1 := hV.1.iv hs_a1 (by decide) rfl 5 (-2147483648) 2147483647 rfl ez1
  have wz1 : z1.toInt = (sI κ.1 b_a1 5).toInt := by rw [ez1]
  refine jc_dup ?_
  refine ⟨fun c1 => ?_, fun c1 => ?_, fun c1 => ?_, fun c1 => ?_, fun c1 => ?_, fun c1 => ?_, fun c1 => ?_, fun c1 => ?_, fun c1 => ?_, fun c1 => ?_, fun c1 => ?_, fun c1 => ?_, fun c1 => ?_, fun c1 => ?_⟩
  · (try dsimp only)
    exact kk (-1073741637) W κ hx (hV.dn (by omega)) hfr trivial
  · refine ⟨(hV.mm hs_h (by decide) rfl), ?_⟩
    refine t_X11_close hV h hs_h a1 b_a1 e_a1 hs_a1 a2 b_a2 e_a2 hs_a2  (by omega) (fun z8 W κ7 x1_ hV fκ7 pz8 => ?_)
    have hV : CV G E W (c - 0) κ7 := hV.dn (by omega)
    have hx2 := hx.tr x1_ hfr.sl
    have hfr := hfr.trW hx fκ7 (by decide)
    have hs_h := WLe.at (x1_).1 hs_h (by decide)
    have hs_a1 := WLe.at (x1_).1 hs_a1 (by decide)
    have hs_a2 := WLe.at (x1_).1 hs_a2 (by decide)
    have hx := hx2
    have rg_z8 := i_range z8
    exact kk z8 W κ7 hx (hV.dn (by omega)) hfr trivial
  · refine ⟨(hV.mm hs_h (by decide) rfl), ?_⟩
    refine t_X11_flush hV h hs_h a2 b_a2 e_a2 hs_a2  (by omega) (fun z10 W κ9 x1_ hV fκ9 pz10 => ?_)
    have hV : CV G E W (c - 0) κ9 := hV.dn (by omega)
    have hx2 := hx.tr x1_ hfr.sl
    have hfr := hfr.trW hx fκ9 (by decide)
    have hs_h := WLe.at (x1_).1 hs_h (by decide)
    have hs_a1 := WLe.at (x1_).1 hs_a1 (by decide)
    have hs_a2 := WLe.at (x1_).1 hs_a2 (by decide)
    have hx := hx2
    have rg_z10 := i_range z10
    exact kk z10 W κ9 hx (hV.dn (by omega)) hfr trivial
  · refine ⟨(hV.mm hs_h (by decide) rfl), ?_⟩
    refine t_X11_read hV h hs_h a1 b_a1 e_a1 hs_a1 a2 b_a2 e_a2 hs_a2  (by omega) (fun z12 W κ11 x1_ hV fκ11 pz12 => ?_)
    have hV : CV G E W (c - 0) κ11 := hV.dn (by omega)
    have hx2 := hx.tr x1_ hfr.sl
    have hfr := hfr.trW hx fκ11 (by decide)
    have hs_h := WLe.at (x1_).1 hs_h (by decide)
    have hs_a1 := WLe.at (x1_).1 hs_a1 (by decide)
    have hs_a2 := WLe.at (x1_).1 hs_a2 (by decide)
    have hx := hx2
    have rg_z12 := i_range z12
    exact kk z12 W κ11 hx (hV.dn (by omega)) hfr trivial
  · refine ⟨(hV.mm hs_h (by decide) rfl), ?_⟩
    refine t_X11_write hV h hs_h a1 b_a1 e_a1 hs_a1 a2 b_a2 e_a2 hs_a2  (by omega) (fun z14 W κ13 x1_ hV fκ13 pz14 => ?_)
    have hV : CV G E W (c - 1036) κ13 := hV.dn (by omega)
    have hx2 := hx.tr x1_ hfr.sl
    have hfr := hfr.trW hx fκ13 (by decide)
    have hs_h := WLe.at (x1_).1 hs_h (by decide)
    have hs_a1 := WLe.at (x1_).1 hs_a1 (by decide)
    have hs_a2 := WLe.at (x1_).1 hs_a2 (by decide)
    have hx := hx2
    have rg_z14 := i_range z14
    exact kk z14 W κ13 hx (hV.dn (by omega)) hfr trivial
  · refine ⟨(hV.mm hs_h (by decide) rfl), ?_⟩
    refine t_X11_lock hV h hs_h a1 b_a1 e_a1 hs_a1 a2 b_a2 e_a2 hs_a2  (by omega) (fun z16 W κ15 x1_ hV fκ15 pz16 => ?_)
    have hV : CV G E W (c - 1462) κ15 := hV.dn (by omega)
    have hx2 := hx.tr x1_ hfr.sl
    have hfr := hfr.trW hx fκ15 (by decide)
    have hs_h := WLe.at (x1_).1 hs_h (by decide)
    have hs_a1 := WLe.at (x1_).1 hs_a1 (by decide)
    have hs_a2 := WLe.at (x1_).1 hs_a2 (by decide)
    have hx := hx2
    have rg_z16 := i_range z16
    exact kk z16 W κ15 hx (hV.dn (by omega)) hfr trivial
  · (try dsimp only)
    exact kk (-1073741637) W κ hx (hV.dn (by omega)) hfr trivial
  · (try dsimp only)
    exact kk (-1073741637) W κ hx (hV.dn (by omega)) hfr trivial
  · (try dsimp only)
    exact kk (-1073741637) W κ hx (hV.dn (by omega)) hfr trivial
  · refine ⟨(hV.mm hs_h (by decide) rfl), ?_⟩
    refine t_X11_queryDirectory hV h hs_h a1 b_a1 e_a1 hs_a1 a2 b_a2 e_a2 hs_a2  (by omega) (fun z18 W κ17 x1_ hV fκ17 pz18 => ?_)
    have hV : CV G E W (c - 52) κ17 := hV.dn (by omega)
    have hx2 := hx.tr x1_ hfr.sl
    have hfr := hfr.trW hx fκ17 (by decide)
    have hs_h := WLe.at (x1_).1 hs_h (by decide)
    have hs_a1 := WLe.at (x1_).1 hs_a1 (by decide)
    have hs_a2 := WLe.at (x1_).1 hs_a2 (by decide)
    have hx := hx2
    have rg_z18 := i_range z18
    exact kk z18 W κ17 hx (hV.dn (by omega)) hfr trivial
  · (try dsimp only)
    exact kk (-1073741637) W κ hx (hV.dn (by omega)) hfr trivial
  · refine ⟨(hV.mm hs_h (by decide) rfl), ?_⟩
    refine t_X11_queryInfo hV h hs_h a1 b_a1 e_a1 hs_a1 a2 b_a2 e_a2 hs_a2  (by omega) (fun z20 W κ19 x1_ hV fκ19 pz20 => ?_)
    have hV : CV G E W (c - 0) κ19 := hV.dn (by omega)
    have hx2 := hx.tr x1_ hfr.sl
    have hfr := hfr.trW hx fκ19 (by decide)
    have hs_h := WLe.at (x1_).1 hs_h (by decide)
    have hs_a1 := WLe.at (x1_).1 hs_a1 (by decide)
    have hs_a2 := WLe.at (x1_).1 hs_a2 (by decide)
    have hx := hx2
    have rg_z20 := i_range z20
    exact kk z20 W κ19 hx (hV.dn (by omega)) hfr trivial
  · refine ⟨(hV.mm hs_h (by decide) rfl), ?_⟩
    refine t_X11_setInfo hV h hs_h a1 b_a1 e_a1 hs_a1 a2 b_a2 e_a2 hs_a2  (by omega) (fun z22 W κ21 x1_ hV fκ21 pz22 => ?_)
    have hV : CV G E W (c - 169) κ21 := hV.dn (by omega)
    have hx2 := hx.tr x1_ hfr.sl
    have hfr := hfr.trW hx fκ21 (by decide)
    have hs_h := WLe.at (x1_).1 hs_h (by decide)
    have hs_a1 := WLe.at (x1_).1 hs_a1 (by decide)
    have hs_a2 := WLe.at (x1_).1 hs_a2 (by decide)
    have hx := hx2
    have rg_z22 := i_range z22
    exact kk z22 W κ21 hx (hV.dn (by omega)) hfr trivial
  · refine ⟨(hV.mm hs_h (by decide) rfl), ?_⟩
    refine t_X11_answerBreak hV h hs_h a1 b_a1 e_a1 hs_a1 a2 b_a2 e_a2 hs_a2  (by omega) (fun z24 W κ23 x1_ hV fκ23 pz24 => ?_)
    have hV : CV G E W (c - 0) κ23 := hV.dn (by omega)
    have hx2 := hx.tr x1_ hfr.sl
    have hfr := hfr.trW hx fκ23 (by decide)
    have hs_h := WLe.at (x1_).1 hs_h (by decide)
    have hs_a1 := WLe.at (x1_).1 hs_a1 (by decide)
    have hs_a2 := WLe.at (x1_).1 hs_a2 (by decide)
    have hx := hx2
    have rg_z24 := i_range z24
    exact kk z24 W κ23 hx (hV.dn (by omega)) hfr trivial
set_option maxRecDepth 100000 in
set_option maxHeartbeats 4000000 in
theorem t_X11_negotiate {G : GE} {E : CE} {W0 : CW} {c : Int} {κ : CS} (hV : CV G E W0 c κ) (h : Nat) (hs_h : W0.1 h = 1) (a1 : Option Nat) (b_a1 : Nat) (e_a1 : a1 = some b_a1) (hs_a1 : W0.1 b_a1 = 8)  (hc : 0 ≤ c) {post : Int32 → CS → Prop} (kk : ∀ (r : Int32) (W' : CW) (κ' : CS), WX W0 W' κ → CV G E W' (c - 0) κ' → CF [(20, 0), (3, 1), (61, 0), (61, 1)] W0 κ κ' → (True) → post r κ') : F_X11_negotiate G h a1 post κ := by
  have hs0_h := hs_h
  have hs0_a1 := hs_a1
  suffices H_ : ∀ W : CW, WX W0 W κ → CV G E W (c - 0) κ → (W.1 h = 1) → (W.1 b_a1 = 8) → F_X11_negotiate G h a1 post κ from H_ W0 WX.rf (hV.dn (by omega)) hs_h hs_a1
  intro W hx hV hs_h hs_a1
  unfold F_X11_negotiate
  have hfr : CF [(20, 0), (3, 1), (61, 0), (61, 1)] W0 κ κ := CF.rf
  have k_m1073741811 : ((-1073741811) : Int32).toInt = (-1073741811) := rfl
  have k_m1073741637 : ((-1073741637) : Int32).toInt = (-1073741637) := rfl
  have k_0 : (0 : Int32).toInt = 0 := rfl
  have k_1 : (1 : Int32).toInt = 1 := rfl
  have k_2 : (2 : Int32).toInt = 2 := rfl
  have k_4 : (4 : Int32).toInt = 4 := rfl
  have k_8 : (8 : Int32).toInt = 8 := rfl
  have k_64 : (64 : Int32).toInt = 64 := rfl
  have k_65 : (65 : Int32).toInt = 65 := rfl
  have k_66 : (66 : Int32).toInt = 66 := rfl
  have k_68 : (68 : Int32).toInt = 68 := rfl
  have k_92 : (92 : Int32).toInt = 92 := rfl
  have k_96 : (96 : Int32).toInt = 96 := rfl
  have k_100 : (100 : Int32).toInt = 100 := rfl
  have k_104 : (104 : Int32).toInt = 104 := rfl
  have k_120 : (120 : Int32).toInt = 120 := rfl
  have k_128 : (128 : Int32).toInt = 128 := rfl
  have k_129 : (129 : Int32).toInt = 129 := rfl
  have k_514 : (514 : Int32).toInt = 514 := rfl
  have k_1024 : (1024 : Int32).toInt = 1024 := rfl
  have kl_m1073741811 : ((-1073741811) : Int64).toInt = (-1073741811) := rfl
  have kl_m1073741637 : ((-1073741637) : Int64).toInt = (-1073741637) := rfl
  have kl_0 : (0 : Int64).toInt = 0 := rfl
  have kl_1 : (1 : Int64).toInt = 1 := rfl
  have kl_2 : (2 : Int64).toInt = 2 := rfl
  have kl_4 : (4 : Int64).toInt = 4 := rfl
  have kl_8 : (8 : Int64).toInt = 8 := rfl
  have kl_64 : (64 : Int64).toInt = 64 := rfl
  have kl_65 : (65 : Int64).toInt = 65 := rfl
  have kl_66 : (66 : Int64).toInt = 66 := rfl
  have kl_68 : (68 : Int64).toInt = 68 := rfl
  have kl_92 : (92 : Int64).toInt = 92 := rfl
  have kl_96 : (96 : Int64).toInt = 96 := rfl
  have kl_100 : (100 : Int64).toInt = 100 := rfl
  have kl_104 : (104 : Int64).toInt = 104 := rfl
  have kl_120 : (120 : Int64).toInt = 120 := rfl
  have kl_128 : (128 : Int64).toInt = 128 := rfl
  have kl_129 : (129 : Int64).toInt = 129 := rfl
  have kl_514 : (514 : Int64).toInt = 514 := rfl
  have kl_1024 : (1024 : Int64).toInt = 1024 := rfl
  refine ⟨b_a1, e_a1, (hV.mm hs_a1 (by decide) rfl), ?_⟩
  refine t2_X0_number hV b_a1 hs_a1 66 2  (by decide) (fun z2 pz2 => ?_)
  have rg_z2 := l_range z2
  intro z3 ez3
  try have hz3 := l_toi ez3 (by omega) (by omega)
  have rg_z3 := i_range z3
  refine jc_dup ?_
  refine ⟨fun c1 => ?_, fun c1 => ?_⟩
  · (try dsimp only)
    exact kk (-1073741811) W κ hx (hV.dn (by omega)) hfr trivial
  · intro z9 ez9
    try have hz9 := i_mulk 2 rfl ez9 (by omega) (by omega)
    have rg_z9 := i_range z9
    intro z10 ez10
    try have hz10 := i_add ez10 (by omega) (by omega)
    have rg_z10 := i_range z10
    refine ⟨b_a1, e_a1, (hV.mm hs_a1 (by decide) rfl), ?_⟩
    intro z11 ez11
    have vz11 := hV.1.iv hs_a1 (by decide) rfl 2 (-2147483648) 2147483647 rfl ez11
    have wz11 : z11.toInt = (sI κ.1 b_a1 2).toInt := by rw [ez11]
    refine ⟨fun c2 => ?_, fun c2 => ?_⟩
    · refine lc_in (fun (x : Int32 × Int32) (κ' : CS) => κ = κ' ∧ (((0 ≤ x.2.toInt ∧ x.2.toInt ≤ 1) ∧ (0 ≤ x.1.toInt)))) (fun (x : Int32 × Int32) (κ' : CS) => (2147483647 - x.1.toInt).toNat) ⟨rfl, (by (try dsimp only); omega)⟩ (fun x12 κ13 hJ K14 hK14 => ?_)
      obtain ⟨hsg, hv⟩ := hJ
      subst hsg
      (try dsimp only at hv)
      have rg_x12_1 := i_range x12.1
      have rg_x12_2 := i_range x12.2
      refine ⟨fun c3 => ?_, fun c3 => ?_⟩
      · refine ⟨fun c4 => ?_, fun c4 => ?_⟩
        · refine ⟨b_a1, e_a1, (hV.mm hs_a1 (by decide) rfl), ?_⟩
          intro z16 ez16
          obtain ⟨bz16, ebz16, hsz16⟩ := hV.1.nn hs_a1 (by decide) rfl 0 rfl (by decide)
          have ebz16 := ez16.trans ebz16
          refine ⟨by omega, bz16, ebz16, (hV.mm hsz16 (by decide) rfl), ?_⟩
          intro κ17 eκ17
          have rv_κ17 := i_range 1
          have hV := hV.uI (k := 1) (v := 1) hsz16 (Or.inl rfl) (Or.inl (by decide)) (Or.inl (by decide)) (fun _ => (by omega : (0 : Int) ≤ (1 : Int32).toInt ∧ (1 : Int32).toInt ≤ 1)) eκ17
          have uκ17 : (sI κ17.1 bz16 1).toInt = (1 : Int32).toInt := by rw [eκ17]; exact congrArg Int32.toInt u2_same
          have f1κ17 : CF [(3, 1)] W κ κ17 := CF.rf.uI (k := 1) hsz16 (by decide) (show ((3, 1) : Nat × Nat) ∈ ([(3, 1)] : List (Nat × Nat)) by simp) eκ17
          have hfr := hfr.trW hx f1κ17 (by decide)
          refine ⟨(hV.mm hs_h (by decide) rfl), ?_⟩
          intro z18 ez18
          obtain ⟨bz18, ebz18, hsz18⟩ := hV.1.nn hs_h (by decide) rfl 15 rfl (by decide)
          have ebz18 := ez18.trans ebz18
          refine ⟨bz18, ebz18, (hV.mm hsz18 (by decide) rfl), ?_⟩
          refine t_X6_begin hV bz18 hsz18 129 (by omega) (by omega) (fun W κ19 x1_ hV fκ19 pu2 => ?_)
          have hV : CV G E W (c - 0) κ19 := hV.dn (by omega)
          have hx2 := hx.tr x1_ hfr.sl
          have hfr := hfr.trW hx fκ19 (by decide)
          have hs_h := WLe.at (x1_).1 hs_h (by decide)
          have hs_a1 := WLe.at (x1_).1 hs_a1 (by decide)
          have hsz16 := WLe.at (x1_).1 hsz16 (by decide)
          have hsz18 := WLe.at (x1_).1 hsz18 (by decide)
          have hx := hx2
          refine ⟨(hV.mm hs_h (by decide) rfl), ?_⟩
          intro z21 ez21
          obtain ⟨bz21, ebz21, hsz21⟩ := hV.1.nn hs_h (by decide) rfl 15 rfl (by decide)
          have ebz21 := ez21.trans ebz21
          refine ⟨bz21, ebz21, (hV.mm hsz21 (by decide) rfl), ?_⟩
          refine t_X6_put hV bz21 hsz21 rfl 64 2 65  (fun κ22 hV fκ22 pu3 => ?_)
          have hfr := hfr.trW hx fκ22 (by decide)
          refine ⟨(hV.mm hs_h (by decide) rfl), ?_⟩
          intro z24 ez24
          obtain ⟨bz24, ebz24, hsz24⟩ := hV.1.nn hs_h (by decide) rfl 15 rfl (by decide)
          have ebz24 := ez24.trans ebz24
          refine ⟨bz24, ebz24, (hV.mm hsz24 (by decide) rfl), ?_⟩
          refine t_X6_put hV bz24 hsz24 rfl 66 2 1  (fun κ25 hV fκ25 pu4 => ?_)
          have hfr := hfr.trW hx fκ25 (by decide)
          refine ⟨(hV.mm hs_h (by decide) rfl), ?_⟩
          intro z27 ez27
          obtain ⟨bz27, ebz27, hsz27⟩ := hV.1.nn hs_h (by decide) rfl 15 rfl (by decide)
          have ebz27 := ez27.trans ebz27
          refine ⟨bz27, ebz27, (hV.mm hsz27 (by decide) rfl), ?_⟩
          refine t_X6_put hV bz27 hsz27 rfl 68 2 514  (fun κ28 hV fκ28 pu5 => ?_)
          have hfr := hfr.trW hx fκ28 (by decide)
          refine ⟨(hV.mm hs_h (by decide) rfl), ?_⟩
          intro z30 ez30
          obtain ⟨bz30, ebz30, hsz30⟩ := hV.1.nn hs_h (by decide) rfl 15 rfl (by decide)
          have ebz30 := ez30.trans ebz30
          refine ⟨bz30, ebz30, (hV.mm hsz30 (by decide) rfl), ?_⟩
          refine t_X6_put hV bz30 hsz30 rfl 92 4 1024  (fun κ31 hV fκ31 pu6 => ?_)
          have hfr := hfr.trW hx fκ31 (by decide)
          refine ⟨(hV.mm hs_h (by decide) rfl), ?_⟩
          intro z33 ez33
          obtain ⟨bz33, ebz33, hsz33⟩ := hV.1.nn hs_h (by decide) rfl 15 rfl (by decide)
          have ebz33 := ez33.trans ebz33
          refine ⟨bz33, ebz33, (hV.mm hsz33 (by decide) rfl), ?_⟩
          refine t_X6_put hV bz33 hsz33 rfl 96 4 1024  (fun κ34 hV fκ34 pu7 => ?_)
          have hfr := hfr.trW hx fκ34 (by decide)
          refine ⟨(hV.mm hs_h (by decide) rfl), ?_⟩
          intro z36 ez36
          obtain ⟨bz36, ebz36, hsz36⟩ := hV.1.nn hs_h (by decide) rfl 15 rfl (by decide)
          have ebz36 := ez36.trans ebz36
          refine ⟨bz36, ebz36, (hV.mm hsz36 (by decide) rfl), ?_⟩
          refine t_X6_put hV bz36 hsz36 rfl 100 4 1024  (fun κ37 hV fκ37 pu8 => ?_)
          have hfr := hfr.trW hx fκ37 (by decide)
          refine ⟨(hV.mm hs_h (by decide) rfl), ?_⟩
          intro z39 ez39
          obtain ⟨bz39, ebz39, hsz39⟩ := hV.1.nn hs_h (by decide) rfl 15 rfl (by decide)
          have ebz39 := ez39.trans ebz39
          refine ⟨(hV.mm hs_h (by decide) rfl), ?_⟩
          intro z40 ez40
          have vz40 := l_range z40
          have wz40 : z40.toInt = (sJ κ37.1 h 7).toInt := by rw [ez40]
          refine ⟨bz39, ebz39, (hV.mm hsz39 (by decide) rfl), ?_⟩
          refine t_X6_put hV bz39 hsz39 rfl 104 8 z40  (fun κ41 hV fκ41 pu9 => ?_)
          have hfr := hfr.trW hx fκ41 (by decide)
          refine ⟨(hV.mm hs_h (by decide) rfl), ?_⟩
          intro z43 ez43
          obtain ⟨bz43, ebz43, hsz43⟩ := hV.1.nn hs_h (by decide) rfl 15 rfl (by decide)
          have ebz43 := ez43.trans ebz43
          refine ⟨bz43, ebz43, (hV.mm hsz43 (by decide) rfl), ?_⟩
          refine t_X6_put hV bz43 hsz43 rfl 120 2 128  (fun κ44 hV fκ44 pu10 => ?_)
          have hfr := hfr.trW hx fκ44 (by decide)
          exact kk 0 W κ44 hx (hV.dn (by omega)) hfr trivial
        · exact kk (-1073741637) W κ hx (hV.dn (by omega)) hfr trivial
      · refine jc_dup ?_
        refine jc_dup ?_
        refine ⟨fun c5 => ?_, fun c5 => ?_⟩
        · (try dsimp only)
          (try dsimp only)
          intro z51 ez51
          try have hz51 := i_add ez51 (by omega) (by omega)
          have rg_z51 := i_range z51
          exact hK14 (z51, 1) κ ⟨rfl, (by (try dsimp only); omega)⟩ (by (try dsimp only); omega)
        · intro z57 ez57
          try have hz57 := i_mulk 2 rfl ez57 (by omega) (by omega)
          have rg_z57 := i_range z57
          intro z58 ez58
          try have hz58 := i_add ez58 (by omega) (by omega)
          have rg_z58 := i_range z58
          refine ⟨b_a1, e_a1, (hV.mm hs_a1 (by decide) rfl), ?_⟩
          refine t2_X0_number hV b_a1 hs_a1 z58 2  (by decide) (fun z60 pz60 => ?_)
          have rg_z60 := l_range z60
          refine ⟨fun c6 => ?_, fun c6 => ?_⟩
          · (try dsimp only)
            intro z51 ez51
            try have hz51 := i_add ez51 (by omega) (by omega)
            have rg_z51 := i_range z51
            exact hK14 (z51, 0) κ ⟨rfl, (by (try dsimp only); omega)⟩ (by (try dsimp only); omega)
          · (try dsimp only)
            (try dsimp only)
            intro z51 ez51
            try have hz51 := i_add ez51 (by omega) (by omega)
            have rg_z51 := i_range z51
            exact hK14 (z51, 1) κ ⟨rfl, (by (try dsimp only); omega)⟩ (by (try dsimp only); omega)
    · (try dsimp only)
      exact kk (-1073741811) W κ hx (hV.dn (by omega)) hfr trivial
set_option maxRecDepth 100000 in
set_option maxHeartbeats 4000000 in
theorem t_X11_setUp {G : GE} {E : CE} {W0 : CW} {c : Int} {κ : CS} (hV : CV G E W0 c κ) (h : Nat) (hs_h : W0.1 h = 1) (a1 : Option Nat) (b_a1 : Nat) (e_a1 : a1 = some b_a1) (hs_a1 : W0.1 b_a1 = 8)  (hc : 147 ≤ c) {post : Int32 → CS → Prop} (kk : ∀ (r : Int32) (W' : CW) (κ' : CS), WX W0 W' κ → CV G E W' (c - 147) κ' → CF [(20, 0), (31, 0), (33, 0), (40, 0), (40, 1), (40, 2), (50, 0), (61, 0), (61, 1), (8, 11)] W0 κ κ' → (True) → post r κ') : F_X11_setUp G h a1 post κ := by
  have hs0_h := hs_h
  have hs0_a1 := hs_a1
  suffices H_ : ∀ W : CW, WX W0 W κ → CV G E W (c - 0) κ → (W.1 h = 1) → (W.1 b_a1 = 8) → F_X11_setUp G h a1 post κ from H_ W0 WX.rf (hV.dn (by omega)) hs_h hs_a1
  intro W hx hV hs_h hs_a1
  unfold F_X11_setUp
  have hfr : CF [(20, 0), (31, 0), (33, 0), (40, 0), (40, 1), (40, 2), (50, 0), (61, 0), (61, 1), (8, 11)] W0 κ κ := CF.rf
  have k_m1073741670 : ((-1073741670) : Int32).toInt = (-1073741670) := rfl
  have k_0 : (0 : Int32).toInt = 0 := rfl
  have k_2 : (2 : Int32).toInt = 2 := rfl
  have k_8 : (8 : Int32).toInt = 8 := rfl
  have k_9 : (9 : Int32).toInt = 9 := rfl
  have k_64 : (64 : Int32).toInt = 64 := rfl
  have k_68 : (68 : Int32).toInt = 68 := rfl
  have k_72 : (72 : Int32).toInt = 72 := rfl
  have k_73 : (73 : Int32).toInt = 73 := rfl
  have kl_m1073741670 : ((-1073741670) : Int64).toInt = (-1073741670) := rfl
  have kl_0 : (0 : Int64).toInt = 0 := rfl
  have kl_2 : (2 : Int64).toInt = 2 := rfl
  have kl_9 : (9 : Int64).toInt = 9 := rfl
  have kl_64 : (64 : Int64).toInt = 64 := rfl
  have kl_68 : (68 : Int64).toInt = 68 := rfl
  have kl_72 : (72 : Int64).toInt = 72 := rfl
  have kl_73 : (73 : Int64).toInt = 73 := rfl
  refine ⟨(hV.mm hs_h (by decide) rfl), ?_⟩
  intro z1 ez1
  obtain ⟨bz1, ebz1, hsz1⟩ := hV.1.nn hs_h (by decide) rfl 8 rfl (by decide)
  have ebz1 := ez1.trans ebz1
  refine ⟨bz1, ebz1, (hV.mm hsz1 (by decide) rfl), ?_⟩
  refine t_Jx4a65c_size_8abf5 hV bz1 hsz1 (by decide) (fun z3 pz3 => ?_)
  have rg_z3 := i_range z3
  refine ⟨fun c1 => ?_, fun c1 => ?_⟩
  · have hbd_ := hV.bud
    refine ⟨by omega, ?_⟩
    intro o4 hn_o4 κ5 eκ5
    have hpn_o4 : PO G E W κ5 o4 11 [1, 2] := PO.new hV hn_o4 eκ5 rfl (by decide)
    have f1κ5 : CF [] W κ κ5 := CF.rf.uN hV.1 hn_o4 eκ5
    have hq0_o4 : o4 ∉ sL κ.1 := fun h => hn_o4 (hfr.sl o4 h)
    have hV := hV.newO hn_o4 (by omega) eκ5
    have hV : CV G E W (c - 17) κ5 := hV.dn (by omega)
    have tk1 : (sI κ5.1 bz1 2).toInt = (sI κ.1 bz1 2).toInt := by rw [(f1κ5.1 bz1 (by rw [hsz1]; decide) 2 (by rw [hsz1]; decide)).1]
    have hfr := hfr.trW hx f1κ5 (by decide)
    have hp_o4 := hpn_o4
    refine ⟨(hV.mm hs_h (by decide) rfl), ?_⟩
    refine t_X11_nextSerial hV h hs_h 0  (fun z7 κ6 hV fκ6 pz7 => ?_)
    have tk2 : (sI κ6.1 bz1 2).toInt = (sI κ5.1 bz1 2).toInt := by rw [(fκ6.1 bz1 (by rw [hsz1]; decide) 2 (by rw [hsz1]; decide)).1]
    have hfr := hfr.trW hx fκ6 (by decide)
    have hp_o4 := (hp_o4).fr fκ6 WX.rf
    have rg_z7 := l_range z7
    have hq_ := (hp_o4).1
    refine t_X7_init hV o4 hp_o4 z7 a1 b_a1 e_a1 hs_a1  (by omega) (fun W κ8 x1_ hV fκ8 hp_o4 pκ8 => ?_)
    have hV : CV G E W (c - 45) κ8 := hV.dn (by omega)
    have tk3 : (sI κ8.1 bz1 2).toInt = (sI κ6.1 bz1 2).toInt := by rw [(fκ8.1 bz1 (by rw [hsz1]; decide) 2 (by rw [hsz1]; decide)).1]
    have hx2 := hx.tr x1_ hfr.sl
    have hfr := hfr.trX hx hq0_o4 hq_ fκ8 (by decide)
    obtain ⟨W, xa_, hV, hs_o4⟩ := hV.addO hp_o4 (by decide)
    have hx := hx2.add hq0_o4 xa_
    have hs_h := WLe.at (x1_.1.tr xa_.1) hs_h (by decide)
    have hs_a1 := WLe.at (x1_.1.tr xa_.1) hs_a1 (by decide)
    have hsz1 := WLe.at (x1_.1.tr xa_.1) hsz1 (by decide)
    refine ⟨(hV.mm hs_h (by decide) rfl), ?_⟩
    intro z10 ez10
    have ebz10 : z10 = some bz1 := (ez10.trans (hfr.1 h (by rw [hs0_h]; decide) 8 (by rw [hs0_h]; decide)).2.2).trans (ez1.symm.trans ebz1)
    refine ⟨bz1, ebz10, (hV.mm hsz1 (by decide) rfl), ?_⟩
    refine t_Jx4a65c_add_9ea2d hV bz1 hsz1 (by decide) (some o4) o4 rfl hs_o4 (by omega) 102 (by decide) (by omega) (fun z12 W κ11 x1_ hV fκ11 pz12 => ?_)
    have hV : CV G E W (c - 147) κ11 := hV.dn (by omega)
    have hx2 := hx.tr x1_ hfr.sl
    have hfr := hfr.trW hx fκ11 (by decide)
    have hs_h := WLe.at (x1_).1 hs_h (by decide)
    have hs_a1 := WLe.at (x1_).1 hs_a1 (by decide)
    have hsz1 := WLe.at (x1_).1 hsz1 (by decide)
    have hs_o4 := WLe.at (x1_).1 hs_o4 (by decide)
    have hx := hx2
    refine ⟨(hV.mm hs_o4 (by decide) rfl), ?_⟩
    intro z13 ez13
    have vz13 := l_range z13
    have wz13 : z13.toInt = (sJ κ11.1 o4 0).toInt := by rw [ez13]
    refine ⟨b_a1, e_a1, (hV.mm hs_a1 (by decide) rfl), ?_⟩
    intro κ14 eκ14
    have hV := hV.uJ eκ14
    have f1κ14 : CF [(8, 11)] W κ11 κ14 := CF.rf.uJ (k := 11) hs_a1 (by decide) (show ((8, 11) : Nat × Nat) ∈ ([(8, 11)] : List (Nat × Nat)) by simp) eκ14
    have tk4 : (sI κ14.1 bz1 2).toInt = (sI κ11.1 bz1 2).toInt := by rw [(f1κ14.1 bz1 (by rw [hsz1]; decide) 2 (by rw [hsz1]; decide)).1]
    have hfr := hfr.trW hx f1κ14 (by decide)
    refine ⟨(hV.mm hs_h (by decide) rfl), ?_⟩
    intro z15 ez15
    obtain ⟨bz15, ebz15, hsz15⟩ := hV.1.nn hs_h (by decide) rfl 15 rfl (by decide)
    have ebz15 := ez15.trans ebz15
    refine ⟨bz15, ebz15, (hV.mm hsz15 (by decide) rfl), ?_⟩
    refine t_X6_begin hV bz15 hsz15 73 (by omega) (by omega) (fun W κ16 x1_ hV fκ16 pu2 => ?_)
    have hV : CV G E W (c - 147) κ16 := hV.dn (by omega)
    have tk5 : (sI κ16.1 bz1 2).toInt = (sI κ14.1 bz1 2).toInt := by rw [(fκ16.1 bz1 (by rw [hsz1]; decide) 2 (by rw [hsz1]; decide)).1]
    have hx2 := hx.tr x1_ hfr.sl
    have hfr := hfr.trW hx fκ16 (by decide)
    have hs_h := WLe.at (x1_).1 hs_h (by decide)
    have hs_a1 := WLe.at (x1_).1 hs_a1 (by decide)
    have hsz1 := WLe.at (x1_).1 hsz1 (by decide)
    have hs_o4 := WLe.at (x1_).1 hs_o4 (by decide)
    have hsz15 := WLe.at (x1_).1 hsz15 (by decide)
    have hx := hx2
    refine ⟨(hV.mm hs_h (by decide) rfl), ?_⟩
    intro z18 ez18
    obtain ⟨bz18, ebz18, hsz18⟩ := hV.1.nn hs_h (by decide) rfl 15 rfl (by decide)
    have ebz18 := ez18.trans ebz18
    refine ⟨bz18, ebz18, (hV.mm hsz18 (by decide) rfl), ?_⟩
    refine t_X6_put hV bz18 hsz18 rfl 64 2 9  (fun κ19 hV fκ19 pu3 => ?_)
    have tk6 : (sI κ19.1 bz1 2).toInt = (sI κ16.1 bz1 2).toInt := by rw [(fκ19.1 bz1 (by rw [hsz1]; decide) 2 (by rw [hsz1]; decide)).1]
    have hfr := hfr.trW hx fκ19 (by decide)
    refine ⟨(hV.mm hs_h (by decide) rfl), ?_⟩
    intro z21 ez21
    obtain ⟨bz21, ebz21, hsz21⟩ := hV.1.nn hs_h (by decide) rfl 15 rfl (by decide)
    have ebz21 := ez21.trans ebz21
    refine ⟨bz21, ebz21, (hV.mm hsz21 (by decide) rfl), ?_⟩
    refine t_X6_put hV bz21 hsz21 rfl 68 2 72  (fun κ22 hV fκ22 pu4 => ?_)
    have tk7 : (sI κ22.1 bz1 2).toInt = (sI κ19.1 bz1 2).toInt := by rw [(fκ22.1 bz1 (by rw [hsz1]; decide) 2 (by rw [hsz1]; decide)).1]
    have hfr := hfr.trW hx fκ22 (by decide)
    exact kk 0 W κ22 hx (hV.dn (by omega)) hfr trivial
  · exact kk (-1073741670) W κ hx (hV.dn (by omega)) hfr trivial
set_option maxRecDepth 100000 in
set_option maxHeartbeats 4000000 in
theorem t_X11_logOff {G : GE} {E : CE} {W0 : CW} {c : Int} {κ : CS} (hV : CV G E W0 c κ) (h : Nat) (hs_h : W0.1 h = 1) (a1 : Option Nat) (b_a1 : Nat) (e_a1 : a1 = some b_a1) (hs_a1 : W0.1 b_a1 = 8)  (hc : 0 ≤ c) {post : Int32 → CS → Prop} (kk : ∀ (r : Int32) (W' : CW) (κ' : CS), WX W0 W' κ → CV G E W' (c - 0) κ' → CF [(11, 4), (20, 0), (44, 0), (44, 2), (54, 0), (61, 0), (61, 1)] W0 κ κ' → (True) → post r κ') : F_X11_logOff G h a1 post κ := by
  have hs0_h := hs_h
  have hs0_a1 := hs_a1
  suffices H_ : ∀ W : CW, WX W0 W κ → CV G E W (c - 0) κ → (W.1 h = 1) → (W.1 b_a1 = 8) → F_X11_logOff G h a1 post κ from H_ W0 WX.rf (hV.dn (by omega)) hs_h hs_a1
  intro W hx hV hs_h hs_a1
  unfold F_X11_logOff
  have hfr : CF [(11, 4), (20, 0), (44, 0), (44, 2), (54, 0), (61, 0), (61, 1)] W0 κ κ := CF.rf
  have k_m1073741309 : ((-1073741309) : Int32).toInt = (-1073741309) := rfl
  have k_0 : (0 : Int32).toInt = 0 := rfl
  have k_1 : (1 : Int32).toInt = 1 := rfl
  have kl_m1073741309 : ((-1073741309) : Int64).toInt = (-1073741309) := rfl
  refine ⟨b_a1, e_a1, (hV.mm hs_a1 (by decide) rfl), ?_⟩
  intro z1 ez1
  have nz1 := hV.1.nl hs_a1 (by decide) rfl 13 rfl (by decide)
  rw [← ez1] at nz1
  refine ⟨fun c1 => ?_, fun c1 => ?_⟩
  · obtain ⟨bn1, ebn1, hsn1⟩ := nz1.resolve_left c1
    refine ⟨b_a1, e_a1, (hV.mm hs_a1 (by decide) rfl), ?_⟩
    intro z2 ez2
    have ebz2 : z2 = some bn1 := (ez2.trans ez1.symm).trans ebn1
    refine ⟨by omega, bn1, ebz2, (hV.mm hsn1 (by decide) rfl), ?_⟩
    intro κ3 eκ3
    have rv_κ3 := i_range 1
    have hV := hV.uI (k := 4) (v := 1) hsn1 (Or.inl rfl) (Or.inl (by decide)) (Or.inl (by decide)) (fun _ => (by omega : (0 : Int) ≤ (1 : Int32).toInt ∧ (1 : Int32).toInt ≤ 1)) eκ3
    have uκ3 : (sI κ3.1 bn1 4).toInt = (1 : Int32).toInt := by rw [eκ3]; exact congrArg Int32.toInt u2_same
    have f1κ3 : CF [(11, 4)] W κ κ3 := CF.rf.uI (k := 4) hsn1 (by decide) (show ((11, 4) : Nat × Nat) ∈ ([(11, 4)] : List (Nat × Nat)) by simp) eκ3
    have hfr := hfr.trW hx f1κ3 (by decide)
    refine ⟨b_a1, e_a1, (hV.mm hs_a1 (by decide) rfl), ?_⟩
    intro z4 ez4
    have ebz4 : z4 = some bn1 := (ez4.trans (hfr.1 b_a1 (by rw [hs0_a1]; decide) 13 (by rw [hs0_a1]; decide)).2.2).trans (ez1.symm.trans ebn1)
    refine ⟨(hV.mm hs_h (by decide) rfl), ?_⟩
    refine t_X11_giveUp hV h hs_h (none : Option Nat) (Or.inl rfl) z4 (Or.inr ⟨bn1, ebz4, hsn1⟩) (none : Option Nat) (Or.inl rfl)  (fun κ5 hV fκ5 pu2 => ?_)
    have hfr := hfr.trW hx fκ5 (by decide)
    refine ⟨(hV.mm hs_h (by decide) rfl), ?_⟩
    refine t_X11_plainAnswer hV h hs_h  (by omega) (fun z8 W κ7 x1_ hV fκ7 pz8 => ?_)
    have hV : CV G E W (c - 0) κ7 := hV.dn (by omega)
    have hx2 := hx.tr x1_ hfr.sl
    have hfr := hfr.trW hx fκ7 (by decide)
    have hs_h := WLe.at (x1_).1 hs_h (by decide)
    have hs_a1 := WLe.at (x1_).1 hs_a1 (by decide)
    have hsn1 := WLe.at (x1_).1 hsn1 (by decide)
    have hx := hx2
    have rg_z8 := i_range z8
    exact kk z8 W κ7 hx (hV.dn (by omega)) hfr trivial
  · exact kk (-1073741309) W κ hx (hV.dn (by omega)) hfr trivial
set_option maxRecDepth 100000 in
set_option maxHeartbeats 4000000 in
theorem t_X11_connectTree {G : GE} {E : CE} {W0 : CW} {c : Int} {κ : CS} (hV : CV G E W0 c κ) (h : Nat) (hs_h : W0.1 h = 1) (a1 : Option Nat) (b_a1 : Nat) (e_a1 : a1 = some b_a1) (hs_a1 : W0.1 b_a1 = 8) (hk0 : ∃ b, sP κ.1 b_a1 13 = some b ∧ W0.1 b = 11 ∧ (True))  (hc : 118 ≤ c) {post : Int32 → CS → Prop} (kk : ∀ (r : Int32) (W' : CW) (κ' : CS), WX W0 W' κ → CV G E W' (c - 118) κ' → CF [(20, 0), (33, 0), (41, 0), (41, 1), (41, 2), (51, 0), (61, 0), (61, 1), (8, 10)] W0 κ κ' → (True) → post r κ') : F_X11_connectTree G h a1 post κ := by
  have hs0_h := hs_h
  have hs0_a1 := hs_a1
  have hk00 := hk0
  suffices H_ : ∀ W : CW, WX W0 W κ → CV G E W (c - 0) κ → (W.1 h = 1) → (W.1 b_a1 = 8) → (∃ b, sP κ.1 b_a1 13 = some b ∧ W.1 b = 11 ∧ (True)) → F_X11_connectTree G h a1 post κ from H_ W0 WX.rf (hV.dn (by omega)) hs_h hs_a1 hk0
  intro W hx hV hs_h hs_a1 hk0
  unfold F_X11_connectTree
  have hfr : CF [(20, 0), (33, 0), (41, 0), (41, 1), (41, 2), (51, 0), (61, 0), (61, 1), (8, 10)] W0 κ κ := CF.rf
  have k_m1073741811 : ((-1073741811) : Int32).toInt = (-1073741811) := rfl
  have k_m1073741670 : ((-1073741670) : Int32).toInt = (-1073741670) := rfl
  have k_m1073741620 : ((-1073741620) : Int32).toInt = (-1073741620) := rfl
  have k_0 : (0 : Int32).toInt = 0 := rfl
  have k_1 : (1 : Int32).toInt = 1 := rfl
  have k_2 : (2 : Int32).toInt = 2 := rfl
  have k_4 : (4 : Int32).toInt = 4 := rfl
  have k_16 : (16 : Int32).toInt = 16 := rfl
  have k_64 : (64 : Int32).toInt = 64 := rfl
  have k_66 : (66 : Int32).toInt = 66 := rfl
  have k_68 : (68 : Int32).toInt = 68 := rfl
  have k_70 : (70 : Int32).toInt = 70 := rfl
  have k_76 : (76 : Int32).toInt = 76 := rfl
  have k_80 : (80 : Int32).toInt = 80 := rfl
  have k_2032127 : (2032127 : Int32).toInt = 2032127 := rfl
  have kl_m1073741811 : ((-1073741811) : Int64).toInt = (-1073741811) := rfl
  have kl_m1073741670 : ((-1073741670) : Int64).toInt = (-1073741670) := rfl
  have kl_m1073741620 : ((-1073741620) : Int64).toInt = (-1073741620) := rfl
  have kl_0 : (0 : Int64).toInt = 0 := rfl
  have kl_1 : (1 : Int64).toInt = 1 := rfl
  have kl_2 : (2 : Int64).toInt = 2 := rfl
  have kl_4 : (4 : Int64).toInt = 4 := rfl
  have kl_16 : (16 : Int64).toInt = 16 := rfl
  have kl_64 : (64 : Int64).toInt = 64 := rfl
  have kl_66 : (66 : Int64).toInt = 66 := rfl
  have kl_68 : (68 : Int64).toInt = 68 := rfl
  have kl_70 : (70 : Int64).toInt = 70 := rfl
  have kl_76 : (76 : Int64).toInt = 76 := rfl
  have kl_80 : (80 : Int64).toInt = 80 := rfl
  have kl_92 : (92 : Int64).toInt = 92 := rfl
  have kl_2032127 : (2032127 : Int64).toInt = 2032127 := rfl
  obtain ⟨bp0, ep0, wp0, xp0⟩ := hk0
  refine ⟨b_a1, e_a1, (hV.mm hs_a1 (by decide) rfl), ?_⟩
  refine t2_X0_number hV b_a1 hs_a1 68 2  (by decide) (fun z2 pz2 => ?_)
  have rg_z2 := l_range z2
  intro z3 ez3
  try have hz3 := l_toi ez3 (by omega) (by omega)
  have rg_z3 := i_range z3
  refine ⟨b_a1, e_a1, (hV.mm hs_a1 (by decide) rfl), ?_⟩
  refine t2_X0_number hV b_a1 hs_a1 70 2  (by decide) (fun z5 pz5 => ?_)
  have rg_z5 := l_range z5
  intro z6 ez6
  try have hz6 := l_toi ez6 (by omega) (by omega)
  have rg_z6 := i_range z6
  intro z7 ez7
  try have hz7 := i_rem 2 rfl ez7 (by omega) (by omega)
  have rg_z7 := i_range z7
  refine ⟨fun c1 => ?_, fun c1 => ?_⟩
  · refine lc_in (fun (x : Int32 × Int32) (κ' : CS) => κ = κ' ∧ (((0 ≤ x.1.toInt)))) (fun (x : Int32 × Int32) (κ' : CS) => (2147483647 - x.1.toInt).toNat) ⟨rfl, (by (try dsimp only); omega)⟩ (fun x8 κ9 hJ K10 hK10 => ?_)
    obtain ⟨hsg, hv⟩ := hJ
    subst hsg
    (try dsimp only at hv)
    have rg_x8_1 := i_range x8.1
    have rg_x8_2 := i_range x8.2
    refine ⟨fun c2 => ?_, fun c2 => ?_⟩
    · refine ⟨b_a1, e_a1, (hV.mm hs_a1 (by decide) rfl), ?_⟩
      intro z12 ez12
      obtain ⟨bz12, ebz12, hsz12⟩ := hV.1.nn hs_a1 (by decide) rfl 0 rfl (by decide)
      have ebz12 := ez12.trans ebz12
      refine ⟨bz12, ebz12, (hV.mm hsz12 (by decide) rfl), ?_⟩
      intro z13 ez13
      obtain ⟨bz13, ebz13, hsz13⟩ := hV.1.nn hsz12 (by decide) rfl 2 rfl (by decide)
      have ebz13 := ez13.trans ebz13
      refine ⟨b_a1, e_a1, (hV.mm hs_a1 (by decide) rfl), ?_⟩
      intro z14 ez14
      have vz14 := hV.1.iv hs_a1 (by decide) rfl 1 (-2147483648) 2147483647 rfl ez14
      have wz14 : z14.toInt = (sI κ.1 b_a1 1).toInt := by rw [ez14]
      intro z15 ez15
      try have hz15 := i_add ez15 (by omega) (by omega)
      have rg_z15 := i_range z15
      intro z16 ez16
      try have hz16 := i_add ez16 (by omega) (by omega)
      have rg_z16 := i_range z16
      intro z17 ez17
      try have hz17 := i_sub ez17 (by omega) (by omega)
      have rg_z17 := i_range z17
      intro z18 ez18
      try have hz18 := i_div 2 rfl ez18 (by omega) (by omega)
      have rg_z18 := i_range z18
      refine ⟨(hV.mm hs_h (by decide) rfl), ?_⟩
      refine t_X11_rootNamed hV h hs_h z13 bz13 ebz13 hsz13 (by rfl) z16 2 z18  (fun z20 pz20 => ?_)
      refine ⟨fun c3 => ?_, fun c3 => ?_⟩
      · obtain ⟨bn4, ebn4, hsn4⟩ := pz20.resolve_left c3
        refine ⟨(hV.mm hs_h (by decide) rfl), ?_⟩
        intro z21 ez21
        obtain ⟨bz21, ebz21, hsz21⟩ := hV.1.nn hs_h (by decide) rfl 9 rfl (by decide)
        have ebz21 := ez21.trans ebz21
        refine ⟨bz21, ebz21, (hV.mm hsz21 (by decide) rfl), ?_⟩
        refine t_Jx4a65c_size_8abf5 hV bz21 hsz21 (by decide) (fun z23 pz23 => ?_)
        have rg_z23 := i_range z23
        refine ⟨fun c4 => ?_, fun c4 => ?_⟩
        · have hbd_ := hV.bud
          refine ⟨by omega, ?_⟩
          intro o24 hn_o24 κ25 eκ25
          have hpn_o24 : PO G E W κ25 o24 12 [1, 2] := PO.new hV hn_o24 eκ25 rfl (by decide)
          have f1κ25 : CF [] W κ κ25 := CF.rf.uN hV.1 hn_o24 eκ25
          have hq0_o24 : o24 ∉ sL κ.1 := fun h => hn_o24 (hfr.sl o24 h)
          have hV := hV.newO hn_o24 (by omega) eκ25
          have hV : CV G E W (c - 16) κ25 := hV.dn (by omega)
          have tk1 : (sI κ25.1 bz21 2).toInt = (sI κ.1 bz21 2).toInt := by rw [(f1κ25.1 bz21 (by rw [hsz21]; decide) 2 (by rw [hsz21]; decide)).1]
          have pk2 := (f1κ25.1 b_a1 (by rw [hs_a1]; decide) 13 (by rw [hs_a1]; decide)).2.2.trans ep0
          have hfr := hfr.trW hx f1κ25 (by decide)
          have hp_o24 := hpn_o24
          refine ⟨(hV.mm hs_h (by decide) rfl), ?_⟩
          refine t_X11_nextSerial hV h hs_h 1  (fun z27 κ26 hV fκ26 pz27 => ?_)
          have tk3 : (sI κ26.1 bz21 2).toInt = (sI κ25.1 bz21 2).toInt := by rw [(fκ26.1 bz21 (by rw [hsz21]; decide) 2 (by rw [hsz21]; decide)).1]
          have pk4 := (fκ26.1 b_a1 (by rw [hs_a1]; decide) 13 (by rw [hs_a1]; decide)).2.2.trans pk2
          have hfr := hfr.trW hx fκ26 (by decide)
          have hp_o24 := (hp_o24).fr fκ26 WX.rf
          have rg_z27 := l_range z27
          refine ⟨b_a1, e_a1, (hV.mm hs_a1 (by decide) rfl), ?_⟩
          intro z28 ez28
          have ebz28 : z28 = some bp0 := ez28.trans pk4
          have hq_ := (hp_o24).1
          refine t_X8_init hV o24 hp_o24 z27 z28 bp0 ebz28 wp0 z20 bn4 ebn4 hsn4  (by omega) (fun W κ29 x1_ hV fκ29 hp_o24 pκ29 => ?_)
          have hV : CV G E W (c - 16) κ29 := hV.dn (by omega)
          have pk5 := (fκ29.1 b_a1 (by rw [hs_a1]; decide) 13 (by rw [hs_a1]; decide)).2.2.trans pk4
          have tk6 : (sI κ29.1 bz21 2).toInt = (sI κ26.1 bz21 2).toInt := by rw [(fκ29.1 bz21 (by rw [hsz21]; decide) 2 (by rw [hsz21]; decide)).1]
          have hx2 := hx.tr x1_ hfr.sl
          have hfr := hfr.trX hx hq0_o24 hq_ fκ29 (by decide)
          obtain ⟨W, xa_, hV, hs_o24⟩ := hV.addO hp_o24 (by decide)
          have hx := hx2.add hq0_o24 xa_
          have hs_h := WLe.at (x1_.1.tr xa_.1) hs_h (by decide)
          have hs_a1 := WLe.at (x1_.1.tr xa_.1) hs_a1 (by decide)
          have wp0 := WLe.at (x1_.1.tr xa_.1) wp0 (by decide)
          have hsz12 := WLe.at (x1_.1.tr xa_.1) hsz12 (by decide)
          have hsz13 := WLe.at (x1_.1.tr xa_.1) hsz13 (by decide)
          have hsn4 := WLe.at (x1_.1.tr xa_.1) hsn4 (by decide)
          have hsz21 := WLe.at (x1_.1.tr xa_.1) hsz21 (by decide)
          refine ⟨(hV.mm hs_h (by decide) rfl), ?_⟩
          intro z31 ez31
          have ebz31 : z31 = some bz21 := (ez31.trans (hfr.1 h (by rw [hs0_h]; decide) 9 (by rw [hs0_h]; decide)).2.2).trans (ez21.symm.trans ebz21)
          refine ⟨bz21, ebz31, (hV.mm hsz21 (by decide) rfl), ?_⟩
          refine t_Jx4a65c_add_9ea2d hV bz21 hsz21 (by decide) (some o24) o24 rfl hs_o24 (by omega) 102 (by decide) (by omega) (fun z33 W κ32 x1_ hV fκ32 pz33 => ?_)
          have hV : CV G E W (c - 118) κ32 := hV.dn (by omega)
          have pk7 := (fκ32.1 b_a1 (by rw [hs_a1]; decide) 13 (by rw [hs_a1]; decide)).2.2.trans pk5
          have hx2 := hx.tr x1_ hfr.sl
          have hfr := hfr.trW hx fκ32 (by decide)
          have hs_h := WLe.at (x1_).1 hs_h (by decide)
          have hs_a1 := WLe.at (x1_).1 hs_a1 (by decide)
          have wp0 := WLe.at (x1_).1 wp0 (by decide)
          have hsz12 := WLe.at (x1_).1 hsz12 (by decide)
          have hsz13 := WLe.at (x1_).1 hsz13 (by decide)
          have hsn4 := WLe.at (x1_).1 hsn4 (by decide)
          have hsz21 := WLe.at (x1_).1 hsz21 (by decide)
          have hs_o24 := WLe.at (x1_).1 hs_o24 (by decide)
          have hx := hx2
          refine ⟨(hV.mm hs_o24 (by decide) rfl), ?_⟩
          intro z34 ez34
          have vz34 := l_range z34
          have wz34 : z34.toInt = (sJ κ32.1 o24 0).toInt := by rw [ez34]
          refine ⟨b_a1, e_a1, (hV.mm hs_a1 (by decide) rfl), ?_⟩
          intro κ35 eκ35
          have hV := hV.uJ eκ35
          have f1κ35 : CF [(8, 10)] W κ32 κ35 := CF.rf.uJ (k := 10) hs_a1 (by decide) (show ((8, 10) : Nat × Nat) ∈ ([(8, 10)] : List (Nat × Nat)) by simp) eκ35
          have tk8 : (sI κ35.1 bz21 2).toInt = (sI κ32.1 bz21 2).toInt := by rw [(f1κ35.1 bz21 (by rw [hsz21]; decide) 2 (by rw [hsz21]; decide)).1]
          have pk9 := (f1κ35.1 b_a1 (by rw [hs_a1]; decide) 13 (by rw [hs_a1]; decide)).2.2.trans pk7
          have hfr := hfr.trW hx f1κ35 (by decide)
          refine ⟨(hV.mm hs_h (by decide) rfl), ?_⟩
          intro z36 ez36
          obtain ⟨bz36, ebz36, hsz36⟩ := hV.1.nn hs_h (by decide) rfl 15 rfl (by decide)
          have ebz36 := ez36.trans ebz36
          refine ⟨bz36, ebz36, (hV.mm hsz36 (by decide) rfl), ?_⟩
          refine t_X6_begin hV bz36 hsz36 80 (by omega) (by omega) (fun W κ37 x1_ hV fκ37 pu6 => ?_)
          have hV : CV G E W (c - 118) κ37 := hV.dn (by omega)
          have tk10 : (sI κ37.1 bz21 2).toInt = (sI κ35.1 bz21 2).toInt := by rw [(fκ37.1 bz21 (by rw [hsz21]; decide) 2 (by rw [hsz21]; decide)).1]
          have pk11 := (fκ37.1 b_a1 (by rw [hs_a1]; decide) 13 (by rw [hs_a1]; decide)).2.2.trans pk9
          have hx2 := hx.tr x1_ hfr.sl
          have hfr := hfr.trW hx fκ37 (by decide)
          have hs_h := WLe.at (x1_).1 hs_h (by decide)
          have hs_a1 := WLe.at (x1_).1 hs_a1 (by decide)
          have wp0 := WLe.at (x1_).1 wp0 (by decide)
          have hsz12 := WLe.at (x1_).1 hsz12 (by decide)
          have hsz13 := WLe.at (x1_).1 hsz13 (by decide)
          have hsn4 := WLe.at (x1_).1 hsn4 (by decide)
          have hsz21 := WLe.at (x1_).1 hsz21 (by decide)
          have hs_o24 := WLe.at (x1_).1 hs_o24 (by decide)
          have hsz36 := WLe.at (x1_).1 hsz36 (by decide)
          have hx := hx2
          refine ⟨(hV.mm hs_h (by decide) rfl), ?_⟩
          intro z39 ez39
          obtain ⟨bz39, ebz39, hsz39⟩ := hV.1.nn hs_h (by decide) rfl 15 rfl (by decide)
          have ebz39 := ez39.trans ebz39
          refine ⟨bz39, ebz39, (hV.mm hsz39 (by decide) rfl), ?_⟩
          refine t_X6_put hV bz39 hsz39 rfl 64 2 16  (fun κ40 hV fκ40 pu7 => ?_)
          have tk12 : (sI κ40.1 bz21 2).toInt = (sI κ37.1 bz21 2).toInt := by rw [(fκ40.1 bz21 (by rw [hsz21]; decide) 2 (by rw [hsz21]; decide)).1]
          have pk13 := (fκ40.1 b_a1 (by rw [hs_a1]; decide) 13 (by rw [hs_a1]; decide)).2.2.trans pk11
          have hfr := hfr.trW hx fκ40 (by decide)
          refine ⟨(hV.mm hs_h (by decide) rfl), ?_⟩
          intro z42 ez42
          obtain ⟨bz42, ebz42, hsz42⟩ := hV.1.nn hs_h (by decide) rfl 15 rfl (by decide)
          have ebz42 := ez42.trans ebz42
          refine ⟨bz42, ebz42, (hV.mm hsz42 (by decide) rfl), ?_⟩
          refine t_X6_put hV bz42 hsz42 rfl 66 1 1  (fun κ43 hV fκ43 pu8 => ?_)
          have tk14 : (sI κ43.1 bz21 2).toInt = (sI κ40.1 bz21 2).toInt := by rw [(fκ43.1 bz21 (by rw [hsz21]; decide) 2 (by rw [hsz21]; decide)).1]
          have pk15 := (fκ43.1 b_a1 (by rw [hs_a1]; decide) 13 (by rw [hs_a1]; decide)).2.2.trans pk13
          have hfr := hfr.trW hx fκ43 (by decide)
          refine ⟨(hV.mm hs_h (by decide) rfl), ?_⟩
          intro z45 ez45
          obtain ⟨bz45, ebz45, hsz45⟩ := hV.1.nn hs_h (by decide) rfl 15 rfl (by decide)
          have ebz45 := ez45.trans ebz45
          refine ⟨bz45, ebz45, (hV.mm hsz45 (by decide) rfl), ?_⟩
          refine t_X6_put hV bz45 hsz45 rfl 76 4 2032127  (fun κ46 hV fκ46 pu9 => ?_)
          have tk16 : (sI κ46.1 bz21 2).toInt = (sI κ43.1 bz21 2).toInt := by rw [(fκ46.1 bz21 (by rw [hsz21]; decide) 2 (by rw [hsz21]; decide)).1]
          have pk17 := (fκ46.1 b_a1 (by rw [hs_a1]; decide) 13 (by rw [hs_a1]; decide)).2.2.trans pk15
          have hfr := hfr.trW hx fκ46 (by decide)
          exact kk 0 W κ46 hx (hV.dn (by omega)) hfr trivial
        · exact kk (-1073741670) W κ hx (hV.dn (by omega)) hfr trivial
      · exact kk (-1073741620) W κ hx (hV.dn (by omega)) hfr trivial
    · intro z48 ez48
      try have hz48 := i_add ez48 (by omega) (by omega)
      have rg_z48 := i_range z48
      refine ⟨b_a1, e_a1, (hV.mm hs_a1 (by decide) rfl), ?_⟩
      refine t2_X0_number hV b_a1 hs_a1 z48 2  (by decide) (fun z50 pz50 => ?_)
      have rg_z50 := l_range z50
      refine jc_dup ?_
      refine ⟨fun c5 => ?_, fun c5 => ?_⟩
      · (try dsimp only)
        intro z56 ez56
        try have hz56 := i_add ez56 (by omega) (by omega)
        have rg_z56 := i_range z56
        exact hK10 (z56, x8.2) κ ⟨rfl, (by (try dsimp only); omega)⟩ (by (try dsimp only); omega)
      · intro z57 ez57
        try have hz57 := i_add ez57 (by omega) (by omega)
        have rg_z57 := i_range z57
        (try dsimp only)
        intro z56 ez56
        try have hz56 := i_add ez56 (by omega) (by omega)
        have rg_z56 := i_range z56
        exact hK10 (z56, z57) κ ⟨rfl, (by (try dsimp only); omega)⟩ (by (try dsimp only); omega)
  · exact kk (-1073741811) W κ hx (hV.dn (by omega)) hfr trivial
set_option maxRecDepth 100000 in
set_option maxHeartbeats 4000000 in
theorem t_X11_disconnectTree {G : GE} {E : CE} {W0 : CW} {c : Int} {κ : CS} (hV : CV G E W0 c κ) (h : Nat) (hs_h : W0.1 h = 1) (a1 : Option Nat) (b_a1 : Nat) (e_a1 : a1 = some b_a1) (hs_a1 : W0.1 b_a1 = 8)  (hc : 0 ≤ c) {post : Int32 → CS → Prop} (kk : ∀ (r : Int32) (W' : CW) (κ' : CS), WX W0 W' κ → CV G E W' (c - 0) κ' → CF [(12, 3), (20, 0), (44, 0), (44, 2), (54, 0), (61, 0), (61, 1)] W0 κ κ' → (True) → post r κ') : F_X11_disconnectTree G h a1 post κ := by
  have hs0_h := hs_h
  have hs0_a1 := hs_a1
  suffices H_ : ∀ W : CW, WX W0 W κ → CV G E W (c - 0) κ → (W.1 h = 1) → (W.1 b_a1 = 8) → F_X11_disconnectTree G h a1 post κ from H_ W0 WX.rf (hV.dn (by omega)) hs_h hs_a1
  intro W hx hV hs_h hs_a1
  unfold F_X11_disconnectTree
  have hfr : CF [(12, 3), (20, 0), (44, 0), (44, 2), (54, 0), (61, 0), (61, 1)] W0 κ κ := CF.rf
  have k_m1073741623 : ((-1073741623) : Int32).toInt = (-1073741623) := rfl
  have k_0 : (0 : Int32).toInt = 0 := rfl
  have k_1 : (1 : Int32).toInt = 1 := rfl
  have kl_m1073741623 : ((-1073741623) : Int64).toInt = (-1073741623) := rfl
  refine ⟨b_a1, e_a1, (hV.mm hs_a1 (by decide) rfl), ?_⟩
  intro z1 ez1
  have nz1 := hV.1.nl hs_a1 (by decide) rfl 14 rfl (by decide)
  rw [← ez1] at nz1
  refine ⟨fun c1 => ?_, fun c1 => ?_⟩
  · obtain ⟨bn1, ebn1, hsn1⟩ := nz1.resolve_left c1
    refine ⟨b_a1, e_a1, (hV.mm hs_a1 (by decide) rfl), ?_⟩
    intro z2 ez2
    have ebz2 : z2 = some bn1 := (ez2.trans ez1.symm).trans ebn1
    refine ⟨by omega, bn1, ebz2, (hV.mm hsn1 (by decide) rfl), ?_⟩
    intro κ3 eκ3
    have rv_κ3 := i_range 1
    have hV := hV.uI (k := 3) (v := 1) hsn1 (Or.inl rfl) (Or.inl (by decide)) (Or.inl (by decide)) (fun _ => (by omega : (0 : Int) ≤ (1 : Int32).toInt ∧ (1 : Int32).toInt ≤ 1)) eκ3
    have uκ3 : (sI κ3.1 bn1 3).toInt = (1 : Int32).toInt := by rw [eκ3]; exact congrArg Int32.toInt u2_same
    have f1κ3 : CF [(12, 3)] W κ κ3 := CF.rf.uI (k := 3) hsn1 (by decide) (show ((12, 3) : Nat × Nat) ∈ ([(12, 3)] : List (Nat × Nat)) by simp) eκ3
    have hfr := hfr.trW hx f1κ3 (by decide)
    refine ⟨b_a1, e_a1, (hV.mm hs_a1 (by decide) rfl), ?_⟩
    intro z4 ez4
    have ebz4 : z4 = some bn1 := (ez4.trans (hfr.1 b_a1 (by rw [hs0_a1]; decide) 14 (by rw [hs0_a1]; decide)).2.2).trans (ez1.symm.trans ebn1)
    refine ⟨(hV.mm hs_h (by decide) rfl), ?_⟩
    refine t_X11_giveUp hV h hs_h (none : Option Nat) (Or.inl rfl) (none : Option Nat) (Or.inl rfl) z4 (Or.inr ⟨bn1, ebz4, hsn1⟩)  (fun κ5 hV fκ5 pu2 => ?_)
    have hfr := hfr.trW hx fκ5 (by decide)
    refine ⟨(hV.mm hs_h (by decide) rfl), ?_⟩
    refine t_X11_plainAnswer hV h hs_h  (by omega) (fun z8 W κ7 x1_ hV fκ7 pz8 => ?_)
    have hV : CV G E W (c - 0) κ7 := hV.dn (by omega)
    have hx2 := hx.tr x1_ hfr.sl
    have hfr := hfr.trW hx fκ7 (by decide)
    have hs_h := WLe.at (x1_).1 hs_h (by decide)
    have hs_a1 := WLe.at (x1_).1 hs_a1 (by decide)
    have hsn1 := WLe.at (x1_).1 hsn1 (by decide)
    have hx := hx2
    have rg_z8 := i_range z8
    exact kk z8 W κ7 hx (hV.dn (by omega)) hfr trivial
  · exact kk (-1073741623) W κ hx (hV.dn (by omega)) hfr trivial
set_option maxRecDepth 100000 in
set_option maxHeartbeats 4000000 in
theorem t_X11_cancel {G : GE} {E : CE} {W0 : CW} {c : Int} {κ : CS} (hV : CV G E W0 c κ) (h : Nat) (hs_h : W0.1 h = 1) (a1 : Option Nat) (b_a1 : Nat) (e_a1 : a1 = some b_a1) (hs_a1 : W0.1 b_a1 = 8)  (hc : 0 ≤ c) {post : Int32 → CS → Prop} (kk : ∀ (r : Int32) (W' : CW) (κ' : CS), WX W0 W' κ → CV G E W' (c - 0) κ' → CF [(20, 0), (44, 0), (44, 2), (54, 0), (61, 0), (61, 1), (63, 0), (63, 1)] W0 κ κ' → (True) → post r κ') : F_X11_cancel G h a1 post κ := by
  have hs0_h := hs_h
  have hs0_a1 := hs_a1
  suffices H_ : ∀ W : CW, WX W0 W κ → CV G E W (c - 0) κ → (W.1 h = 1) → (W.1 b_a1 = 8) → F_X11_cancel G h a1 post κ from H_ W0 WX.rf (hV.dn (by omega)) hs_h hs_a1
  intro W hx hV hs_h hs_a1
  unfold F_X11_cancel
  have hfr : CF [(20, 0), (44, 0), (44, 2), (54, 0), (61, 0), (61, 1), (63, 0), (63, 1)] W0 κ κ := CF.rf
  have k_m1073741536 : ((-1073741536) : Int32).toInt = (-1073741536) := rfl
  have k_0 : (0 : Int32).toInt = 0 := rfl
  have k_1 : (1 : Int32).toInt = 1 := rfl
  have k_2 : (2 : Int32).toInt = 2 := rfl
  have k_8 : (8 : Int32).toInt = 8 := rfl
  have k_32 : (32 : Int32).toInt = 32 := rfl
  have kl_m1073741536 : ((-1073741536) : Int64).toInt = (-1073741536) := rfl
  have kl_0 : (0 : Int64).toInt = 0 := rfl
  have kl_1 : (1 : Int64).toInt = 1 := rfl
  have kl_2 : (2 : Int64).toInt = 2 := rfl
  have kl_8 : (8 : Int64).toInt = 8 := rfl
  have kl_32 : (32 : Int64).toInt = 32 := rfl
  refine ⟨b_a1, e_a1, (hV.mm hs_a1 (by decide) rfl), ?_⟩
  intro z1 ez1
  have vz1 := l_range z1
  have wz1 : z1.toInt = (sJ κ.1 b_a1 7).toInt := by rw [ez1]
  intro z2 ez2
  try have hz2 := l_and ez2 (by omega)
  have rg_z2 := l_range z2
  refine jc_in (fun (x : Int32) (κ' : CS) => κ = κ' ∧ (((0 ≤ x.toInt ∧ x.toInt ≤ 1)))) (fun x3 κ4 hJ => ?_) (fun K5 hK5 => ?_)
  · obtain ⟨hsg, hv⟩ := hJ
    subst hsg
    (try dsimp only at hv)
    have rg_x3 := i_range x3
    refine jc_in (fun (x : Int64) (κ' : CS) => κ = κ' ∧ ((True))) (fun x8 κ9 hJ => ?_) (fun K10 hK10 => ?_)
    · obtain ⟨hsg, hv⟩ := hJ
      subst hsg
      (try dsimp only at hv)
      have rg_x8 := l_range x8
      refine lc_in (fun (x : Int32) (κ' : CS) => κ = κ' ∧ (((0 ≤ x.toInt)))) (fun (x : Int32) (κ' : CS) => (2147483647 - x.toInt).toNat) ⟨rfl, (by (try dsimp only); omega)⟩ (fun x13 κ14 hJ K15 hK15 => ?_)
      obtain ⟨hsg, hv⟩ := hJ
      subst hsg
      (try dsimp only at hv)
      have rg_x13 := i_range x13
      refine ⟨(hV.mm hs_h (by decide) rfl), ?_⟩
      intro z17 ez17
      obtain ⟨bz17, ebz17, hsz17⟩ := hV.1.nn hs_h (by decide) rfl 12 rfl (by decide)
      have ebz17 := ez17.trans ebz17
      refine ⟨bz17, ebz17, (hV.mm hsz17 (by decide) rfl), ?_⟩
      refine t_Jx4a65c_size_8abf5 hV bz17 hsz17 (by decide) (fun z19 pz19 => ?_)
      have rg_z19 := i_range z19
      refine ⟨fun c1 => ?_, fun c1 => ?_⟩
      · exact kk 0 W κ hx (hV.dn (by omega)) hfr trivial
      · refine ⟨(hV.mm hs_h (by decide) rfl), ?_⟩
        intro z20 ez20
        have ebz20 : z20 = some bz17 := (ez20.trans ez17.symm).trans ebz17
        refine ⟨bz17, ebz20, (hV.mm hsz17 (by decide) rfl), ?_⟩
        refine t_Jx4a65c_get_915e3 hV bz17 hsz17 (by decide) x13 (by omega) (fun z22 pz22 => ?_)
        obtain ⟨bz22, ebz22, hsz22⟩ := pz22
        have hsz22 : W.1 bz22 = 8 := hsz22
        refine ⟨Or.inr ⟨bz22, ebz22, (hV.mm hsz22 (by decide) rfl)⟩, ?_⟩
        refine ⟨bz22, ebz22, (hV.mm hsz22 (by decide) rfl), ?_⟩
        intro z23 ez23
        obtain ⟨bz23, ebz23, hsz23⟩ := hV.1.nn hsz22 (by decide) rfl 0 rfl (by decide)
        have ebz23 := ez23.trans ebz23
        refine ⟨b_a1, e_a1, (hV.mm hs_a1 (by decide) rfl), ?_⟩
        intro z24 ez24
        obtain ⟨bz24, ebz24, hsz24⟩ := hV.1.nn hs_a1 (by decide) rfl 0 rfl (by decide)
        have ebz24 := ez24.trans ebz24
        refine jc_dup ?_
        refine ⟨fun c2 => ?_, fun c2 => ?_⟩
        · (try dsimp only)
          intro z30 ez30
          try have hz30 := i_add ez30 (by omega) (by omega)
          have rg_z30 := i_range z30
          exact hK15 z30 κ ⟨rfl, (by (try dsimp only); omega)⟩ (by (try dsimp only); omega)
        · refine jc_in (fun (x : Int64) (κ' : CS) => κ = κ' ∧ ((True))) (fun x31 κ32 hJ => ?_) (fun K33 hK33 => ?_)
          · obtain ⟨hsg, hv⟩ := hJ
            subst hsg
            (try dsimp only at hv)
            have rg_x31 := l_range x31
            refine ⟨fun c3 => ?_, fun c3 => ?_⟩
            · (try dsimp only)
              intro z30 ez30
              try have hz30 := i_add ez30 (by omega) (by omega)
              have rg_z30 := i_range z30
              exact hK15 z30 κ ⟨rfl, (by (try dsimp only); omega)⟩ (by (try dsimp only); omega)
            · refine ⟨(hV.mm hs_h (by decide) rfl), ?_⟩
              intro z36 ez36
              have ebz36 : z36 = some bz17 := (ez36.trans ez17.symm).trans ebz17
              refine ⟨bz17, ebz36, (hV.mm hsz17 (by decide) rfl), ?_⟩
              refine t_Jx4a65c_remove_915e3 hV bz17 hsz17 (by decide) x13 (by omega) (fun z38 κ37 hV fκ37 pz38 => ?_)
              have hV := pz38.2 rfl
              have hV : CV G E W (c - (-400)) κ37 := hV.dn (by omega)
              have hfr := hfr.trW hx fκ37 (by decide)
              refine ⟨(hV.mm hs_h (by decide) rfl), ?_⟩
              refine t_X11_sendLater hV h hs_h z22 bz22 ebz22 hsz22 (-1073741536)  (by omega) (fun W κ39 x1_ hV fκ39 pu1 => ?_)
              have hV : CV G E W (c - (-400)) κ39 := hV.dn (by omega)
              have hx2 := hx.tr x1_ hfr.sl
              have hfr := hfr.trW hx fκ39 (by decide)
              have hs_h := WLe.at (x1_).1 hs_h (by decide)
              have hs_a1 := WLe.at (x1_).1 hs_a1 (by decide)
              have hsz17 := WLe.at (x1_).1 hsz17 (by decide)
              have hsz22 := WLe.at (x1_).1 hsz22 (by decide)
              have hsz23 := WLe.at (x1_).1 hsz23 (by decide)
              have hsz24 := WLe.at (x1_).1 hsz24 (by decide)
              have hx := hx2
              exact kk 0 W κ39 hx (hV.dn (by omega)) hfr trivial
          · skip
            refine ⟨fun c4 => ?_, fun c4 => ?_⟩
            · refine ⟨bz22, ebz22, (hV.mm hsz22 (by decide) rfl), ?_⟩
              intro z41 ez41
              have vz41 := l_range z41
              have wz41 : z41.toInt = (sJ κ.1 bz22 8).toInt := by rw [ez41]
              exact hK33 z41 κ ⟨rfl, trivial⟩
            · refine ⟨bz22, ebz22, (hV.mm hsz22 (by decide) rfl), ?_⟩
              intro z42 ez42
              have vz42 := l_range z42
              have wz42 : z42.toInt = (sJ κ.1 bz22 16).toInt := by rw [ez42]
              exact hK33 z42 κ ⟨rfl, trivial⟩
    · skip
      refine ⟨fun c5 => ?_, fun c5 => ?_⟩
      · refine ⟨b_a1, e_a1, (hV.mm hs_a1 (by decide) rfl), ?_⟩
        intro z43 ez43
        have vz43 := l_range z43
        have wz43 : z43.toInt = (sJ κ.1 b_a1 8).toInt := by rw [ez43]
        exact hK10 z43 κ ⟨rfl, trivial⟩
      · refine ⟨b_a1, e_a1, (hV.mm hs_a1 (by decide) rfl), ?_⟩
        refine t_X0_number hV b_a1 hs_a1 32 8  (fun z45 pz45 => ?_)
        have rg_z45 := l_range z45
        exact hK10 z45 κ ⟨rfl, trivial⟩
  · skip
    refine ⟨fun c6 => ?_, fun c6 => ?_⟩
    · exact hK5 0 κ ⟨rfl, (by (try dsimp only); omega)⟩
    · exact hK5 1 κ ⟨rfl, (by (try dsimp only); omega)⟩
set_option maxRecDepth 100000 in
set_option maxHeartbeats 4000000 in
theorem t_X11_perform {G : GE} {E : CE} {W0 : CW} {c : Int} {κ : CS} (hV : CV G E W0 c κ) (h : Nat) (hs_h : W0.1 h = 1) (a1 : Option Nat) (b_a1 : Nat) (e_a1 : a1 = some b_a1) (hs_a1 : W0.1 b_a1 = 8) (hb : (sI κ.1 b_a1 5).toInt = 3 → ∃ b, sP κ.1 b_a1 13 = some b ∧ W0.1 b = 11) (hc : 147 ≤ c) {post : Int32 → CS → Prop} (kk : ∀ (r : Int32) (W' : CW) (κ' : CS), WX W0 W' κ → CV G E W' (c - 147) κ' → CF [(11, 4), (12, 3), (20, 0), (3, 1), (31, 0), (33, 0), (40, 0), (40, 1), (40, 2), (41, 0), (41, 1), (41, 2), (44, 0), (44, 2), (50, 0), (51, 0), (54, 0), (61, 0), (61, 1), (63, 0), (63, 1), (8, 10), (8, 11)] W0 κ κ' → (True) → post r κ') : F_X11_perform G h a1 post κ := by
  have hs0_h := hs_h
  have hs0_a1 := hs_a1
  have hb0 := hb
  suffices H_ : ∀ W : CW, WX W0 W κ → CV G E W (c - 0) κ → (W.1 h = 1) → (W.1 b_a1 = 8) → ((sI κ.1 b_a1 5).toInt = 3 → ∃ b, sP κ.1 b_a1 13 = some b ∧ W.1 b = 11) → F_X11_perform G h a1 post κ from H_ W0 WX.rf (hV.dn (by omega)) hs_h hs_a1 hb
  intro W hx hV hs_h hs_a1 hb
  unfold F_X11_perform
  have hfr : CF [(11, 4), (12, 3), (20, 0), (3, 1), (31, 0), (33, 0), (40, 0), (40, 1), (40, 2), (41, 0), (41, 1), (41, 2), (44, 0), (44, 2), (50, 0), (51, 0), (54, 0), (61, 0), (61, 1), (63, 0), (63, 1), (8, 10), (8, 11)] W0 κ κ := CF.rf
  have k_m1073741637 : ((-1073741637) : Int32).toInt = (-1073741637) := rfl
  have k_0 : (0 : Int32).toInt = 0 := rfl
  have kl_m1073741637 : ((-1073741637) : Int64).toInt = (-1073741637) := rfl
  refine ⟨b_a1, e_a1, (hV.mm hs_a1 (by decide) rfl), ?_⟩
  intro z1 ez1
  have vz1 := hV.1.iv hs_a1 (by decide) rfl 5 (-2147483648) 2147483647 rfl ez1
  have wz1 : z1.toInt = (sI κ.1 b_a1 5).toInt := by rw [ez1]
  refine jc_dup ?_
  refine ⟨fun c1 => ?_, fun c1 => ?_, fun c1 => ?_, fun c1 => ?_, fun c1 => ?_, fun c1 => ?_, fun c1 => ?_, fun c1 => ?_, fun c1 => ?_, fun c1 => ?_, fun c1 => ?_, fun c1 => ?_, fun c1 => ?_, fun c1 => ?_, fun c1 => ?_⟩
  · (try dsimp only)
    exact kk (-1073741637) W κ hx (hV.dn (by omega)) hfr trivial
  · refine ⟨(hV.mm hs_h (by decide) rfl), ?_⟩
    refine t_X11_negotiate hV h hs_h a1 b_a1 e_a1 hs_a1  (by omega) (fun z8 W κ7 x1_ hV fκ7 pz8 => ?_)
    have hV : CV G E W (c - 0) κ7 := hV.dn (by omega)
    have hx2 := hx.tr x1_ hfr.sl
    have hfr := hfr.trW hx fκ7 (by decide)
    have hs_h := WLe.at (x1_).1 hs_h (by decide)
    have hs_a1 := WLe.at (x1_).1 hs_a1 (by decide)
    have hx := hx2
    have rg_z8 := i_range z8
    exact kk z8 W κ7 hx (hV.dn (by omega)) hfr trivial
  · refine ⟨(hV.mm hs_h (by decide) rfl), ?_⟩
    refine t_X11_setUp hV h hs_h a1 b_a1 e_a1 hs_a1  (by omega) (fun z10 W κ9 x1_ hV fκ9 pz10 => ?_)
    have hV : CV G E W (c - 147) κ9 := hV.dn (by omega)
    have hx2 := hx.tr x1_ hfr.sl
    have hfr := hfr.trW hx fκ9 (by decide)
    have hs_h := WLe.at (x1_).1 hs_h (by decide)
    have hs_a1 := WLe.at (x1_).1 hs_a1 (by decide)
    have hx := hx2
    have rg_z10 := i_range z10
    exact kk z10 W κ9 hx (hV.dn (by omega)) hfr trivial
  · refine ⟨(hV.mm hs_h (by decide) rfl), ?_⟩
    refine t_X11_logOff hV h hs_h a1 b_a1 e_a1 hs_a1  (by omega) (fun z12 W κ11 x1_ hV fκ11 pz12 => ?_)
    have hV : CV G E W (c - 0) κ11 := hV.dn (by omega)
    have hx2 := hx.tr x1_ hfr.sl
    have hfr := hfr.trW hx fκ11 (by decide)
    have hs_h := WLe.at (x1_).1 hs_h (by decide)
    have hs_a1 := WLe.at (x1_).1 hs_a1 (by decide)
    have hx := hx2
    have rg_z12 := i_range z12
    exact kk z12 W κ11 hx (hV.dn (by omega)) hfr trivial
  · obtain ⟨bby, eby, wby⟩ := hb (by omega)
    refine ⟨(hV.mm hs_h (by decide) rfl), ?_⟩
    refine t_X11_connectTree hV h hs_h a1 b_a1 e_a1 hs_a1 ⟨bby, eby, wby, trivial⟩  (by omega) (fun z14 W κ13 x1_ hV fκ13 pz14 => ?_)
    have hV : CV G E W (c - 118) κ13 := hV.dn (by omega)
    have hx2 := hx.tr x1_ hfr.sl
    have hfr := hfr.trW hx fκ13 (by decide)
    have hs_h := WLe.at (x1_).1 hs_h (by decide)
    have hs_a1 := WLe.at (x1_).1 hs_a1 (by decide)
    have wby := WLe.at (x1_).1 wby (by decide)
    have hx := hx2
    have rg_z14 := i_range z14
    exact kk z14 W κ13 hx (hV.dn (by omega)) hfr trivial
  · refine ⟨(hV.mm hs_h (by decide) rfl), ?_⟩
    refine t_X11_disconnectTree hV h hs_h a1 b_a1 e_a1 hs_a1  (by omega) (fun z16 W κ15 x1_ hV fκ15 pz16 => ?_)
    have hV : CV G E W (c - 0) κ15 := hV.dn (by omega)
    have hx2 := hx.tr x1_ hfr.sl
    have hfr := hfr.trW hx fκ15 (by decide)
    have hs_h := WLe.at (x1_).1 hs_h (by decide)
    have hs_a1 := WLe.at (x1_).1 hs_a1 (by decide)
    have hx := hx2
    have rg_z16 := i_range z16
    exact kk z16 W κ15 hx (hV.dn (by omega)) hfr trivial
  · (try dsimp only)
    exact kk (-1073741637) W κ hx (hV.dn (by omega)) hfr trivial
  · (try dsimp only)
    exact kk (-1073741637) W κ hx (hV.dn (by omega)) hfr trivial
  · (try dsimp only)
    exact kk (-1073741637) W κ hx (hV.dn (by omega)) hfr trivial
  · (try dsimp only)
    exact kk (-1073741637) W κ hx (hV.dn (by omega)) hfr trivial
  · (try dsimp only)
    exact kk (-1073741637) W κ hx (hV.dn (by omega)) hfr trivial
  · (try dsimp only)
    exact kk (-1073741637) W κ hx (hV.dn (by omega)) hfr trivial
  · (try dsimp only)
    exact kk (-1073741637) W κ hx (hV.dn (by omega)) hfr trivial
  · refine ⟨(hV.mm hs_h (by decide) rfl), ?_⟩
    refine t_X11_cancel hV h hs_h a1 b_a1 e_a1 hs_a1  (by omega) (fun z18 W κ17 x1_ hV fκ17 pz18 => ?_)
    have hV : CV G E W (c - 0) κ17 := hV.dn (by omega)
    have hx2 := hx.tr x1_ hfr.sl
    have hfr := hfr.trW hx fκ17 (by decide)
    have hs_h := WLe.at (x1_).1 hs_h (by decide)
    have hs_a1 := WLe.at (x1_).1 hs_a1 (by decide)
    have hx := hx2
    have rg_z18 := i_range z18
    exact kk z18 W κ17 hx (hV.dn (by omega)) hfr trivial
  · refine ⟨(hV.mm hs_h (by decide) rfl), ?_⟩
    refine t_X11_plainAnswer hV h hs_h  (by omega) (fun z20 W κ19 x1_ hV fκ19 pz20 => ?_)
    have hV : CV G E W (c - 0) κ19 := hV.dn (by omega)
    have hx2 := hx.tr x1_ hfr.sl
    have hfr := hfr.trW hx fκ19 (by decide)
    have hs_h := WLe.at (x1_).1 hs_h (by decide)
    have hs_a1 := WLe.at (x1_).1 hs_a1 (by decide)
    have hx := hx2
    have rg_z20 := i_range z20
    exact kk z20 W κ19 hx (hV.dn (by omega)) hfr trivial

/-! lists, what a request sets, trees, sessions -/
section R90
variable {h0 : Nat} {L : Nat → Nat} {σ σ' : HS} {B : Int} {fs js : List Nat}
theorem GI.tree {t s : Nat} (hG : GI h0 L B σ) (f : Fr h0 L fs js σ σ') (h1 : nof fs [16, 61, 69] = true) (h2 : nof js [1, 2, 3, 10, 11, 14, 15, 16, 17, 22, 23, 41, 43, 50, 62, 68, 74, 75] = true) (h : ∀ i : Nat, (i = t ∧ (sI σ' (L 40) i).toInt = s) ∨ (i ≠ t ∧ (sJ σ' (L 38) i).toInt = (sJ σ (L 38) i).toInt ∧ (sI σ' (L 40) i).toInt = (sI σ (L 40) i).toInt)) (hs : 0 ≤ rts L σ s) : GI h0 L B σ' := by
  have sub : ∀ l : List Nat, (∀ x ∈ l, x ∈ [1, 2, 3, 10, 11, 14, 15, 16, 17, 22, 23, 41, 43, 50, 62, 68, 74, 75]) → nof js l = true := fun l hl => List.all_eq_true.mpr (fun x hx => by
    have : ¬ x ∈ l := fun q => nof_n h2 (hl x q) hx
    simpa using this)
  refine ⟨hG.1.fr f (nof_n h1 (by decide)) (sub _ (by decide)), hG.2.1.fr f (sub _ (by decide)), fun i hi hq => ?_, fun w hw => ?_, hG.2.2.2.2.fr f (nof_n h1 (by decide)) (nof_n h1 (by decide)) (nof_n h2 (by decide))⟩
  · rw [rts_ff f (nof_n h2 (by decide))]
    rcases h i with ⟨a, b⟩ | ⟨a, b, c⟩
    · rw [b, Int.toNat_natCast]
      exact hs
    · rw [c]
      exact hG.2.2.1 i hi (by rw [← b]; exact hq)
  · rw [(f.1 69 (nof_n h1 (by decide))).1] at hw
    have g := hG.2.2.2.1 w hw
    unfold WG1 WN at g ⊢
    rw [rts_ff f (nof_n h2 (by decide)), sI_ff f (by decide) (nof_n h2 (show 62 ∈ _ by decide)), sI_ff f (by decide) (nof_n h2 (show 68 ∈ _ by decide)), sI_ff f (by decide) (nof_n h2 (show 74 ∈ _ by decide)), sI_ff f (by decide) (nof_n h2 (show 75 ∈ _ by decide))]
    refine ⟨?_, g.2⟩
    rcases h (sI σ (L 68) w).toInt.toNat with ⟨a, b⟩ | ⟨a, b, c⟩
    · rw [b, Int.toNat_natCast]
      exact hs
    · rw [c]
      exact g.1
end R90
set_option maxRecDepth 100000 in
set_option maxHeartbeats 4000000 in
theorem s_X12_list {h0 : Nat} {L : Nat → Nat} {σ : HS} (hI : OKM h0 L σ)  (hN : InM h0 L σ (sI σ h0 87).toInt) (hz : 96 ≤ (sI σ h0 87).toInt ∧ 0 ≤ (sI σ h0 100).toInt ∧ (NUM h0 L σ 90 2 = 0 ∨ (NUM h0 L σ 88 2 : Int) + NUM h0 L σ 90 2 ≤ (sI σ h0 87).toInt)) {post : Int64 → HS → Prop} (kk : ∀ (r : Int64) (σ' : HS), OKM h0 L σ' → Fr h0 L [90, 91, 118, 119] [51, 52, 53, 54, 55, 76] σ σ' → (True) → post r σ') : F_X12_list h0 L  post σ := by
  unfold F_X12_list
  have k_m1 : ((-1) : Int32).toInt = (-1) := rfl
  have k_0 : (0 : Int32).toInt = 0 := rfl
  have k_1 : (1 : Int32).toInt = 1 := rfl
  have k_2 : (2 : Int32).toInt = 2 := rfl
  have k_3 : (3 : Int32).toInt = 3 := rfl
  have k_4 : (4 : Int32).toInt = 4 := rfl
  have k_7 : (7 : Int32).toInt = 7 := rfl
  have k_8 : (8 : Int32).toInt = 8 := rfl
  have k_12 : (12 : Int32).toInt = 12 := rfl
  have k_20 : (20 : Int32).toInt = 20 := rfl
  have k_40 : (40 : Int32).toInt = 40 := rfl
  have k_42 : (42 : Int32).toInt = 42 := rfl
  have k_64 : (64 : Int32).toInt = 64 := rfl
  have k_66 : (66 : Int32).toInt = 66 := rfl
  have k_67 : (67 : Int32).toInt = 67 := rfl
  have k_68 : (68 : Int32).toInt = 68 := rfl
  have k_72 : (72 : Int32).toInt = 72 := rfl
  have k_88 : (88 : Int32).toInt = 88 := rfl
  have k_90 : (90 : Int32).toInt = 90 := rfl
  have k_92 : (92 : Int32).toInt = 92 := rfl
  have kl_0 : (0 : Int64).toInt = 0 := rfl
  have kl_9 : (9 : Int64).toInt = 9 := rfl
  have kl_72 : (72 : Int64).toInt = 72 := rfl
  have kl_1024 : (1024 : Int64).toInt = 1024 := rfl
  have kl_2147483654 : (2147483654 : Int64).toInt = 2147483654 := rfl
  have kl_3221225475 : (3221225475 : Int64).toInt = 3221225475 := rfl
  have kl_3221225476 : (3221225476 : Int64).toInt = 3221225476 := rfl
  have kl_3221225485 : (3221225485 : Int64).toInt = 3221225485 := rfl
  have kl_3221225487 : (3221225487 : Int64).toInt = 3221225487 := rfl
  have kl_3221225506 : (3221225506 : Int64).toInt = 3221225506 := rfl
  have kl_3221225523 : (3221225523 : Int64).toInt = 3221225523 := rfl
  have hfr : Fr h0 L [90, 91, 118, 119] [51, 52, 53, 54, 55, 76] σ σ := Fr.rf
  have h87 : (0 : Int) ≤ (sI σ h0 87).toInt ∧ (sI σ h0 87).toInt ≤ 4000 := hI.fI 87 0 4000 (by decide) rfl rfl rfl rfl
  refine s_X12_number1 hI 66 (by omega) ((hN.fr hfr (by decide) (by decide)).le (by omega)) (fun z2 pz2 => ?_)
  have rg_z2 := i_range z2
  refine s_X12_number1 hI 67 (by omega) ((hN.fr hfr (by decide) (by decide)).le (by omega)) (fun z4 pz4 => ?_)
  have rg_z4 := i_range z4
  refine s_X12_number hI 92 4 (by omega) ((hN.fr hfr (by decide) (by decide)).le (by omega)) (fun z6 pz6 => ?_)
  have tz6 : z6.toInt = (NUM h0 L σ 92 4 : Int) ∧ z6.toInt < 4294967296 := num_t (n := 4) (K := 4294967296) pz6 rfl (by decide)
  intro z7 ez7
  have vz7 := hI.fI 100 (-1) 39 (by decide) rfl rfl rfl ez7
  have wz7 : z7.toInt = (sI σ h0 100).toInt := by rw [ez7, (hfr.1 100 (by decide)).1]
  refine jn_dup ?_
  refine ⟨fun c1 => ?_, fun c1 => ?_⟩
  · (try dsimp only)
    exact kk 3221225485 σ hI hfr trivial
  · refine ⟨by omega, ?_⟩
    intro z13 ez13
    have vz13 := hI.aI 43 40 0 79 (by decide) (by decide) rfl rfl rfl (i := z7.toInt) (by omega) ez13
    have wz13 : z13.toInt = (sI σ (L 43) z7.toInt.toNat).toInt := by rw [ez13, (hfr.2.1 43 (by decide) (by decide) _).1]
    refine ⟨by omega, ?_⟩
    intro z14 ez14
    have vz14 := hI.aI 3 160 0 1 (by decide) (by decide) rfl rfl rfl (i := z13.toInt) (by omega) ez14
    have wz14 : z14.toInt = (sI σ (L 3) z13.toInt.toNat).toInt := by rw [ez14, (hfr.2.1 3 (by decide) (by decide) _).1]
    refine ⟨fun c2 => ?_, fun c2 => ?_⟩
    · refine jn_in (fun (x : Unit) (σ' : HS) => σ = σ' ∧ (True)) (fun x15 σ16 hJ => ?_) (fun K17 hK17 => ?_)
      · obtain ⟨hsg, hv⟩ := hJ
        subst hsg
        (try dsimp only at hv)
        refine ⟨by omega, ?_⟩
        intro z20 ez20
        have vz20 := hI.aI 44 40 (-2147483648) 2147483647 (by decide) (by decide) rfl rfl rfl (i := z7.toInt) (by omega) ez20
        have wz20 : z20.toInt = (sI σ (L 44) z7.toInt.toNat).toInt := by rw [ez20, (hfr.2.1 44 (by decide) (by decide) _).1]
        intro z21 ez21
        try have hz21 := i_and1 ez21 (by omega)
        have rg_z21 := i_range z21
        refine ⟨fun c3 => ?_, fun c3 => ?_⟩
        · refine ⟨by omega, ?_⟩
          intro z22 ez22
          have vz22 := hI.aI 51 40 (-1) 20 (by decide) (by decide) rfl rfl rfl (i := z7.toInt) (by omega) ez22
          have wz22 : z22.toInt = (sI σ (L 51) z7.toInt.toNat).toInt := by rw [ez22]
          refine jn_in (fun (x : Int32) (σ' : HS) => σ = σ' ∧ ((0 ≤ x.toInt ∧ x.toInt ≤ 1))) (fun x23 σ24 hJ => ?_) (fun K25 hK25 => ?_)
          · obtain ⟨hsg, hv⟩ := hJ
            subst hsg
            (try dsimp only at hv)
            have rg_x23 := i_range x23
            refine jn_in (fun (x : Unit) (σ' : HS) => OKM h0 L σ' ∧ Fr h0 L [90, 91, 118, 119] [51, 52, 53, 54, 55, 76] σ σ' ∧ (True)) (fun x28 σ29 hJ => ?_) (fun K30 hK30 => ?_)
            · obtain ⟨hI, hfr, hv⟩ := hJ
              (try dsimp only at hv)
              intro z33 ez33
              have vz33 := hI.fI 90 0 85000 (by decide) rfl rfl rfl ez33
              have wz33 : z33.toInt = (sI σ29 h0 90).toInt := by rw [ez33]
              refine lw_in (fun (x : Int32 × Int32 × Int32 × Int32 × Int32) (σ' : HS) => OKM h0 L σ' ∧ Fr h0 L [90, 91, 118, 119] [51, 52, 53, 54, 55, 76] σ σ' ∧ ((0 ≤ x.1.toInt ∧ x.1.toInt ≤ 1) ∧ (0 ≤ x.2.1.toInt ∧ x.2.1.toInt ≤ 1) ∧ (-1 ≤ x.2.2.1.toInt ∧ x.2.2.1.toInt ≤ 1096) ∧ (72 ≤ x.2.2.2.1.toInt ∧ x.2.2.2.1.toInt ≤ 1096) ∧ (0 ≤ x.2.2.2.2.toInt ∧ x.2.2.2.2.toInt ≤ 100) ∧ (12 * x.2.2.2.2.toInt ≤ x.2.2.2.1.toInt - 72) ∧ (x.2.2.1.toInt < 0 → x.2.2.2.1.toInt = 72) ∧ (x.2.2.1.toInt ≤ x.2.2.2.1.toInt))) (fun (x : Int32 × Int32 × Int32 × Int32 × Int32) (σ' : HS) => (1200 - x.2.2.2.1.toInt + x.2.1.toInt).toNat) ⟨hI, hfr, (by (try dsimp only); omega)⟩ (fun x34 σ35 hJ K36 hK36 => ?_)
              obtain ⟨hI, hfr, hv⟩ := hJ
              (try dsimp only at hv)
              have rg_x34_1 := i_range x34.1
              have rg_x34_2_1 := i_range x34.2.1
              have rg_x34_2_2_1 := i_range x34.2.2.1
              have rg_x34_2_2_2_1 := i_range x34.2.2.2.1
              have rg_x34_2_2_2_2 := i_range x34.2.2.2.2
              refine jn_in (fun (x : Unit) (σ' : HS) => OKM h0 L σ' ∧ Fr h0 L [90, 91, 118, 119] [51, 52, 53, 54, 55, 76] σ σ' ∧ (True)) (fun x38 σ39 hJ => ?_) (fun K40 hK40 => ?_)
              · obtain ⟨hI, hfr, hv⟩ := hJ
                (try dsimp only at hv)
                intro σ43 eσ43
                have hMp := hI.2
                have hI := hI.pF 90 0 85000 rfl rfl (by omega) eσ43
                have hfr := hfr.fI hMp eσ43 (by decide) rfl
                have uσ43 : (sI σ43 h0 90).toInt = z33.toInt := by rw [eσ43]; exact congrArg Int32.toInt u2_same
                have f1σ43 : Fr h0 L [90] [] σ39 σ43 := Fr.rf.fI hMp eσ43 (by decide) rfl
                have tk1 : (sI σ43 h0 119).toInt = (sI σ39 h0 119).toInt := by rw [(f1σ43.1 119 (by decide)).1]
                refine ⟨fun c4 => ?_, fun c4 => ?_⟩
                · intro σ44 eσ44
                  have hMp := hI.2
                  have hI := hI.pF 91 0 1200 rfl rfl (by omega) eσ44
                  have hfr := hfr.fI hMp eσ44 (by decide) rfl
                  have uσ44 : (sI σ44 h0 91).toInt = x34.2.2.2.1.toInt := by rw [eσ44]; exact congrArg Int32.toInt u2_same
                  have f1σ44 : Fr h0 L [91] [] σ43 σ44 := Fr.rf.fI hMp eσ44 (by decide) rfl
                  have tk2 : (sI σ44 h0 119).toInt = (sI σ43 h0 119).toInt := by rw [(f1σ44.1 119 (by decide)).1]
                  refine lw_in (fun (x : Int32) (σ' : HS) => OKM h0 L σ' ∧ Fr h0 L [90, 91, 118, 119] [51, 52, 53, 54, 55, 76] σ σ' ∧ ((64 ≤ x.toInt ∧ x.toInt ≤ 72))) (fun (x : Int32) (σ' : HS) => (73 - x.toInt).toNat) ⟨hI, hfr, (by (try dsimp only); omega)⟩ (fun x45 σ46 hJ K47 hK47 => ?_)
                  obtain ⟨hI, hfr, hv⟩ := hJ
                  (try dsimp only at hv)
                  have rg_x45 := i_range x45
                  refine ⟨fun c5 => ?_, fun c5 => ?_⟩
                  · refine s_X12_set hI 64 2 9 (by omega) (fun σ49 hI fz50 pz50 => ?_)
                    have hfr := hfr.tr fz50 (by decide) (by decide)
                    have tk3 : (sI σ49 h0 119).toInt = (sI σ46 h0 119).toInt := by rw [(fz50.1 119 (by decide)).1]
                    refine s_X12_set hI 66 2 72 (by omega) (fun σ51 hI fz52 pz52 => ?_)
                    have hfr := hfr.tr fz52 (by decide) (by decide)
                    have tk4 : (sI σ51 h0 119).toInt = (sI σ49 h0 119).toInt := by rw [(fz52.1 119 (by decide)).1]
                    intro z53 ez53
                    try have hz53 := i_sub ez53 (by omega) (by omega)
                    have rg_z53 := i_range z53
                    intro z54 ez54
                    have hz54 := i_tol ez54
                    have rg_z54 := l_range z54
                    refine s_X12_set hI 68 4 z54 (by omega) (fun σ55 hI fz56 pz56 => ?_)
                    have hfr := hfr.tr fz56 (by decide) (by decide)
                    have tk5 : (sI σ55 h0 119).toInt = (sI σ51 h0 119).toInt := by rw [(fz56.1 119 (by decide)).1]
                    exact kk 0 σ55 hI hfr trivial
                  · refine s_X12_set hI x45 1 0 (by omega) (fun σ57 hI fz58 pz58 => ?_)
                    have hfr := hfr.tr fz58 (by decide) (by decide)
                    have tk6 : (sI σ57 h0 119).toInt = (sI σ46 h0 119).toInt := by rw [(fz58.1 119 (by decide)).1]
                    intro z59 ez59
                    try have hz59 := i_add ez59 (by omega) (by omega)
                    have rg_z59 := i_range z59
                    exact hK47 z59 σ57 ⟨hI, hfr, (by (try dsimp only); omega)⟩ (by (try dsimp only); omega)
                · refine jn_dup ?_
                  refine ⟨fun c6 => ?_, fun c6 => ?_⟩
                  · refine ⟨fun c7 => ?_, fun c7 => ?_⟩
                    · (try dsimp only)
                      exact kk 2147483654 σ43 hI hfr trivial
                    · (try dsimp only)
                      exact kk 3221225487 σ43 hI hfr trivial
                  · (try dsimp only)
                    exact kk 3221225476 σ43 hI hfr trivial
              · skip
                refine ⟨fun c8 => ?_, fun c8 => ?_⟩
                · exact hK40 () σ35 ⟨hI, hfr, trivial⟩
                · refine s_X12_findNext hI z7 (by omega) (fun z66 σ65 hI fz66 pz66 => ?_)
                  have hfr := hfr.tr fz66 (by decide) (by decide)
                  have rg_z66 := i_range z66
                  refine ⟨fun c9 => ?_, fun c9 => ?_⟩
                  · exact hK40 () σ65 ⟨hI, hfr, trivial⟩
                  · intro z67 ez67
                    have vz67 := hI.fI 118 0 3 (by decide) rfl rfl rfl ez67
                    have wz67 : z67.toInt = (sI σ65 h0 118).toInt := by rw [ez67]
                    refine jn_in (fun (x : Int32) (σ' : HS) => σ65 = σ' ∧ ((0 ≤ x.toInt ∧ x.toInt ≤ 12))) (fun x68 σ69 hJ => ?_) (fun K70 hK70 => ?_)
                    · obtain ⟨hsg, hv⟩ := hJ
                      subst hsg
                      (try dsimp only at hv)
                      have rg_x68 := i_range x68
                      refine jn_in (fun (x : Int32) (σ' : HS) => σ65 = σ' ∧ ((12 ≤ x.toInt ∧ x.toInt ≤ 64))) (fun x73 σ74 hJ => ?_) (fun K75 hK75 => ?_)
                      · obtain ⟨hsg, hv⟩ := hJ
                        subst hsg
                        (try dsimp only at hv)
                        have rg_x73 := i_range x73
                        intro z78 ez78
                        try have hz78 := i_mulk 2 rfl ez78 (by omega) (by omega)
                        have rg_z78 := i_range z78
                        intro z79 ez79
                        try have hz79 := i_add ez79 (by omega) (by omega)
                        have rg_z79 := i_range z79
                        refine jn_in (fun (x : Int32) (σ' : HS) => σ65 = σ' ∧ ((72 ≤ x.toInt ∧ x.toInt ≤ 1103) ∧ (x34.2.2.2.1.toInt ≤ x.toInt))) (fun x80 σ81 hJ => ?_) (fun K82 hK82 => ?_)
                        · obtain ⟨hsg, hv⟩ := hJ
                          subst hsg
                          (try dsimp only at hv)
                          have rg_x80 := i_range x80
                          intro z85 ez85
                          try have hz85 := i_sub ez85 (by omega) (by omega)
                          have rg_z85 := i_range z85
                          intro z86 ez86
                          try have hz86 := i_add ez86 (by omega) (by omega)
                          have rg_z86 := i_range z86
                          intro z87 ez87
                          have hz87 := i_tol ez87
                          have rg_z87 := l_range z87
                          refine jn_in (fun (x : Int32) (σ' : HS) => σ65 = σ' ∧ ((0 ≤ x.toInt ∧ x.toInt ≤ 1) ∧ (x.toInt ≠ 0 → z86.toInt ≤ 1024))) (fun x88 σ89 hJ => ?_) (fun K90 hK90 => ?_)
                          · obtain ⟨hsg, hv⟩ := hJ
                            subst hsg
                            (try dsimp only at hv)
                            have rg_x88 := i_range x88
                            refine jn_dup ?_
                            refine ⟨fun c10 => ?_, fun c10 => ?_⟩
                            · (try dsimp only)
                              exact hK36 (1, x88, x34.2.2.1, x34.2.2.2.1, x34.2.2.2.2) σ65 ⟨hI, hfr, (by (try dsimp only); omega)⟩ (by (try dsimp only); omega)
                            · refine jn_in (fun (x : Unit) (σ' : HS) => OKM h0 L σ' ∧ Fr h0 L [90, 91, 118, 119] [51, 52, 53, 54, 55, 76] σ σ' ∧ ((0 ≤ (sI σ' h0 119).toInt))) (fun x98 σ99 hJ => ?_) (fun K100 hK100 => ?_)
                              · obtain ⟨hI, hfr, hv⟩ := hJ
                                (try dsimp only at hv)
                                refine s_X12_entryAt hI x80 z2 x68 (by omega) (fun σ103 hI fz104 pz104 => ?_)
                                have hfr := hfr.tr fz104 (by decide) (by decide)
                                have tk8 : (sI σ103 h0 119).toInt = (sI σ99 h0 119).toInt := by rw [(fz104.1 119 (by decide)).1]
                                intro z105 ez105
                                try have hz105 := i_add ez105 (by omega) (by omega)
                                have rg_z105 := i_range z105
                                intro z106 ez106
                                try have hz106 := i_add ez106 (by omega) (by omega)
                                have rg_z106 := i_range z106
                                refine s_X12_remember hI z7 (by omega) (fun σ107 hI fz108 pz108 => ?_)
                                have hfr := hfr.tr fz108 (by decide) (by decide)
                                have tk9 : (sI σ107 h0 119).toInt = (sI σ103 h0 119).toInt := by rw [(fz108.1 119 (by decide)).1]
                                intro z109 ez109
                                try have hz109 := i_and ez109 (by omega)
                                have rg_z109 := i_range z109
                                refine jn_dup ?_
                                refine ⟨fun c11 => ?_, fun c11 => ?_⟩
                                · (try dsimp only)
                                  (try dsimp only)
                                  exact hK36 (1, 0, x80, z105, z106) σ107 ⟨hI, hfr, (by (try dsimp only); omega)⟩ (by (try dsimp only); omega)
                                · (try dsimp only)
                                  (try dsimp only)
                                  exact hK36 (1, 1, x80, z105, z106) σ107 ⟨hI, hfr, (by (try dsimp only); omega)⟩ (by (try dsimp only); omega)
                              · skip
                                refine ⟨fun c12 => ?_, fun c12 => ?_⟩
                                · exact hK100 () σ65 ⟨hI, hfr, (by (try dsimp only); omega)⟩
                                · refine lw_in (fun (x : Int32) (σ' : HS) => OKM h0 L σ' ∧ Fr h0 L [90, 91, 118, 119] [51, 52, 53, 54, 55, 76] σ σ' ∧ ((72 ≤ x.toInt ∧ x.toInt ≤ 1103) ∧ (0 ≤ (sI σ' h0 119).toInt) ∧ (x.toInt ≤ x80.toInt))) (fun (x : Int32) (σ' : HS) => (x80.toInt - x.toInt).toNat) ⟨hI, hfr, (by (try dsimp only); omega)⟩ (fun x115 σ116 hJ K117 hK117 => ?_)
                                  obtain ⟨hI, hfr, hv⟩ := hJ
                                  (try dsimp only at hv)
                                  have rg_x115 := i_range x115
                                  refine ⟨fun c13 => ?_, fun c13 => ?_⟩
                                  · intro z119 ez119
                                    try have hz119 := i_sub ez119 (by omega) (by omega)
                                    have rg_z119 := i_range z119
                                    intro z120 ez120
                                    have hz120 := i_tol ez120
                                    have rg_z120 := l_range z120
                                    refine s_X12_set hI x34.2.2.1 4 z120 (by omega) (fun σ121 hI fz122 pz122 => ?_)
                                    have hfr := hfr.tr fz122 (by decide) (by decide)
                                    have tk10 : (sI σ121 h0 119).toInt = (sI σ116 h0 119).toInt := by rw [(fz122.1 119 (by decide)).1]
                                    exact hK100 () σ121 ⟨hI, hfr, (by (try dsimp only); omega)⟩
                                  · refine s_X12_set hI x115 1 0 (by omega) (fun σ123 hI fz124 pz124 => ?_)
                                    have hfr := hfr.tr fz124 (by decide) (by decide)
                                    have tk11 : (sI σ123 h0 119).toInt = (sI σ116 h0 119).toInt := by rw [(fz124.1 119 (by decide)).1]
                                    intro z125 ez125
                                    try have hz125 := i_add ez125 (by omega) (by omega)
                                    have rg_z125 := i_range z125
                                    exact hK117 z125 σ123 ⟨hI, hfr, (by (try dsimp only); omega)⟩ (by (try dsimp only); omega)
                          · skip
                            refine ⟨fun c14 => ?_, fun c14 => ?_⟩
                            · exact hK90 0 σ65 ⟨rfl, (by (try dsimp only); omega)⟩
                            · exact hK90 1 σ65 ⟨rfl, (by (try dsimp only); omega)⟩
                        · skip
                          refine ⟨fun c15 => ?_, fun c15 => ?_⟩
                          · intro z126 ez126
                            try have hz126 := i_add ez126 (by omega) (by omega)
                            have rg_z126 := i_range z126
                            intro z127 ez127
                            try have hz127 := i_div 8 rfl ez127 (by omega) (by omega)
                            have rg_z127 := i_range z127
                            intro z128 ez128
                            try have hz128 := i_mulr 8 rfl ez128 (by omega) (by omega)
                            have rg_z128 := i_range z128
                            exact hK82 z128 σ65 ⟨rfl, (by (try dsimp only); omega)⟩
                          · exact hK82 72 σ65 ⟨rfl, (by (try dsimp only); omega)⟩
                      · skip
                        refine ⟨fun c16 => ?_, fun c16 => ?_⟩
                        · exact hK75 12 σ65 ⟨rfl, (by (try dsimp only); omega)⟩
                        · exact hK75 64 σ65 ⟨rfl, (by (try dsimp only); omega)⟩
                    · skip
                      refine ⟨fun c17 => ?_, fun c17 => ?_⟩
                      · intro z129 ez129
                        have vz129 := hI.fI 119 (-1) 79 (by decide) rfl rfl rfl ez129
                        have wz129 : z129.toInt = (sI σ65 h0 119).toInt := by rw [ez129]
                        refine ⟨by omega, ?_⟩
                        intro z130 ez130
                        have vz130 := hI.aI 5 160 0 12 (by decide) (by decide) rfl rfl rfl (i := z129.toInt) (by omega) ez130
                        have wz130 : z130.toInt = (sI σ (L 5) z129.toInt.toNat).toInt := by rw [ez130, (hfr.2.1 5 (by decide) (by decide) _).1]
                        exact hK70 z130 σ65 ⟨rfl, (by (try dsimp only); omega)⟩
                      · intro z131 ez131
                        have vz131 := hI.fI 118 0 3 (by decide) rfl rfl rfl ez131
                        have wz131 : z131.toInt = (sI σ65 h0 118).toInt := by rw [ez131]
                        exact hK70 z131 σ65 ⟨rfl, (by (try dsimp only); omega)⟩
            · skip
              refine ⟨fun c18 => ?_, fun c18 => ?_⟩
              · exact hK30 () σ ⟨hI, hfr, trivial⟩
              · refine s_X12_number2 hI 88 (by omega) ((hN.fr hfr (by decide) (by decide)).le (by omega)) (fun z133 pz133 => ?_)
                have tz133 : z133.toInt = (NUM h0 L σ 88 2 : Int) := pz133.1
                have rg_z133 := i_range z133
                refine s_X12_number2 hI 90 (by omega) ((hN.fr hfr (by decide) (by decide)).le (by omega)) (fun z135 pz135 => ?_)
                have tz135 : z135.toInt = (NUM h0 L σ 90 2 : Int) := pz135.1
                have rg_z135 := i_range z135
                intro z136 ez136
                try have hz136 := i_rem 2 rfl ez136 (by omega) (by omega)
                have rg_z136 := i_range z136
                refine jn_dup ?_
                refine ⟨fun c19 => ?_, fun c19 => ?_⟩
                · (try dsimp only)
                  exact kk 3221225523 σ hI hfr trivial
                · refine ⟨fun c20 => ?_, fun c20 => ?_⟩
                  · refine jn_in (fun (x : Int32) (σ' : HS) => σ = σ' ∧ ((0 ≤ x.toInt ∧ x.toInt ≤ 20))) (fun x142 σ143 hJ => ?_) (fun K144 hK144 => ?_)
                    · obtain ⟨hsg, hv⟩ := hJ
                      subst hsg
                      (try dsimp only at hv)
                      have rg_x142 := i_range x142
                      refine ⟨by omega, ?_⟩
                      intro σ147 eσ147
                      have hMp := hI.2
                      have hI := hI.pA 51 (-1) 20 (by decide) (by decide) rfl rfl (by omega) eσ147
                      have hfr := hfr.aI hMp (by decide) eσ147 (by decide)
                      have f1σ147 : Fr h0 L [] [51] σ σ147 := Fr.rf.aI hMp (by decide) eσ147 (by decide)
                      have tk12 : (sI σ147 h0 119).toInt = (sI σ h0 119).toInt := by rw [(f1σ147.1 119 (by decide)).1]
                      intro z148 ez148
                      try have hz148 := i_mulk 20 rfl ez148 (by omega) (by omega)
                      have rg_z148 := i_range z148
                      refine ⟨by omega, ?_⟩
                      intro σ149 eσ149
                      have hMp := hI.2
                      have hI := hI.pA 52 0 65535 (by decide) (by decide) rfl rfl (by omega) eσ149
                      have hfr := hfr.aI hMp (by decide) eσ149 (by decide)
                      have f1σ149 : Fr h0 L [] [52] σ147 σ149 := Fr.rf.aI hMp (by decide) eσ149 (by decide)
                      have tk13 : (sI σ149 h0 119).toInt = (sI σ147 h0 119).toInt := by rw [(f1σ149.1 119 (by decide)).1]
                      refine lw_in (fun (x : Int32) (σ' : HS) => OKM h0 L σ' ∧ Fr h0 L [90, 91, 118, 119] [51, 52, 53, 54, 55, 76] σ σ' ∧ ((0 ≤ x.toInt ∧ x.toInt ≤ 20))) (fun (x : Int32) (σ' : HS) => (21 - x.toInt).toNat) ⟨hI, hfr, (by (try dsimp only); omega)⟩ (fun x150 σ151 hJ K152 hK152 => ?_)
                      obtain ⟨hI, hfr, hv⟩ := hJ
                      (try dsimp only at hv)
                      have rg_x150 := i_range x150
                      intro z154 ez154
                      try have hz154 := i_div 2 rfl ez154 (by omega) (by omega)
                      have rg_z154 := i_range z154
                      refine ⟨fun c21 => ?_, fun c21 => ?_⟩
                      · refine ⟨by omega, ?_⟩
                        intro σ155 eσ155
                        have hMp := hI.2
                        have hI := hI.pA 53 0 3 (by decide) (by decide) rfl rfl (by omega) eσ155
                        have hfr := hfr.aI hMp (by decide) eσ155 (by decide)
                        have f1σ155 : Fr h0 L [] [53] σ151 σ155 := Fr.rf.aI hMp (by decide) eσ155 (by decide)
                        have tk14 : (sI σ155 h0 119).toInt = (sI σ151 h0 119).toInt := by rw [(f1σ155.1 119 (by decide)).1]
                        exact hK30 () σ155 ⟨hI, hfr, trivial⟩
                      · intro z156 ez156
                        try have hz156 := i_mulk 20 rfl ez156 (by omega) (by omega)
                        have rg_z156 := i_range z156
                        intro z157 ez157
                        try have hz157 := i_add ez157 (by omega) (by omega)
                        have rg_z157 := i_range z157
                        intro z158 ez158
                        try have hz158 := i_mulk 2 rfl ez158 (by omega) (by omega)
                        have rg_z158 := i_range z158
                        intro z159 ez159
                        try have hz159 := i_add ez159 (by omega) (by omega)
                        have rg_z159 := i_range z159
                        refine s_X12_number2 hI z159 (by omega) ((hN.fr hfr (by decide) (by decide)).le (by omega)) (fun z161 pz161 => ?_)
                        have rg_z161 := i_range z161
                        refine ⟨by omega, ?_⟩
                        intro σ162 eσ162
                        have hMp := hI.2
                        have hI := hI.pA 52 0 65535 (by decide) (by decide) rfl rfl (by omega) eσ162
                        have hfr := hfr.aI hMp (by decide) eσ162 (by decide)
                        have f1σ162 : Fr h0 L [] [52] σ151 σ162 := Fr.rf.aI hMp (by decide) eσ162 (by decide)
                        have tk15 : (sI σ162 h0 119).toInt = (sI σ151 h0 119).toInt := by rw [(f1σ162.1 119 (by decide)).1]
                        intro z163 ez163
                        try have hz163 := i_add ez163 (by omega) (by omega)
                        have rg_z163 := i_range z163
                        exact hK152 z163 σ162 ⟨hI, hfr, (by (try dsimp only); omega)⟩ (by (try dsimp only); omega)
                    · skip
                      refine ⟨fun c22 => ?_, fun c22 => ?_⟩
                      · intro z164 ez164
                        try have hz164 := i_div 2 rfl ez164 (by omega) (by omega)
                        have rg_z164 := i_range z164
                        exact hK144 z164 σ ⟨rfl, (by (try dsimp only); omega)⟩
                      · exact hK144 1 σ ⟨rfl, (by (try dsimp only); omega)⟩
                  · (try dsimp only)
                    exact kk 3221225523 σ hI hfr trivial
          · skip
            refine jn_dup ?_
            refine ⟨fun c23 => ?_, fun c23 => ?_⟩
            · (try dsimp only)
              exact hK25 1 σ ⟨rfl, (by (try dsimp only); omega)⟩
            · intro z170 ez170
              try have hz170 := i_and1 ez170 (by omega)
              have rg_z170 := i_range z170
              refine ⟨fun c24 => ?_, fun c24 => ?_⟩
              · exact hK25 0 σ ⟨rfl, (by (try dsimp only); omega)⟩
              · (try dsimp only)
                exact hK25 1 σ ⟨rfl, (by (try dsimp only); omega)⟩
        · exact kk 3221225506 σ hI hfr trivial
      · skip
        refine ⟨fun c25 => ?_, fun c25 => ?_⟩
        · exact hK17 () σ ⟨rfl, trivial⟩
        · refine ⟨fun c26 => ?_, fun c26 => ?_⟩
          · exact hK17 () σ ⟨rfl, trivial⟩
          · exact kk 3221225475 σ hI hfr trivial
    · (try dsimp only)
      exact kk 3221225485 σ hI hfr trivial
set_option maxRecDepth 100000 in
set_option maxHeartbeats 4000000 in
theorem s_X12_close {h0 : Nat} {L : Nat → Nat} {σ : HS} (hI : OKM h0 L σ)  {B : Int} (hG : GI h0 L B σ) (hN : InM h0 L σ (sI σ h0 87).toInt) (hB : B < 4611686018427387904) (hz : 88 ≤ (sI σ h0 87).toInt ∧ 0 ≤ (sI σ h0 100).toInt ∧ (sJ σ (L 41) (sI σ h0 100).toInt.toNat).toInt ≠ 0) {post : Int64 → HS → Prop} (kk : ∀ (r : Int64) (σ' : HS), OKM h0 L σ' → Fr h0 L [16, 61, 62, 63, 69, 91, 115, 116, 117] [1, 2, 3, 4, 5, 6, 7, 8, 9, 10, 14, 15, 16, 17, 18, 19, 20, 21, 22, 23, 27, 28, 41, 42, 43, 44, 45, 46, 47, 48, 49, 50, 51, 53, 56, 57, 58, 59, 60, 61, 62, 63, 64, 65, 66, 67, 68, 69, 70, 71, 72, 73, 74, 75, 76, 77, 78, 79] σ σ' → (GI h0 L B σ') → post r σ') : F_X12_close h0 L  post σ := by
  unfold F_X12_close
  have k_0 : (0 : Int32).toInt = 0 := rfl
  have k_1 : (1 : Int32).toInt = 1 := rfl
  have k_2 : (2 : Int32).toInt = 2 := rfl
  have k_3 : (3 : Int32).toInt = 3 := rfl
  have k_4 : (4 : Int32).toInt = 4 := rfl
  have k_8 : (8 : Int32).toInt = 8 := rfl
  have k_60 : (60 : Int32).toInt = 60 := rfl
  have k_64 : (64 : Int32).toInt = 64 := rfl
  have k_66 : (66 : Int32).toInt = 66 := rfl
  have k_72 : (72 : Int32).toInt = 72 := rfl
  have k_80 : (80 : Int32).toInt = 80 := rfl
  have k_88 : (88 : Int32).toInt = 88 := rfl
  have k_96 : (96 : Int32).toInt = 96 := rfl
  have k_104 : (104 : Int32).toInt = 104 := rfl
  have k_112 : (112 : Int32).toInt = 112 := rfl
  have k_120 : (120 : Int32).toInt = 120 := rfl
  have kl_0 : (0 : Int64).toInt = 0 := rfl
  have kl_60 : (60 : Int64).toInt = 60 := rfl
  have hfr : Fr h0 L [16, 61, 62, 63, 69, 91, 115, 116, 117] [1, 2, 3, 4, 5, 6, 7, 8, 9, 10, 14, 15, 16, 17, 18, 19, 20, 21, 22, 23, 27, 28, 41, 42, 43, 44, 45, 46, 47, 48, 49, 50, 51, 53, 56, 57, 58, 59, 60, 61, 62, 63, 64, 65, 66, 67, 68, 69, 70, 71, 72, 73, 74, 75, 76, 77, 78, 79] σ σ := Fr.rf
  have h87 : (0 : Int) ≤ (sI σ h0 87).toInt ∧ (sI σ h0 87).toInt ≤ 4000 := hI.fI 87 0 4000 (by decide) rfl rfl rfl rfl
  intro z1 ez1
  have vz1 := hI.fI 100 (-1) 39 (by decide) rfl rfl rfl ez1
  have wz1 : z1.toInt = (sI σ h0 100).toInt := by rw [ez1, (hfr.1 100 (by decide)).1]
  refine ⟨by omega, ?_⟩
  intro z2 ez2
  have vz2 := hI.aI 43 40 0 79 (by decide) (by decide) rfl rfl rfl (i := z1.toInt) (by omega) ez2
  have wz2 : z2.toInt = (sI σ (L 43) z1.toInt.toNat).toInt := by rw [ez2]
  refine s_X12_number2 hI 66 (by omega) ((hN.fr hfr (by decide) (by decide)).le (by omega)) (fun z4 pz4 => ?_)
  have tz4 : z4.toInt = (NUM h0 L σ 66 2 : Int) := pz4.1
  have rg_z4 := i_range z4
  intro z5 ez5
  try have hz5 := i_and1 ez5 (by omega)
  have rg_z5 := i_range z5
  intro z6 ez6
  try have hz6 := i_mulk 4 rfl ez6 (by omega) (by omega)
  have rg_z6 := i_range z6
  refine ⟨by omega, ?_⟩
  intro z7 ez7
  have wz7 : z7.toInt = (sJ σ (L 7) z6.toInt.toNat).toInt := by rw [ez7]
  intro z8 ez8
  try have hz8 := i_mulk 4 rfl ez8 (by omega) (by omega)
  have rg_z8 := i_range z8
  intro z9 ez9
  try have hz9 := i_add ez9 (by omega) (by omega)
  have rg_z9 := i_range z9
  refine ⟨by omega, ?_⟩
  intro z10 ez10
  have wz10 : z10.toInt = (sJ σ (L 7) z9.toInt.toNat).toInt := by rw [ez10]
  intro z11 ez11
  try have hz11 := i_mulk 4 rfl ez11 (by omega) (by omega)
  have rg_z11 := i_range z11
  intro z12 ez12
  try have hz12 := i_add ez12 (by omega) (by omega)
  have rg_z12 := i_range z12
  refine ⟨by omega, ?_⟩
  intro z13 ez13
  have wz13 : z13.toInt = (sJ σ (L 7) z12.toInt.toNat).toInt := by rw [ez13]
  intro z14 ez14
  try have hz14 := i_mulk 4 rfl ez14 (by omega) (by omega)
  have rg_z14 := i_range z14
  intro z15 ez15
  try have hz15 := i_add ez15 (by omega) (by omega)
  have rg_z15 := i_range z15
  refine ⟨by omega, ?_⟩
  intro z16 ez16
  have wz16 : z16.toInt = (sJ σ (L 7) z15.toInt.toNat).toInt := by rw [ez16]
  refine s_X12_room hI z2 (by omega) (fun z18 pz18 => ?_)
  have rg_z18 := i_range z18
  refine ⟨by omega, ?_⟩
  intro z19 ez19
  have vz19 := hI.aI 8 160 0 4096 (by decide) (by decide) rfl rfl rfl (i := z2.toInt) (by omega) ez19
  have wz19 : z19.toInt = (sI σ (L 8) z2.toInt.toNat).toInt := by rw [ez19]
  refine s_X12_shown hI z2 (by omega) (fun z21 pz21 => ?_)
  have rg_z21 := i_range z21
  intro z22 ez22
  have vz22 := hI.fI 100 (-1) 39 (by decide) rfl rfl rfl ez22
  have wz22 : z22.toInt = (sI σ h0 100).toInt := by rw [ez22, (hfr.1 100 (by decide)).1]
  have hIp := hI
  have ne_ : (sJ σ (L 41) z22.toInt.toNat).toInt ≠ 0 := by rw [wz22]; omega
  refine s_X12_closes hI z22 hG hB (by omega) (fun σ23 hI fz24 pz24 => ?_)
  have hfr := hfr.tr fz24 (by decide) (by decide)
  have hG := pz24.1
  have hIp := hI
  refine s_X12_body hI 60 (by omega) (fun σ25 hI fz26 pz26 => ?_)
  have hfr := hfr.tr fz26 (by decide) (by decide)
  have tk2 : (sI σ25 h0 16).toInt = (sI σ23 h0 16).toInt := by rw [(fz26.1 16 (by decide)).1]
  have hG := hG.fr fz26 (by decide) (by decide)
  have hIp := hI
  refine s_X12_set hI 64 2 60 (by omega) (fun σ27 hI fz28 pz28 => ?_)
  have hfr := hfr.tr fz28 (by decide) (by decide)
  have tk3 : (sI σ27 h0 16).toInt = (sI σ25 h0 16).toInt := by rw [(fz28.1 16 (by decide)).1]
  have hG := hG.fr fz28 (by decide) (by decide)
  intro z29 ez29
  have hz29 := i_tol ez29
  have rg_z29 := l_range z29
  have hIp := hI
  refine s_X12_set hI 66 2 z29 (by omega) (fun σ30 hI fz31 pz31 => ?_)
  have hfr := hfr.tr fz31 (by decide) (by decide)
  have tk4 : (sI σ30 h0 16).toInt = (sI σ27 h0 16).toInt := by rw [(fz31.1 16 (by decide)).1]
  have hG := hG.fr fz31 (by decide) (by decide)
  refine jn_dup ?_
  refine ⟨fun c1 => ?_, fun c1 => ?_⟩
  · (try dsimp only)
    exact kk 0 σ30 hI hfr hG
  · have hIp := hI
    refine s_X12_set hI 72 8 z7 (by omega) (fun σ37 hI fz38 pz38 => ?_)
    have hfr := hfr.tr fz38 (by decide) (by decide)
    have tk5 : (sI σ37 h0 16).toInt = (sI σ30 h0 16).toInt := by rw [(fz38.1 16 (by decide)).1]
    have hG := hG.fr fz38 (by decide) (by decide)
    have hIp := hI
    refine s_X12_set hI 80 8 z10 (by omega) (fun σ39 hI fz40 pz40 => ?_)
    have hfr := hfr.tr fz40 (by decide) (by decide)
    have tk6 : (sI σ39 h0 16).toInt = (sI σ37 h0 16).toInt := by rw [(fz40.1 16 (by decide)).1]
    have hG := hG.fr fz40 (by decide) (by decide)
    have hIp := hI
    refine s_X12_set hI 88 8 z13 (by omega) (fun σ41 hI fz42 pz42 => ?_)
    have hfr := hfr.tr fz42 (by decide) (by decide)
    have tk7 : (sI σ41 h0 16).toInt = (sI σ39 h0 16).toInt := by rw [(fz42.1 16 (by decide)).1]
    have hG := hG.fr fz42 (by decide) (by decide)
    have hIp := hI
    refine s_X12_set hI 96 8 z16 (by omega) (fun σ43 hI fz44 pz44 => ?_)
    have hfr := hfr.tr fz44 (by decide) (by decide)
    have tk8 : (sI σ43 h0 16).toInt = (sI σ41 h0 16).toInt := by rw [(fz44.1 16 (by decide)).1]
    have hG := hG.fr fz44 (by decide) (by decide)
    intro z45 ez45
    have hz45 := i_tol ez45
    have rg_z45 := l_range z45
    have hIp := hI
    refine s_X12_set hI 104 8 z45 (by omega) (fun σ46 hI fz47 pz47 => ?_)
    have hfr := hfr.tr fz47 (by decide) (by decide)
    have tk9 : (sI σ46 h0 16).toInt = (sI σ43 h0 16).toInt := by rw [(fz47.1 16 (by decide)).1]
    have hG := hG.fr fz47 (by decide) (by decide)
    intro z48 ez48
    have hz48 := i_tol ez48
    have rg_z48 := l_range z48
    have hIp := hI
    refine s_X12_set hI 112 8 z48 (by omega) (fun σ49 hI fz50 pz50 => ?_)
    have hfr := hfr.tr fz50 (by decide) (by decide)
    have tk10 : (sI σ49 h0 16).toInt = (sI σ46 h0 16).toInt := by rw [(fz50.1 16 (by decide)).1]
    have hG := hG.fr fz50 (by decide) (by decide)
    intro z51 ez51
    have hz51 := i_tol ez51
    have rg_z51 := l_range z51
    have hIp := hI
    refine s_X12_set hI 120 4 z51 (by omega) (fun σ52 hI fz53 pz53 => ?_)
    have hfr := hfr.tr fz53 (by decide) (by decide)
    have tk11 : (sI σ52 h0 16).toInt = (sI σ49 h0 16).toInt := by rw [(fz53.1 16 (by decide)).1]
    have hG := hG.fr fz53 (by decide) (by decide)
    (try dsimp only)
    exact kk 0 σ52 hI hfr hG
set_option maxRecDepth 100000 in
set_option maxHeartbeats 4000000 in
theorem s_X12_broken {h0 : Nat} {L : Nat → Nat} {σ : HS} (hI : OKM h0 L σ)  {B : Int} (hG : GI h0 L B σ) (hN : InM h0 L σ (sI σ h0 87).toInt) (hB : B < 4611686018427387904) (hz : 88 ≤ (sI σ h0 87).toInt ∧ 0 ≤ (sI σ h0 100).toInt) {post : Int64 → HS → Prop} (kk : ∀ (r : Int64) (σ' : HS), OKM h0 L σ' → Fr h0 L [16, 61, 62, 69, 91, 115, 116, 117] [1, 2, 3, 4, 5, 6, 7, 8, 9, 10, 14, 15, 16, 17, 18, 19, 20, 21, 22, 23, 27, 28, 41, 42, 43, 44, 45, 46, 47, 48, 49, 50, 51, 53, 61, 62, 63, 64, 65, 66, 67, 68, 69, 70, 71, 72, 73, 74, 75, 76, 77, 78, 79] σ σ' → (GI h0 L B σ') → post r σ') : F_X12_broken h0 L  post σ := by
  unfold F_X12_broken
  have k_0 : (0 : Int32).toInt = 0 := rfl
  have k_1 : (1 : Int32).toInt = 1 := rfl
  have k_2 : (2 : Int32).toInt = 2 := rfl
  have k_8 : (8 : Int32).toInt = 8 := rfl
  have k_24 : (24 : Int32).toInt = 24 := rfl
  have k_64 : (64 : Int32).toInt = 64 := rfl
  have k_66 : (66 : Int32).toInt = 66 := rfl
  have k_72 : (72 : Int32).toInt = 72 := rfl
  have k_80 : (80 : Int32).toInt = 80 := rfl
  have kl_0 : (0 : Int64).toInt = 0 := rfl
  have kl_24 : (24 : Int64).toInt = 24 := rfl
  have kl_3221225699 : (3221225699 : Int64).toInt = 3221225699 := rfl
  have hfr : Fr h0 L [16, 61, 62, 69, 91, 115, 116, 117] [1, 2, 3, 4, 5, 6, 7, 8, 9, 10, 14, 15, 16, 17, 18, 19, 20, 21, 22, 23, 27, 28, 41, 42, 43, 44, 45, 46, 47, 48, 49, 50, 51, 53, 61, 62, 63, 64, 65, 66, 67, 68, 69, 70, 71, 72, 73, 74, 75, 76, 77, 78, 79] σ σ := Fr.rf
  have h87 : (0 : Int) ≤ (sI σ h0 87).toInt ∧ (sI σ h0 87).toInt ≤ 4000 := hI.fI 87 0 4000 (by decide) rfl rfl rfl rfl
  intro z1 ez1
  have vz1 := hI.fI 100 (-1) 39 (by decide) rfl rfl rfl ez1
  have wz1 : z1.toInt = (sI σ h0 100).toInt := by rw [ez1, (hfr.1 100 (by decide)).1]
  refine ⟨by omega, ?_⟩
  intro z2 ez2
  have vz2 := hI.aI 47 40 0 1 (by decide) (by decide) rfl rfl rfl (i := z1.toInt) (by omega) ez2
  have wz2 : z2.toInt = (sI σ (L 47) z1.toInt.toNat).toInt := by rw [ez2]
  refine ⟨fun c1 => ?_, fun c1 => ?_⟩
  · refine s_X12_number1 hI 66 (by omega) ((hN.fr hfr (by decide) (by decide)).le (by omega)) (fun z4 pz4 => ?_)
    have rg_z4 := i_range z4
    intro z5 ez5
    have vz5 := hI.fI 100 (-1) 39 (by decide) rfl rfl rfl ez5
    have wz5 : z5.toInt = (sI σ h0 100).toInt := by rw [ez5, (hfr.1 100 (by decide)).1]
    refine ⟨by omega, ?_⟩
    intro z6 ez6
    have vz6 := hI.aI 48 40 0 255 (by decide) (by decide) rfl rfl rfl (i := z5.toInt) (by omega) ez6
    have wz6 : z6.toInt = (sI σ (L 48) z5.toInt.toNat).toInt := by rw [ez6]
    refine jn_in (fun (x : Int32) (σ' : HS) => σ = σ' ∧ ((0 ≤ x.toInt ∧ x.toInt ≤ 1))) (fun x7 σ8 hJ => ?_) (fun K9 hK9 => ?_)
    · obtain ⟨hsg, hv⟩ := hJ
      subst hsg
      (try dsimp only at hv)
      have rg_x7 := i_range x7
      intro z12 ez12
      have vz12 := hI.fI 100 (-1) 39 (by decide) rfl rfl rfl ez12
      have wz12 : z12.toInt = (sI σ h0 100).toInt := by rw [ez12, (hfr.1 100 (by decide)).1]
      refine ⟨by omega, ?_⟩
      intro z13 ez13
      have vz13 := hI.aI 43 40 0 79 (by decide) (by decide) rfl rfl rfl (i := z12.toInt) (by omega) ez13
      have wz13 : z13.toInt = (sI σ (L 43) z12.toInt.toNat).toInt := by rw [ez13]
      intro z14 ez14
      have vz14 := hI.fI 100 (-1) 39 (by decide) rfl rfl rfl ez14
      have wz14 : z14.toInt = (sI σ h0 100).toInt := by rw [ez14, (hfr.1 100 (by decide)).1]
      refine ⟨by omega, ?_⟩
      intro z15 ez15
      have wz15 : z15.toInt = (sJ σ (L 41) z14.toInt.toNat).toInt := by rw [ez15]
      intro z16 ez16
      have vz16 := hI.fI 100 (-1) 39 (by decide) rfl rfl rfl ez16
      have wz16 : z16.toInt = (sI σ h0 100).toInt := by rw [ez16, (hfr.1 100 (by decide)).1]
      refine ⟨by omega, ?_⟩
      intro σ17 eσ17
      have hMp := hI.2
      have hI := hI.pA 47 0 1 (by decide) (by decide) rfl rfl (i_bool _) eσ17
      have hfr := hfr.aI hMp (by decide) eσ17 (by decide)
      have f1σ17 : Fr h0 L [] [47] σ σ17 := Fr.rf.aI hMp (by decide) eσ17 (by decide)
      have tk1 : (sI σ17 h0 16).toInt = (sI σ h0 16).toInt := by rw [(f1σ17.1 16 (by decide)).1]
      have hG := hG.fr f1σ17 (by decide) (by decide)
      intro z18 ez18
      have vz18 := hI.fI 100 (-1) 39 (by decide) rfl rfl rfl ez18
      have wz18 : z18.toInt = (sI σ h0 100).toInt := by rw [ez18, (hfr.1 100 (by decide)).1]
      refine jn_in (fun (x : Int32) (σ' : HS) => σ17 = σ' ∧ ((0 ≤ x.toInt ∧ x.toInt ≤ 255))) (fun x19 σ20 hJ => ?_) (fun K21 hK21 => ?_)
      · obtain ⟨hsg, hv⟩ := hJ
        subst hsg
        (try dsimp only at hv)
        have rg_x19 := i_range x19
        refine ⟨by omega, ?_⟩
        intro σ24 eσ24
        have hMp := hI.2
        have hI := hI.pA 46 0 255 (by decide) (by decide) rfl rfl (by omega) eσ24
        have hfr := hfr.aI hMp (by decide) eσ24 (by decide)
        have f1σ24 : Fr h0 L [] [46] σ17 σ24 := Fr.rf.aI hMp (by decide) eσ24 (by decide)
        have tk2 : (sI σ24 h0 16).toInt = (sI σ17 h0 16).toInt := by rw [(f1σ24.1 16 (by decide)).1]
        have hG := hG.fr f1σ24 (by decide) (by decide)
        have hIp := hI
        refine s_X12_redo hI z13 hG hB (fun σ25 hI fz26 pz26 => ?_)
        have hfr := hfr.tr fz26 (by decide) (by decide)
        have hG := pz26.1
        refine ⟨fun c2 => ?_, fun c2 => ?_⟩
        · have hIp := hI
          refine s_X12_body hI 24 (by omega) (fun σ27 hI fz28 pz28 => ?_)
          have hfr := hfr.tr fz28 (by decide) (by decide)
          have tk4 : (sI σ27 h0 16).toInt = (sI σ25 h0 16).toInt := by rw [(fz28.1 16 (by decide)).1]
          have hG := hG.fr fz28 (by decide) (by decide)
          have hIp := hI
          refine s_X12_set hI 64 2 24 (by omega) (fun σ29 hI fz30 pz30 => ?_)
          have hfr := hfr.tr fz30 (by decide) (by decide)
          have tk5 : (sI σ29 h0 16).toInt = (sI σ27 h0 16).toInt := by rw [(fz30.1 16 (by decide)).1]
          have hG := hG.fr fz30 (by decide) (by decide)
          intro z31 ez31
          have hz31 := i_tol ez31
          have rg_z31 := l_range z31
          have hIp := hI
          refine s_X12_set hI 66 1 z31 (by omega) (fun σ32 hI fz33 pz33 => ?_)
          have hfr := hfr.tr fz33 (by decide) (by decide)
          have tk6 : (sI σ32 h0 16).toInt = (sI σ29 h0 16).toInt := by rw [(fz33.1 16 (by decide)).1]
          have hG := hG.fr fz33 (by decide) (by decide)
          have hIp := hI
          refine s_X12_set hI 72 8 z15 (by omega) (fun σ34 hI fz35 pz35 => ?_)
          have hfr := hfr.tr fz35 (by decide) (by decide)
          have tk7 : (sI σ34 h0 16).toInt = (sI σ32 h0 16).toInt := by rw [(fz35.1 16 (by decide)).1]
          have hG := hG.fr fz35 (by decide) (by decide)
          have hIp := hI
          refine s_X12_set hI 80 8 z15 (by omega) (fun σ36 hI fz37 pz37 => ?_)
          have hfr := hfr.tr fz37 (by decide) (by decide)
          have tk8 : (sI σ36 h0 16).toInt = (sI σ34 h0 16).toInt := by rw [(fz37.1 16 (by decide)).1]
          have hG := hG.fr fz37 (by decide) (by decide)
          exact kk 0 σ36 hI hfr hG
        · exact kk 3221225699 σ25 hI hfr hG
      · skip
        refine ⟨fun c3 => ?_, fun c3 => ?_⟩
        · exact hK21 0 σ17 ⟨rfl, (by (try dsimp only); omega)⟩
        · exact hK21 z4 σ17 ⟨rfl, (by (try dsimp only); omega)⟩
    · skip
      refine ⟨fun c4 => ?_, fun c4 => ?_⟩
      · exact hK9 0 σ ⟨rfl, (by (try dsimp only); omega)⟩
      · exact hK9 1 σ ⟨rfl, (by (try dsimp only); omega)⟩
  · exact kk 3221225699 σ hI hfr hG
set_option maxRecDepth 100000 in
set_option maxHeartbeats 4000000 in
theorem s2_X12_setToGo {h0 : Nat} {L : Nat → Nat} {σ : HS} (hI : OKM h0 L σ) (a1 : Int32) (a2 : Int32) {B : Int} (hG : GI h0 L B σ) (hN : InM h0 L σ (sI σ h0 87).toInt) (hz : 0 ≤ a1.toInt ∧ a1.toInt < 80 ∧ 0 ≤ a2.toInt ∧ a2.toInt + 1 ≤ (sI σ h0 87).toInt) {post : Int64 → HS → Prop} (kk : ∀ (r : Int64) (σ' : HS), OKM h0 L σ' → Fr h0 L [] [10] σ σ' → (GI h0 L B σ') → post r σ') : F_X12_setToGo h0 L a1 a2 post σ := by
  unfold F_X12_setToGo
  have k_0 : (0 : Int32).toInt = 0 := rfl
  have k_1 : (1 : Int32).toInt = 1 := rfl
  have kl_0 : (0 : Int64).toInt = 0 := rfl
  have kl_3221225729 : (3221225729 : Int64).toInt = 3221225729 := rfl
  have kl_3221225761 : (3221225761 : Int64).toInt = 3221225761 := rfl
  have rg_a1 := i_range a1
  have rg_a2 := i_range a2
  have hfr : Fr h0 L [] [10] σ σ := Fr.rf
  have h87 : (0 : Int) ≤ (sI σ h0 87).toInt ∧ (sI σ h0 87).toInt ≤ 4000 := hI.fI 87 0 4000 (by decide) rfl rfl rfl rfl
  refine s_X12_number1 hI a2 (by omega) ((hN.fr hfr (by decide) (by decide)).le (by omega)) (fun z2 pz2 => ?_)
  have rg_z2 := i_range z2
  refine ⟨fun c1 => ?_, fun c1 => ?_⟩
  · refine ⟨by omega, ?_⟩
    intro z3 ez3
    have vz3 := hI.aI 6 160 (-2147483648) 2147483647 (by decide) (by decide) rfl rfl rfl (i := a1.toInt) (by omega) ez3
    have wz3 : z3.toInt = (sI σ (L 6) a1.toInt.toNat).toInt := by rw [ez3]
    intro z4 ez4
    try have hz4 := i_and1 ez4 (by omega)
    have rg_z4 := i_range z4
    refine jn_dup ?_
    refine ⟨fun c2 => ?_, fun c2 => ?_⟩
    · (try dsimp only)
      exact kk 3221225761 σ hI hfr hG
    · refine ⟨by omega, ?_⟩
      intro z10 ez10
      have vz10 := hI.aI 2 160 (-1) 79 (by decide) (by decide) rfl rfl rfl (i := a1.toInt) (by omega) ez10
      have wz10 : z10.toInt = (sI σ (L 2) a1.toInt.toNat).toInt := by rw [ez10]
      refine ⟨fun c3 => ?_, fun c3 => ?_⟩
      · refine ⟨by omega, ?_⟩
        intro z11 ez11
        have vz11 := hI.aI 3 160 0 1 (by decide) (by decide) rfl rfl rfl (i := a1.toInt) (by omega) ez11
        have wz11 : z11.toInt = (sI σ (L 3) a1.toInt.toNat).toInt := by rw [ez11]
        refine jn_dup ?_
        refine ⟨fun c4 => ?_, fun c4 => ?_⟩
        · (try dsimp only)
          refine ⟨by omega, ?_⟩
          intro σ17 eσ17
          have hMp := hI.2
          have hI := hI.pA 10 0 1 (by decide) (by decide) rfl rfl (i_bool _) eσ17
          have hfr := hfr.aI hMp (by decide) eσ17 (by decide)
          have f1σ17 : Fr h0 L [] [10] σ σ17 := Fr.rf.aI hMp (by decide) eσ17 (by decide)
          have tk1 : (sI σ17 h0 16).toInt = (sI σ h0 16).toInt := by rw [(f1σ17.1 16 (by decide)).1]
          have hG := hG.tg hMp eσ17 (fun h => by first | exact absurd h (by decide) | omega)
          exact kk 0 σ17 hI hfr hG
        · refine s_X12_isEmpty hI a1  (fun z19 pz19 => ?_)
          have rg_z19 := i_range z19
          refine ⟨fun c5 => ?_, fun c5 => ?_⟩
          · (try dsimp only)
            refine ⟨by omega, ?_⟩
            intro σ17 eσ17
            have hMp := hI.2
            have hI := hI.pA 10 0 1 (by decide) (by decide) rfl rfl (i_bool _) eσ17
            have hfr := hfr.aI hMp (by decide) eσ17 (by decide)
            have f1σ17 : Fr h0 L [] [10] σ σ17 := Fr.rf.aI hMp (by decide) eσ17 (by decide)
            have tk2 : (sI σ17 h0 16).toInt = (sI σ h0 16).toInt := by rw [(f1σ17.1 16 (by decide)).1]
            have hG := hG.tg hMp eσ17 (fun h => by first | exact absurd h (by decide) | omega)
            exact kk 0 σ17 hI hfr hG
          · exact kk 3221225729 σ hI hfr hG
      · (try dsimp only)
        exact kk 3221225761 σ hI hfr hG
  · refine ⟨by omega, ?_⟩
    intro σ20 eσ20
    have hMp := hI.2
    have hI := hI.pA 10 0 1 (by decide) (by decide) rfl rfl (i_bool _) eσ20
    have hfr := hfr.aI hMp (by decide) eσ20 (by decide)
    have f1σ20 : Fr h0 L [] [10] σ σ20 := Fr.rf.aI hMp (by decide) eσ20 (by decide)
    have tk3 : (sI σ20 h0 16).toInt = (sI σ h0 16).toInt := by rw [(f1σ20.1 16 (by decide)).1]
    have hG := hG.tg hMp eσ20 (fun h => by first | exact absurd h (by decide) | omega)
    exact kk 0 σ20 hI hfr hG
set_option maxRecDepth 100000 in
set_option maxHeartbeats 4000000 in
theorem s_X12_setInfo {h0 : Nat} {L : Nat → Nat} {σ : HS} (hI : OKM h0 L σ)  {B : Int} (hG : GI h0 L B σ) (hN : InM h0 L σ (sI σ h0 87).toInt) (hT : 0 ≤ rts L σ (sI σ (L 40) (sI σ h0 99).toInt.toNat).toInt.toNat) (hz : 96 ≤ (sI σ h0 87).toInt ∧ 0 ≤ (sI σ h0 100).toInt ∧ 0 ≤ (sI σ h0 99).toInt ∧ (NUM h0 L σ 68 4 = 0 ∨ (NUM h0 L σ 72 2 : Int) + NUM h0 L σ 68 4 ≤ (sI σ h0 87).toInt)) {post : Int64 → HS → Prop} (kk : ∀ (r : Int64) (σ' : HS), OKM h0 L σ' → Fr h0 L [16, 91, 115, 116, 117] [1, 2, 3, 4, 5, 6, 7, 8, 9, 10, 14, 15, 16, 17, 18, 19, 20, 21, 22, 23, 27, 28, 46, 76, 77, 78, 79] σ σ' → (GI h0 L B σ') → post r σ') : F_X12_setInfo h0 L  post σ := by
  unfold F_X12_setInfo
  have k_0 : (0 : Int32).toInt = 0 := rfl
  have k_1 : (1 : Int32).toInt = 1 := rfl
  have k_2 : (2 : Int32).toInt = 2 := rfl
  have k_4 : (4 : Int32).toInt = 4 := rfl
  have k_8 : (8 : Int32).toInt = 8 := rfl
  have k_10 : (10 : Int32).toInt = 10 := rfl
  have k_13 : (13 : Int32).toInt = 13 := rfl
  have k_20 : (20 : Int32).toInt = 20 := rfl
  have k_40 : (40 : Int32).toInt = 40 := rfl
  have k_66 : (66 : Int32).toInt = 66 := rfl
  have k_67 : (67 : Int32).toInt = 67 := rfl
  have k_68 : (68 : Int32).toInt = 68 := rfl
  have k_72 : (72 : Int32).toInt = 72 := rfl
  have k_256 : (256 : Int32).toInt = 256 := rfl
  have k_65536 : (65536 : Int32).toInt = 65536 := rfl
  have kl_0 : (0 : Int64).toInt = 0 := rfl
  have kl_3221225475 : (3221225475 : Int64).toInt = 3221225475 := rfl
  have kl_3221225476 : (3221225476 : Int64).toInt = 3221225476 := rfl
  have kl_3221225506 : (3221225506 : Int64).toInt = 3221225506 := rfl
  have hfr : Fr h0 L [16, 91, 115, 116, 117] [1, 2, 3, 4, 5, 6, 7, 8, 9, 10, 14, 15, 16, 17, 18, 19, 20, 21, 22, 23, 27, 28, 46, 76, 77, 78, 79] σ σ := Fr.rf
  have h87 : (0 : Int) ≤ (sI σ h0 87).toInt ∧ (sI σ h0 87).toInt ≤ 4000 := hI.fI 87 0 4000 (by decide) rfl rfl rfl rfl
  refine s_X12_number1 hI 66 (by omega) ((hN.fr hfr (by decide) (by decide)).le (by omega)) (fun z2 pz2 => ?_)
  have rg_z2 := i_range z2
  refine s_X12_number1 hI 67 (by omega) ((hN.fr hfr (by decide) (by decide)).le (by omega)) (fun z4 pz4 => ?_)
  have rg_z4 := i_range z4
  refine s_X12_number hI 68 4 (by omega) ((hN.fr hfr (by decide) (by decide)).le (by omega)) (fun z6 pz6 => ?_)
  have tz6 : z6.toInt = (NUM h0 L σ 68 4 : Int) ∧ z6.toInt < 4294967296 := num_t (n := 4) (K := 4294967296) pz6 rfl (by decide)
  refine s_X12_number2 hI 72 (by omega) ((hN.fr hfr (by decide) (by decide)).le (by omega)) (fun z8 pz8 => ?_)
  have tz8 : z8.toInt = (NUM h0 L σ 72 2 : Int) := pz8.1
  have rg_z8 := i_range z8
  intro z9 ez9
  have vz9 := hI.fI 100 (-1) 39 (by decide) rfl rfl rfl ez9
  have wz9 : z9.toInt = (sI σ h0 100).toInt := by rw [ez9, (hfr.1 100 (by decide)).1]
  refine ⟨by omega, ?_⟩
  intro z10 ez10
  have vz10 := hI.aI 43 40 0 79 (by decide) (by decide) rfl rfl rfl (i := z9.toInt) (by omega) ez10
  have wz10 : z10.toInt = (sI σ (L 43) z9.toInt.toNat).toInt := by rw [ez10, (hfr.2.1 43 (by decide) (by decide) _).1]
  refine jn_dup ?_
  refine ⟨fun c1 => ?_, fun c1 => ?_⟩
  · (try dsimp only)
    exact kk 3221225475 σ hI hfr hG
  · refine jn_in (fun (x : Unit) (σ' : HS) => σ = σ' ∧ ((z4.toInt = 4 ∨ z4.toInt = 20 ∨ z4.toInt = 13 ∨ z4.toInt = 10))) (fun x16 σ17 hJ => ?_) (fun K18 hK18 => ?_)
    · obtain ⟨hsg, hv⟩ := hJ
      subst hsg
      (try dsimp only at hv)
      refine jn_in (fun (x : Int32) (σ' : HS) => σ = σ' ∧ ((1 ≤ x.toInt ∧ x.toInt ≤ 40) ∧ ((z4.toInt = 4 ∧ x.toInt = 40) ∨ (z4.toInt = 20 ∧ x.toInt = 8) ∨ (z4.toInt = 13 ∧ x.toInt = 1) ∨ (z4.toInt = 10 ∧ x.toInt = 20)))) (fun x21 σ22 hJ => ?_) (fun K23 hK23 => ?_)
      · obtain ⟨hsg, hv⟩ := hJ
        subst hsg
        (try dsimp only at hv)
        have rg_x21 := i_range x21
        intro z26 ez26
        have hz26 := i_tol ez26
        have rg_z26 := l_range z26
        refine ⟨fun c2 => ?_, fun c2 => ?_⟩
        · refine jn_in (fun (x : Int32) (σ' : HS) => σ = σ' ∧ ((2 ≤ x.toInt ∧ x.toInt ≤ 65536))) (fun x27 σ28 hJ => ?_) (fun K29 hK29 => ?_)
          · obtain ⟨hsg, hv⟩ := hJ
            subst hsg
            (try dsimp only at hv)
            have rg_x27 := i_range x27
            intro z32 ez32
            have vz32 := hI.fI 100 (-1) 39 (by decide) rfl rfl rfl ez32
            have wz32 : z32.toInt = (sI σ h0 100).toInt := by rw [ez32, (hfr.1 100 (by decide)).1]
            refine ⟨by omega, ?_⟩
            intro z33 ez33
            have vz33 := hI.aI 44 40 (-2147483648) 2147483647 (by decide) (by decide) rfl rfl rfl (i := z32.toInt) (by omega) ez33
            have wz33 : z33.toInt = (sI σ (L 44) z32.toInt.toNat).toInt := by rw [ez33, (hfr.2.1 44 (by decide) (by decide) _).1]
            intro z34 ez34
            try have hz34 := i_and ez34 (by omega)
            have rg_z34 := i_range z34
            refine ⟨fun c3 => ?_, fun c3 => ?_⟩
            · refine jn_dup ?_
              refine ⟨fun c4 => ?_, fun c4 => ?_⟩
              · refine ⟨fun c5 => ?_, fun c5 => ?_⟩
                · refine ⟨fun c6 => ?_, fun c6 => ?_⟩
                  · have hIp := hI
                    refine s_X12_rename hI z10 z8 z6 hG hN hT (by omega) (fun z43 σ42 hI fz43 pz43 => ?_)
                    have hfr := hfr.tr fz43 (by decide) (by decide)
                    have hG := pz43
                    (try dsimp only)
                    refine ⟨fun c7 => ?_, fun c7 => ?_⟩
                    · have hIp := hI
                      refine s_X12_small hI 2 (by omega) (fun z41 σ40 hI fz41 pz41 => ?_)
                      have hfr := hfr.tr fz41 (by decide) (by decide)
                      have tk2 : (sI σ40 h0 16).toInt = (sI σ42 h0 16).toInt := by rw [(fz41.1 16 (by decide)).1]
                      have hG := hG.fr fz41 (by decide) (by decide)
                      exact kk z41 σ40 hI hfr hG
                    · exact kk z43 σ42 hI hfr hG
                  · have hIp := hI
                    refine s2_X12_setToGo hI z10 z8 hG hN (by omega) (fun z45 σ44 hI fz45 pz45 => ?_)
                    have hfr := hfr.tr fz45 (by decide) (by decide)
                    have tk3 : (sI σ44 h0 16).toInt = (sI σ h0 16).toInt := by rw [(fz45.1 16 (by decide)).1]
                    have hG := pz45
                    (try dsimp only)
                    refine ⟨fun c8 => ?_, fun c8 => ?_⟩
                    · have hIp := hI
                      refine s_X12_small hI 2 (by omega) (fun z41 σ40 hI fz41 pz41 => ?_)
                      have hfr := hfr.tr fz41 (by decide) (by decide)
                      have tk4 : (sI σ40 h0 16).toInt = (sI σ44 h0 16).toInt := by rw [(fz41.1 16 (by decide)).1]
                      have hG := hG.fr fz41 (by decide) (by decide)
                      exact kk z41 σ40 hI hfr hG
                    · exact kk z45 σ44 hI hfr hG
                · have hIp := hI
                  refine s_X12_setSize hI z10 z8 hG hN (by omega) (fun z47 σ46 hI fz47 pz47 => ?_)
                  have hfr := hfr.tr fz47 (by decide) (by decide)
                  have hG := pz47
                  (try dsimp only)
                  refine ⟨fun c9 => ?_, fun c9 => ?_⟩
                  · have hIp := hI
                    refine s_X12_small hI 2 (by omega) (fun z41 σ40 hI fz41 pz41 => ?_)
                    have hfr := hfr.tr fz41 (by decide) (by decide)
                    have tk6 : (sI σ40 h0 16).toInt = (sI σ46 h0 16).toInt := by rw [(fz41.1 16 (by decide)).1]
                    have hG := hG.fr fz41 (by decide) (by decide)
                    exact kk z41 σ40 hI hfr hG
                  · exact kk z47 σ46 hI hfr hG
              · have hIp := hI
                refine s_X12_setBasic hI z10 z8 hG hN (by omega) (fun z49 σ48 hI fz49 pz49 => ?_)
                have hfr := hfr.tr fz49 (by decide) (by decide)
                have hG := pz49
                (try dsimp only)
                refine ⟨fun c10 => ?_, fun c10 => ?_⟩
                · have hIp := hI
                  refine s_X12_small hI 2 (by omega) (fun z41 σ40 hI fz41 pz41 => ?_)
                  have hfr := hfr.tr fz41 (by decide) (by decide)
                  have tk8 : (sI σ40 h0 16).toInt = (sI σ48 h0 16).toInt := by rw [(fz41.1 16 (by decide)).1]
                  have hG := hG.fr fz41 (by decide) (by decide)
                  exact kk z41 σ40 hI hfr hG
                · exact kk z49 σ48 hI hfr hG
            · exact kk 3221225506 σ hI hfr hG
          · skip
            refine ⟨fun c11 => ?_, fun c11 => ?_⟩
            · refine ⟨fun c12 => ?_, fun c12 => ?_⟩
              · exact hK29 65536 σ ⟨rfl, (by (try dsimp only); omega)⟩
              · exact hK29 2 σ ⟨rfl, (by (try dsimp only); omega)⟩
            · exact hK29 256 σ ⟨rfl, (by (try dsimp only); omega)⟩
        · exact kk 3221225476 σ hI hfr hG
      · skip
        refine ⟨fun c13 => ?_, fun c13 => ?_⟩
        · refine ⟨fun c14 => ?_, fun c14 => ?_⟩
          · refine ⟨fun c15 => ?_, fun c15 => ?_⟩
            · exact hK23 20 σ ⟨rfl, (by (try dsimp only); omega)⟩
            · exact hK23 1 σ ⟨rfl, (by (try dsimp only); omega)⟩
          · exact hK23 8 σ ⟨rfl, (by (try dsimp only); omega)⟩
        · exact hK23 40 σ ⟨rfl, (by (try dsimp only); omega)⟩
    · skip
      refine ⟨fun c16 => ?_, fun c16 => ?_⟩
      · exact hK18 () σ ⟨rfl, (by (try dsimp only); omega)⟩
      · refine ⟨fun c17 => ?_, fun c17 => ?_⟩
        · exact hK18 () σ ⟨rfl, (by (try dsimp only); omega)⟩
        · refine ⟨fun c18 => ?_, fun c18 => ?_⟩
          · exact hK18 () σ ⟨rfl, (by (try dsimp only); omega)⟩
          · refine ⟨fun c19 => ?_, fun c19 => ?_⟩
            · exact hK18 () σ ⟨rfl, (by (try dsimp only); omega)⟩
            · (try dsimp only)
              exact kk 3221225475 σ hI hfr hG
set_option maxRecDepth 100000 in
set_option maxHeartbeats 4000000 in
theorem s_X12_connectTree {h0 : Nat} {L : Nat → Nat} {σ : HS} (hI : OKM h0 L σ)  {B : Int} (hG : GI h0 L B σ) (hN : InM h0 L σ (sI σ h0 87).toInt) (hz : 72 ≤ (sI σ h0 87).toInt ∧ 0 ≤ (sI σ h0 98).toInt ∧ (NUM h0 L σ 70 2 = 0 ∨ (NUM h0 L σ 68 2 : Int) + NUM h0 L σ 70 2 ≤ (sI σ h0 87).toInt)) {post : Int64 → HS → Prop} (kk : ∀ (r : Int64) (σ' : HS), OKM h0 L σ' → Fr h0 L [60, 91, 97] [38, 39, 40, 76] σ σ' → (GI h0 L B σ') → post r σ') : F_X12_connectTree h0 L  post σ := by
  unfold F_X12_connectTree
  have k_m1 : ((-1) : Int32).toInt = (-1) := rfl
  have k_0 : (0 : Int32).toInt = 0 := rfl
  have k_1 : (1 : Int32).toInt = 1 := rfl
  have k_2 : (2 : Int32).toInt = 2 := rfl
  have k_4 : (4 : Int32).toInt = 4 := rfl
  have k_12 : (12 : Int32).toInt = 12 := rfl
  have k_16 : (16 : Int32).toInt = 16 := rfl
  have k_64 : (64 : Int32).toInt = 64 := rfl
  have k_66 : (66 : Int32).toInt = 66 := rfl
  have k_68 : (68 : Int32).toInt = 68 := rfl
  have k_70 : (70 : Int32).toInt = 70 := rfl
  have k_76 : (76 : Int32).toInt = 76 := rfl
  have k_92 : (92 : Int32).toInt = 92 := rfl
  have kl_0 : (0 : Int64).toInt = 0 := rfl
  have kl_1 : (1 : Int64).toInt = 1 := rfl
  have kl_16 : (16 : Int64).toInt = 16 := rfl
  have kl_2032127 : (2032127 : Int64).toInt = 2032127 := rfl
  have kl_3221225485 : (3221225485 : Int64).toInt = 3221225485 := rfl
  have kl_3221225626 : (3221225626 : Int64).toInt = 3221225626 := rfl
  have kl_3221225676 : (3221225676 : Int64).toInt = 3221225676 := rfl
  have hfr : Fr h0 L [60, 91, 97] [38, 39, 40, 76] σ σ := Fr.rf
  have h87 : (0 : Int) ≤ (sI σ h0 87).toInt ∧ (sI σ h0 87).toInt ≤ 4000 := hI.fI 87 0 4000 (by decide) rfl rfl rfl rfl
  refine s_X12_number2 hI 68 (by omega) ((hN.fr hfr (by decide) (by decide)).le (by omega)) (fun z2 pz2 => ?_)
  have tz2 : z2.toInt = (NUM h0 L σ 68 2 : Int) := pz2.1
  have rg_z2 := i_range z2
  refine s_X12_number2 hI 70 (by omega) ((hN.fr hfr (by decide) (by decide)).le (by omega)) (fun z4 pz4 => ?_)
  have tz4 : z4.toInt = (NUM h0 L σ 70 2 : Int) := pz4.1
  have rg_z4 := i_range z4
  intro z5 ez5
  try have hz5 := i_rem 2 rfl ez5 (by omega) (by omega)
  have rg_z5 := i_range z5
  refine ⟨fun c1 => ?_, fun c1 => ?_⟩
  · intro z6 ez6
    try have hz6 := i_div 2 rfl ez6 (by omega) (by omega)
    have rg_z6 := i_range z6
    refine lw_in (fun (x : Int32 × Int32) (σ' : HS) => σ = σ' ∧ ((0 ≤ x.1.toInt) ∧ (0 ≤ x.1.toInt ∧ x.1.toInt ≤ z6.toInt) ∧ (0 ≤ x.2.toInt) ∧ (0 ≤ x.2.toInt) ∧ (x.2.toInt ≤ x.1.toInt))) (fun (x : Int32 × Int32) (σ' : HS) => (z6.toInt - x.1.toInt).toNat) ⟨rfl, (by (try dsimp only); omega)⟩ (fun x7 σ8 hJ K9 hK9 => ?_)
    obtain ⟨hsg, hv⟩ := hJ
    subst hsg
    (try dsimp only at hv)
    have rg_x7_1 := i_range x7.1
    have rg_x7_2 := i_range x7.2
    refine ⟨fun c2 => ?_, fun c2 => ?_⟩
    · refine lw_in (fun (x : Int32 × Int32) (σ' : HS) => σ = σ' ∧ ((0 ≤ x.1.toInt ∧ x.1.toInt ≤ 4) ∧ (-1 ≤ x.2.toInt ∧ x.2.toInt ≤ 3) ∧ (0 ≤ x.2.toInt → 0 ≤ (sI σ (L 11) x.2.toInt.toNat).toInt))) (fun (x : Int32 × Int32) (σ' : HS) => (4 - x.1.toInt).toNat) ⟨rfl, (by (try dsimp only); omega)⟩ (fun x11 σ12 hJ K13 hK13 => ?_)
      obtain ⟨hsg, hv⟩ := hJ
      subst hsg
      (try dsimp only at hv)
      have rg_x11_1 := i_range x11.1
      have rg_x11_2 := i_range x11.2
      refine ⟨fun c3 => ?_, fun c3 => ?_⟩
      · refine ⟨fun c4 => ?_, fun c4 => ?_⟩
        · refine s_X12_vacant hI 38 16 (by decide) rfl rfl (by decide)  (fun z16 pz16 => ?_)
          have rg_z16 := i_range z16
          refine ⟨fun c5 => ?_, fun c5 => ?_⟩
          · intro z17 ez17
            have wz17 : z17.toInt = (sJ σ h0 60).toInt := by rw [ez17]
            have vz17 := l_range z17
            intro z18 ez18
            try have hz18 := l_add ez18 (by omega) (by omega)
            have rg_z18 := l_range z18
            intro σ19 eσ19
            have hMp := hI.2
            have hI := hI.pJ eσ19
            have hfr := hfr.fJ hMp eσ19 (by decide) rfl
            have f1σ19 : Fr h0 L [60] [] σ σ19 := Fr.rf.fJ hMp eσ19 (by decide) rfl
            have tk1 : (sI σ19 h0 16).toInt = (sI σ h0 16).toInt := by rw [(f1σ19.1 16 (by decide)).1]
            intro z20 ez20
            have wz20 : z20.toInt = (sJ σ19 h0 60).toInt := by rw [ez20]
            have vz20 := l_range z20
            refine ⟨by omega, ?_⟩
            intro σ21 eσ21
            have hMp := hI.2
            have hI := hI.pJ eσ21
            have hfr := hfr.aJ hMp (by decide) eσ21 (by decide)
            have f1σ21 : Fr h0 L [] [38] σ19 σ21 := Fr.rf.aJ hMp (by decide) eσ21 (by decide)
            have tk2 : (sI σ21 h0 16).toInt = (sI σ19 h0 16).toInt := by rw [(f1σ21.1 16 (by decide)).1]
            intro z22 ez22
            have vz22 := hI.fI 98 (-1) 7 (by decide) rfl rfl rfl ez22
            have wz22 : z22.toInt = (sI σ h0 98).toInt := by rw [ez22, (hfr.1 98 (by decide)).1]
            refine ⟨by omega, ?_⟩
            intro σ23 eσ23
            have hMp := hI.2
            have hI := hI.pA 39 0 7 (by decide) (by decide) rfl rfl (by omega) eσ23
            have hfr := hfr.aI hMp (by decide) eσ23 (by decide)
            have f1σ23 : Fr h0 L [] [39] σ21 σ23 := Fr.rf.aI hMp (by decide) eσ23 (by decide)
            have tk3 : (sI σ23 h0 16).toInt = (sI σ21 h0 16).toInt := by rw [(f1σ23.1 16 (by decide)).1]
            refine ⟨by omega, ?_⟩
            intro σ24 eσ24
            have hMp := hI.2
            have hI := hI.pA 40 0 3 (by decide) (by decide) rfl rfl (by omega) eσ24
            have hfr := hfr.aI hMp (by decide) eσ24 (by decide)
            have f1σ24 : Fr h0 L [] [40] σ23 σ24 := Fr.rf.aI hMp (by decide) eσ24 (by decide)
            have tk4 : (sI σ24 h0 16).toInt = (sI σ23 h0 16).toInt := by rw [(f1σ24.1 16 (by decide)).1]
            intro z25 ez25
            have wz25 : z25.toInt = (sJ σ24 h0 60).toInt := by rw [ez25]
            have vz25 := l_range z25
            intro σ26 eσ26
            have hMp := hI.2
            have hI := hI.pJ eσ26
            have hfr := hfr.fJ hMp eσ26 (by decide) rfl
            have f1σ26 : Fr h0 L [97] [] σ24 σ26 := Fr.rf.fJ hMp eσ26 (by decide) rfl
            have tk5 : (sI σ26 h0 16).toInt = (sI σ24 h0 16).toInt := by rw [(f1σ26.1 16 (by decide)).1]
            have fO : Fr h0 L [60, 97] [38, 39, 40] σ σ26 := (((((Fr.rf.tr f1σ19 (by decide) (by decide)).tr f1σ21 (by decide) (by decide)).tr f1σ23 (by decide) (by decide)).tr f1σ24 (by decide) (by decide)).tr f1σ26 (by decide) (by decide))
            have hG := hG.tree (t := z16.toInt.toNat) (s := x11.2.toInt.toNat) fO (by decide) (by decide) (fun i => by have tt_ := congrArg Int64.toInt (f1σ19.2.1 38 (by decide) (by decide) i).2; have tt_ := atJ eσ21 i; have tt_ := congrArg Int64.toInt (f1σ23.2.1 38 (by decide) (by decide) i).2; have tt_ := congrArg Int64.toInt (f1σ24.2.1 38 (by decide) (by decide) i).2; have tt_ := congrArg Int64.toInt (f1σ26.2.1 38 (by decide) (by decide) i).2; have tt_ := congrArg Int32.toInt (f1σ19.2.1 40 (by decide) (by decide) i).1; have tt_ := congrArg Int32.toInt (f1σ21.2.1 40 (by decide) (by decide) i).1; have tt_ := congrArg Int32.toInt (f1σ23.2.1 40 (by decide) (by decide) i).1; have tt_ := atI eσ24 i; have tt_ := congrArg Int32.toInt (f1σ26.2.1 40 (by decide) (by decide) i).1; omega) (by unfold rts; omega)
            have hIp := hI
            refine s_X12_body hI 16 (by omega) (fun σ27 hI fz28 pz28 => ?_)
            have hfr := hfr.tr fz28 (by decide) (by decide)
            have tk6 : (sI σ27 h0 16).toInt = (sI σ26 h0 16).toInt := by rw [(fz28.1 16 (by decide)).1]
            have hG := hG.fr fz28 (by decide) (by decide)
            have hIp := hI
            refine s_X12_set hI 64 2 16 (by omega) (fun σ29 hI fz30 pz30 => ?_)
            have hfr := hfr.tr fz30 (by decide) (by decide)
            have tk7 : (sI σ29 h0 16).toInt = (sI σ27 h0 16).toInt := by rw [(fz30.1 16 (by decide)).1]
            have hG := hG.fr fz30 (by decide) (by decide)
            have hIp := hI
            refine s_X12_set hI 66 1 1 (by omega) (fun σ31 hI fz32 pz32 => ?_)
            have hfr := hfr.tr fz32 (by decide) (by decide)
            have tk8 : (sI σ31 h0 16).toInt = (sI σ29 h0 16).toInt := by rw [(fz32.1 16 (by decide)).1]
            have hG := hG.fr fz32 (by decide) (by decide)
            have hIp := hI
            refine s_X12_set hI 76 4 2032127 (by omega) (fun σ33 hI fz34 pz34 => ?_)
            have hfr := hfr.tr fz34 (by decide) (by decide)
            have tk9 : (sI σ33 h0 16).toInt = (sI σ31 h0 16).toInt := by rw [(fz34.1 16 (by decide)).1]
            have hG := hG.fr fz34 (by decide) (by decide)
            exact kk 0 σ33 hI hfr hG
          · exact kk 3221225626 σ hI hfr hG
        · exact kk 3221225676 σ hI hfr hG
      · refine ⟨by omega, ?_⟩
        intro z35 ez35
        have vz35 := hI.aI 11 4 (-1) 79 (by decide) (by decide) rfl rfl rfl (i := x11.1.toInt) (by omega) ez35
        have wz35 : z35.toInt = (sI σ (L 11) x11.1.toInt.toNat).toInt := by rw [ez35, (hfr.2.1 11 (by decide) (by decide) _).1]
        refine jn_in (fun (x : Int32) (σ' : HS) => σ = σ' ∧ ((0 ≤ x.toInt ∧ x.toInt ≤ 1) ∧ (x.toInt ≠ 0 → 0 ≤ (sI σ (L 11) x11.1.toInt.toNat).toInt ∧ z6.toInt - x7.2.toInt ≤ 12))) (fun x36 σ37 hJ => ?_) (fun K38 hK38 => ?_)
        · obtain ⟨hsg, hv⟩ := hJ
          subst hsg
          (try dsimp only at hv)
          have rg_x36 := i_range x36
          refine lw_in (fun (x : Int32 × Int32) (σ' : HS) => σ = σ' ∧ ((0 ≤ x.1.toInt) ∧ (0 ≤ x.1.toInt) ∧ (0 ≤ x.2.toInt ∧ x.2.toInt ≤ 1) ∧ (x.2.toInt ≠ 0 → 0 ≤ (sI σ (L 11) x11.1.toInt.toNat).toInt ∧ z6.toInt - x7.2.toInt ≤ 12) ∧ (x7.2.toInt ≤ x.1.toInt) ∧ (x.1.toInt ≤ z6.toInt))) (fun (x : Int32 × Int32) (σ' : HS) => (z6.toInt - x.1.toInt).toNat) ⟨rfl, (by (try dsimp only); omega)⟩ (fun x41 σ42 hJ K43 hK43 => ?_)
          obtain ⟨hsg, hv⟩ := hJ
          subst hsg
          (try dsimp only at hv)
          have rg_x41_1 := i_range x41.1
          have rg_x41_2 := i_range x41.2
          refine jn_dup ?_
          refine ⟨fun c6 => ?_, fun c6 => ?_⟩
          · (try dsimp only)
            refine jn_dup ?_
            refine ⟨fun c7 => ?_, fun c7 => ?_⟩
            · (try dsimp only)
              intro z55 ez55
              try have hz55 := i_add ez55 (by omega) (by omega)
              have rg_z55 := i_range z55
              exact hK13 (z55, x11.2) σ ⟨rfl, (by (try dsimp only); omega)⟩ (by (try dsimp only); omega)
            · (try dsimp only)
              intro z55 ez55
              try have hz55 := i_add ez55 (by omega) (by omega)
              have rg_z55 := i_range z55
              exact hK13 (z55, x11.1) σ ⟨rfl, (by (try dsimp only); omega)⟩ (by (try dsimp only); omega)
          · refine ⟨fun c8 => ?_, fun c8 => ?_⟩
            · (try dsimp only)
              refine jn_dup ?_
              refine ⟨fun c9 => ?_, fun c9 => ?_⟩
              · (try dsimp only)
                intro z55 ez55
                try have hz55 := i_add ez55 (by omega) (by omega)
                have rg_z55 := i_range z55
                exact hK13 (z55, x11.2) σ ⟨rfl, (by (try dsimp only); omega)⟩ (by (try dsimp only); omega)
              · (try dsimp only)
                intro z55 ez55
                try have hz55 := i_add ez55 (by omega) (by omega)
                have rg_z55 := i_range z55
                exact hK13 (z55, x11.1) σ ⟨rfl, (by (try dsimp only); omega)⟩ (by (try dsimp only); omega)
            · intro z56 ez56
              try have hz56 := i_mulk 2 rfl ez56 (by omega) (by omega)
              have rg_z56 := i_range z56
              intro z57 ez57
              try have hz57 := i_add ez57 (by omega) (by omega)
              have rg_z57 := i_range z57
              refine s_X12_number2 hI z57 (by omega) ((hN.fr hfr (by decide) (by decide)).le (by omega)) (fun z59 pz59 => ?_)
              have rg_z59 := i_range z59
              refine s_X12_folded hI z59  (fun z61 pz61 => ?_)
              have rg_z61 := i_range z61
              intro z62 ez62
              try have hz62 := i_mulk 12 rfl ez62 (by omega) (by omega)
              have rg_z62 := i_range z62
              intro z63 ez63
              try have hz63 := i_add ez63 (by omega) (by omega)
              have rg_z63 := i_range z63
              intro z64 ez64
              try have hz64 := i_sub ez64 (by omega) (by omega)
              have rg_z64 := i_range z64
              refine ⟨by omega, ?_⟩
              intro z65 ez65
              have vz65 := hI.aI 12 48 (-128) 127 (by decide) (by decide) rfl rfl rfl (i := z64.toInt) (by omega) ez65
              have wz65 : z65.toInt = (sI σ (L 12) z64.toInt.toNat).toInt := by rw [ez65, (hfr.2.1 12 (by decide) (by decide) _).1]
              refine s_X12_folded hI z65  (fun z67 pz67 => ?_)
              have rg_z67 := i_range z67
              refine jn_dup ?_
              refine ⟨fun c10 => ?_, fun c10 => ?_⟩
              · (try dsimp only)
                intro z73 ez73
                try have hz73 := i_add ez73 (by omega) (by omega)
                have rg_z73 := i_range z73
                exact hK43 (z73, 0) σ ⟨rfl, (by (try dsimp only); omega)⟩ (by (try dsimp only); omega)
              · (try dsimp only)
                intro z73 ez73
                try have hz73 := i_add ez73 (by omega) (by omega)
                have rg_z73 := i_range z73
                exact hK43 (z73, 1) σ ⟨rfl, (by (try dsimp only); omega)⟩ (by (try dsimp only); omega)
        · skip
          refine jn_dup ?_
          refine ⟨fun c11 => ?_, fun c11 => ?_⟩
          · (try dsimp only)
            exact hK38 0 σ ⟨rfl, (by (try dsimp only); omega)⟩
          · refine ⟨by omega, ?_⟩
            intro z79 ez79
            have vz79 := hI.aI 13 4 0 12 (by decide) (by decide) rfl rfl rfl (i := x11.1.toInt) (by omega) ez79
            have wz79 : z79.toInt = (sI σ (L 13) x11.1.toInt.toNat).toInt := by rw [ez79, (hfr.2.1 13 (by decide) (by decide) _).1]
            intro z80 ez80
            try have hz80 := i_sub ez80 (by omega) (by omega)
            have rg_z80 := i_range z80
            refine ⟨fun c12 => ?_, fun c12 => ?_⟩
            · (try dsimp only)
              exact hK38 0 σ ⟨rfl, (by (try dsimp only); omega)⟩
            · exact hK38 1 σ ⟨rfl, (by (try dsimp only); omega)⟩
    · intro z81 ez81
      try have hz81 := i_mulk 2 rfl ez81 (by omega) (by omega)
      have rg_z81 := i_range z81
      intro z82 ez82
      try have hz82 := i_add ez82 (by omega) (by omega)
      have rg_z82 := i_range z82
      refine s_X12_number2 hI z82 (by omega) ((hN.fr hfr (by decide) (by decide)).le (by omega)) (fun z84 pz84 => ?_)
      have rg_z84 := i_range z84
      refine jn_dup ?_
      refine ⟨fun c13 => ?_, fun c13 => ?_⟩
      · (try dsimp only)
        intro z90 ez90
        try have hz90 := i_add ez90 (by omega) (by omega)
        have rg_z90 := i_range z90
        exact hK9 (z90, x7.2) σ ⟨rfl, (by (try dsimp only); omega)⟩ (by (try dsimp only); omega)
      · intro z91 ez91
        try have hz91 := i_add ez91 (by omega) (by omega)
        have rg_z91 := i_range z91
        (try dsimp only)
        intro z90 ez90
        try have hz90 := i_add ez90 (by omega) (by omega)
        have rg_z90 := i_range z90
        exact hK9 (z90, z91) σ ⟨rfl, (by (try dsimp only); omega)⟩ (by (try dsimp only); omega)
  · exact kk 3221225485 σ hI hfr hG
set_option maxRecDepth 100000 in
set_option maxHeartbeats 4000000 in
theorem s_X12_setUp {h0 : Nat} {L : Nat → Nat} {σ : HS} (hI : OKM h0 L σ)  {B : Int} (hG : GI h0 L B σ) (hN : InM h0 L σ (sI σ h0 87).toInt) (hB : B < 4611686018427387904) (hz : 88 ≤ (sI σ h0 87).toInt ∧ (NUM h0 L σ 78 2 = 0 ∨ (NUM h0 L σ 76 2 : Int) + NUM h0 L σ 78 2 ≤ (sI σ h0 87).toInt)) {post : Int64 → HS → Prop} (kk : ∀ (r : Int64) (σ' : HS), OKM h0 L σ' → Fr h0 L [16, 59, 61, 62, 63, 69, 91, 96, 115, 116, 117] [1, 2, 3, 4, 5, 6, 7, 8, 9, 10, 14, 15, 16, 17, 18, 19, 20, 21, 22, 23, 27, 28, 34, 35, 36, 37, 38, 41, 42, 43, 44, 45, 46, 47, 48, 49, 50, 51, 53, 56, 57, 58, 59, 60, 61, 62, 63, 64, 65, 66, 67, 68, 69, 70, 71, 72, 73, 74, 75, 76, 77, 78, 79] σ σ' → (GI h0 L B σ') → post r σ') : F_X12_setUp h0 L  post σ := by
  unfold F_X12_setUp
  have k_0 : (0 : Int32).toInt = 0 := rfl
  have k_1 : (1 : Int32).toInt = 1 := rfl
  have k_2 : (2 : Int32).toInt = 2 := rfl
  have k_8 : (8 : Int32).toInt = 8 := rfl
  have k_9 : (9 : Int32).toInt = 9 := rfl
  have k_16 : (16 : Int32).toInt = 16 := rfl
  have k_33 : (33 : Int32).toInt = 33 := rfl
  have k_64 : (64 : Int32).toInt = 64 := rfl
  have k_68 : (68 : Int32).toInt = 68 := rfl
  have k_76 : (76 : Int32).toInt = 76 := rfl
  have k_78 : (78 : Int32).toInt = 78 := rfl
  have k_80 : (80 : Int32).toInt = 80 := rfl
  have k_126 : (126 : Int32).toInt = 126 := rfl
  have k_255 : (255 : Int32).toInt = 255 := rfl
  have kl_0 : (0 : Int64).toInt = 0 := rfl
  have kl_1 : (1 : Int64).toInt = 1 := rfl
  have kl_9 : (9 : Int64).toInt = 9 := rfl
  have kl_72 : (72 : Int64).toInt = 72 := rfl
  have kl_3221225485 : (3221225485 : Int64).toInt = 3221225485 := rfl
  have kl_3221225626 : (3221225626 : Int64).toInt = 3221225626 := rfl
  have hfr : Fr h0 L [16, 59, 61, 62, 63, 69, 91, 96, 115, 116, 117] [1, 2, 3, 4, 5, 6, 7, 8, 9, 10, 14, 15, 16, 17, 18, 19, 20, 21, 22, 23, 27, 28, 34, 35, 36, 37, 38, 41, 42, 43, 44, 45, 46, 47, 48, 49, 50, 51, 53, 56, 57, 58, 59, 60, 61, 62, 63, 64, 65, 66, 67, 68, 69, 70, 71, 72, 73, 74, 75, 76, 77, 78, 79] σ σ := Fr.rf
  have h87 : (0 : Int) ≤ (sI σ h0 87).toInt ∧ (sI σ h0 87).toInt ≤ 4000 := hI.fI 87 0 4000 (by decide) rfl rfl rfl rfl
  refine s_X12_number2 hI 76 (by omega) ((hN.fr hfr (by decide) (by decide)).le (by omega)) (fun z2 pz2 => ?_)
  have tz2 : z2.toInt = (NUM h0 L σ 76 2 : Int) := pz2.1
  have rg_z2 := i_range z2
  refine s_X12_number2 hI 78 (by omega) ((hN.fr hfr (by decide) (by decide)).le (by omega)) (fun z4 pz4 => ?_)
  have tz4 : z4.toInt = (NUM h0 L σ 78 2 : Int) := pz4.1
  have rg_z4 := i_range z4
  refine jn_in (fun (x : Int32) (σ' : HS) => σ = σ' ∧ ((0 ≤ x.toInt ∧ x.toInt ≤ 1) ∧ (x.toInt ≠ 0 → 1 ≤ z4.toInt ∧ z4.toInt ≤ 16))) (fun x5 σ6 hJ => ?_) (fun K7 hK7 => ?_)
  · obtain ⟨hsg, hv⟩ := hJ
    subst hsg
    (try dsimp only at hv)
    have rg_x5 := i_range x5
    refine lw_in (fun (x : Int32 × Int32) (σ' : HS) => σ = σ' ∧ ((0 ≤ x.1.toInt) ∧ (0 ≤ x.1.toInt ∧ x.1.toInt ≤ z4.toInt) ∧ (0 ≤ x.2.toInt ∧ x.2.toInt ≤ 1) ∧ (x.2.toInt ≠ 0 → 1 ≤ z4.toInt ∧ z4.toInt ≤ 16))) (fun (x : Int32 × Int32) (σ' : HS) => (z4.toInt - x.1.toInt).toNat) ⟨rfl, (by (try dsimp only); omega)⟩ (fun x10 σ11 hJ K12 hK12 => ?_)
    obtain ⟨hsg, hv⟩ := hJ
    subst hsg
    (try dsimp only at hv)
    have rg_x10_1 := i_range x10.1
    have rg_x10_2 := i_range x10.2
    refine jn_in (fun (x : Unit) (σ' : HS) => σ = σ' ∧ (True)) (fun x14 σ15 hJ => ?_) (fun K16 hK16 => ?_)
    · obtain ⟨hsg, hv⟩ := hJ
      subst hsg
      (try dsimp only at hv)
      refine ⟨fun c1 => ?_, fun c1 => ?_⟩
      · refine s_X12_number hI 80 8 (by omega) ((hN.fr hfr (by decide) (by decide)).le (by omega)) (fun z20 pz20 => ?_)
        refine lw_in (fun (x : Int32) (σ' : HS) => σ = σ' ∧ ((0 ≤ x.toInt ∧ x.toInt ≤ 8))) (fun (x : Int32) (σ' : HS) => (9 - x.toInt).toNat) ⟨rfl, (by (try dsimp only); omega)⟩ (fun x21 σ22 hJ K23 hK23 => ?_)
        obtain ⟨hsg, hv⟩ := hJ
        subst hsg
        (try dsimp only at hv)
        have rg_x21 := i_range x21
        refine jn_in (fun (x : Unit) (σ' : HS) => OKM h0 L σ' ∧ Fr h0 L [16, 59, 61, 62, 63, 69, 91, 96, 115, 116, 117] [1, 2, 3, 4, 5, 6, 7, 8, 9, 10, 14, 15, 16, 17, 18, 19, 20, 21, 22, 23, 27, 28, 34, 35, 36, 37, 38, 41, 42, 43, 44, 45, 46, 47, 48, 49, 50, 51, 53, 56, 57, 58, 59, 60, 61, 62, 63, 64, 65, 66, 67, 68, 69, 70, 71, 72, 73, 74, 75, 76, 77, 78, 79] σ σ' ∧ (True) ∧ (GI h0 L B σ')) (fun x25 σ26 hJ => ?_) (fun K27 hK27 => ?_)
        · obtain ⟨hI, hfr, hv, hG⟩ := hJ
          (try dsimp only at hv)
          refine s_X12_vacant hI 34 8 (by decide) rfl rfl (by decide)  (fun z31 pz31 => ?_)
          have rg_z31 := i_range z31
          refine ⟨fun c2 => ?_, fun c2 => ?_⟩
          · intro z32 ez32
            have wz32 : z32.toInt = (sJ σ26 h0 59).toInt := by rw [ez32]
            have vz32 := l_range z32
            intro z33 ez33
            try have hz33 := l_add ez33 (by omega) (by omega)
            have rg_z33 := l_range z33
            intro σ34 eσ34
            have hMp := hI.2
            have hI := hI.pJ eσ34
            have hfr := hfr.fJ hMp eσ34 (by decide) rfl
            have f1σ34 : Fr h0 L [59] [] σ26 σ34 := Fr.rf.fJ hMp eσ34 (by decide) rfl
            have tk1 : (sI σ34 h0 16).toInt = (sI σ26 h0 16).toInt := by rw [(f1σ34.1 16 (by decide)).1]
            have hG := hG.fr f1σ34 (by decide) (by decide)
            intro z35 ez35
            have wz35 : z35.toInt = (sJ σ34 h0 59).toInt := by rw [ez35]
            have vz35 := l_range z35
            refine ⟨by omega, ?_⟩
            intro σ36 eσ36
            have hMp := hI.2
            have hI := hI.pJ eσ36
            have hfr := hfr.aJ hMp (by decide) eσ36 (by decide)
            have f1σ36 : Fr h0 L [] [34] σ34 σ36 := Fr.rf.aJ hMp (by decide) eσ36 (by decide)
            have tk2 : (sI σ36 h0 16).toInt = (sI σ34 h0 16).toInt := by rw [(f1σ36.1 16 (by decide)).1]
            have hG := hG.fr f1σ36 (by decide) (by decide)
            intro z37 ez37
            have vz37 := hI.fI 88 0 5 (by decide) rfl rfl rfl ez37
            have wz37 : z37.toInt = (sI σ h0 88).toInt := by rw [ez37, (hfr.1 88 (by decide)).1]
            refine ⟨by omega, ?_⟩
            intro σ38 eσ38
            have hMp := hI.2
            have hI := hI.pA 35 0 5 (by decide) (by decide) rfl rfl (by omega) eσ38
            have hfr := hfr.aI hMp (by decide) eσ38 (by decide)
            have f1σ38 : Fr h0 L [] [35] σ36 σ38 := Fr.rf.aI hMp (by decide) eσ38 (by decide)
            have tk3 : (sI σ38 h0 16).toInt = (sI σ36 h0 16).toInt := by rw [(f1σ38.1 16 (by decide)).1]
            have hG := hG.fr f1σ38 (by decide) (by decide)
            refine ⟨by omega, ?_⟩
            intro σ39 eσ39
            have hMp := hI.2
            have hI := hI.pA 37 0 16 (by decide) (by decide) rfl rfl (by omega) eσ39
            have hfr := hfr.aI hMp (by decide) eσ39 (by decide)
            have f1σ39 : Fr h0 L [] [37] σ38 σ39 := Fr.rf.aI hMp (by decide) eσ39 (by decide)
            have tk4 : (sI σ39 h0 16).toInt = (sI σ38 h0 16).toInt := by rw [(f1σ39.1 16 (by decide)).1]
            have hG := hG.fr f1σ39 (by decide) (by decide)
            refine lw_in (fun (x : Int32) (σ' : HS) => OKM h0 L σ' ∧ Fr h0 L [16, 59, 61, 62, 63, 69, 91, 96, 115, 116, 117] [1, 2, 3, 4, 5, 6, 7, 8, 9, 10, 14, 15, 16, 17, 18, 19, 20, 21, 22, 23, 27, 28, 34, 35, 36, 37, 38, 41, 42, 43, 44, 45, 46, 47, 48, 49, 50, 51, 53, 56, 57, 58, 59, 60, 61, 62, 63, 64, 65, 66, 67, 68, 69, 70, 71, 72, 73, 74, 75, 76, 77, 78, 79] σ σ' ∧ ((0 ≤ x.toInt) ∧ (0 ≤ x.toInt ∧ x.toInt ≤ z4.toInt)) ∧ (GI h0 L B σ')) (fun (x : Int32) (σ' : HS) => (z4.toInt - x.toInt).toNat) ⟨hI, hfr, (by (try dsimp only); omega), hG⟩ (fun x40 σ41 hJ K42 hK42 => ?_)
            obtain ⟨hI, hfr, hv, hG⟩ := hJ
            (try dsimp only at hv)
            have rg_x40 := i_range x40
            refine ⟨fun c3 => ?_, fun c3 => ?_⟩
            · intro z44 ez44
              have wz44 : z44.toInt = (sJ σ41 h0 59).toInt := by rw [ez44]
              have vz44 := l_range z44
              intro σ45 eσ45
              have hMp := hI.2
              have hI := hI.pJ eσ45
              have hfr := hfr.fJ hMp eσ45 (by decide) rfl
              have f1σ45 : Fr h0 L [96] [] σ41 σ45 := Fr.rf.fJ hMp eσ45 (by decide) rfl
              have tk5 : (sI σ45 h0 16).toInt = (sI σ41 h0 16).toInt := by rw [(f1σ45.1 16 (by decide)).1]
              have hG := hG.fr f1σ45 (by decide) (by decide)
              have hIp := hI
              refine s_X12_body hI 9 (by omega) (fun σ46 hI fz47 pz47 => ?_)
              have hfr := hfr.tr fz47 (by decide) (by decide)
              have tk6 : (sI σ46 h0 16).toInt = (sI σ45 h0 16).toInt := by rw [(fz47.1 16 (by decide)).1]
              have hG := hG.fr fz47 (by decide) (by decide)
              have hIp := hI
              refine s_X12_set hI 64 2 9 (by omega) (fun σ48 hI fz49 pz49 => ?_)
              have hfr := hfr.tr fz49 (by decide) (by decide)
              have tk7 : (sI σ48 h0 16).toInt = (sI σ46 h0 16).toInt := by rw [(fz49.1 16 (by decide)).1]
              have hG := hG.fr fz49 (by decide) (by decide)
              have hIp := hI
              refine s_X12_set hI 68 2 72 (by omega) (fun σ50 hI fz51 pz51 => ?_)
              have hfr := hfr.tr fz51 (by decide) (by decide)
              have tk8 : (sI σ50 h0 16).toInt = (sI σ48 h0 16).toInt := by rw [(fz51.1 16 (by decide)).1]
              have hG := hG.fr fz51 (by decide) (by decide)
              exact kk 0 σ50 hI hfr hG
            · intro z52 ez52
              try have hz52 := i_mulk 16 rfl ez52 (by omega) (by omega)
              have rg_z52 := i_range z52
              intro z53 ez53
              try have hz53 := i_add ez53 (by omega) (by omega)
              have rg_z53 := i_range z53
              intro z54 ez54
              try have hz54 := i_add ez54 (by omega) (by omega)
              have rg_z54 := i_range z54
              refine s_X12_number1 hI z54 (by omega) ((hN.fr hfr (by decide) (by decide)).le (by omega)) (fun z56 pz56 => ?_)
              have rg_z56 := i_range z56
              intro z57 ez57
              have hz57 := i_b8 ez57
              have rg_z57 := i_range z57
              refine ⟨by omega, ?_⟩
              intro σ58 eσ58
              have hMp := hI.2
              have hI := hI.pA 36 (-128) 127 (by decide) (by decide) rfl rfl (i_byte _) eσ58
              have hfr := hfr.aI hMp (by decide) eσ58 (by decide)
              have f1σ58 : Fr h0 L [] [36] σ41 σ58 := Fr.rf.aI hMp (by decide) eσ58 (by decide)
              have tk9 : (sI σ58 h0 16).toInt = (sI σ41 h0 16).toInt := by rw [(f1σ58.1 16 (by decide)).1]
              have hG := hG.fr f1σ58 (by decide) (by decide)
              intro z59 ez59
              try have hz59 := i_add ez59 (by omega) (by omega)
              have rg_z59 := i_range z59
              exact hK42 z59 σ58 ⟨hI, hfr, (by (try dsimp only); omega), hG⟩ (by (try dsimp only); omega)
          · exact kk 3221225626 σ26 hI hfr hG
        · skip
          refine ⟨fun c4 => ?_, fun c4 => ?_⟩
          · exact hK27 () σ ⟨hI, hfr, trivial, hG⟩
          · refine jn_in (fun (x : Int32) (σ' : HS) => σ = σ' ∧ ((0 ≤ x.toInt ∧ x.toInt ≤ 1))) (fun x60 σ61 hJ => ?_) (fun K62 hK62 => ?_)
            · obtain ⟨hsg, hv⟩ := hJ
              subst hsg
              (try dsimp only at hv)
              have rg_x60 := i_range x60
              refine lw_in (fun (x : Int32 × Int32) (σ' : HS) => σ = σ' ∧ ((0 ≤ x.1.toInt) ∧ (0 ≤ x.1.toInt ∧ x.1.toInt ≤ z4.toInt) ∧ (0 ≤ x.2.toInt ∧ x.2.toInt ≤ 1))) (fun (x : Int32 × Int32) (σ' : HS) => (z4.toInt - x.1.toInt).toNat) ⟨rfl, (by (try dsimp only); omega)⟩ (fun x65 σ66 hJ K67 hK67 => ?_)
              obtain ⟨hsg, hv⟩ := hJ
              subst hsg
              (try dsimp only at hv)
              have rg_x65_1 := i_range x65.1
              have rg_x65_2 := i_range x65.2
              refine jn_dup ?_
              refine ⟨fun c5 => ?_, fun c5 => ?_⟩
              · (try dsimp only)
                refine ⟨fun c6 => ?_, fun c6 => ?_⟩
                · intro z74 ez74
                  try have hz74 := i_add ez74 (by omega) (by omega)
                  have rg_z74 := i_range z74
                  exact hK23 z74 σ ⟨rfl, (by (try dsimp only); omega)⟩ (by (try dsimp only); omega)
                · have hIp := hI
                  refine s_X12_endSession hI x21 hG hB (by omega) (fun σ75 hI fz76 pz76 => ?_)
                  have hfr := hfr.tr fz76 (by decide) (by decide)
                  have hG := pz76.1
                  exact hK27 () σ75 ⟨hI, hfr, trivial, hG⟩
              · refine ⟨fun c7 => ?_, fun c7 => ?_⟩
                · (try dsimp only)
                  refine ⟨fun c8 => ?_, fun c8 => ?_⟩
                  · intro z74 ez74
                    try have hz74 := i_add ez74 (by omega) (by omega)
                    have rg_z74 := i_range z74
                    exact hK23 z74 σ ⟨rfl, (by (try dsimp only); omega)⟩ (by (try dsimp only); omega)
                  · have hIp := hI
                    refine s_X12_endSession hI x21 hG hB (by omega) (fun σ75 hI fz76 pz76 => ?_)
                    have hfr := hfr.tr fz76 (by decide) (by decide)
                    have hG := pz76.1
                    exact hK27 () σ75 ⟨hI, hfr, trivial, hG⟩
                · intro z77 ez77
                  try have hz77 := i_mulk 16 rfl ez77 (by omega) (by omega)
                  have rg_z77 := i_range z77
                  intro z78 ez78
                  try have hz78 := i_add ez78 (by omega) (by omega)
                  have rg_z78 := i_range z78
                  refine ⟨by omega, ?_⟩
                  intro z79 ez79
                  have vz79 := hI.aI 36 128 (-128) 127 (by decide) (by decide) rfl rfl rfl (i := z78.toInt) (by omega) ez79
                  have wz79 : z79.toInt = (sI σ (L 36) z78.toInt.toNat).toInt := by rw [ez79]
                  intro z80 ez80
                  try have hz80 := i_and ez80 (by omega)
                  have rg_z80 := i_range z80
                  intro z81 ez81
                  try have hz81 := i_add ez81 (by omega) (by omega)
                  have rg_z81 := i_range z81
                  refine s_X12_number1 hI z81 (by omega) ((hN.fr hfr (by decide) (by decide)).le (by omega)) (fun z83 pz83 => ?_)
                  have rg_z83 := i_range z83
                  refine jn_dup ?_
                  refine ⟨fun c9 => ?_, fun c9 => ?_⟩
                  · (try dsimp only)
                    intro z89 ez89
                    try have hz89 := i_add ez89 (by omega) (by omega)
                    have rg_z89 := i_range z89
                    exact hK67 (z89, 0) σ ⟨rfl, (by (try dsimp only); omega)⟩ (by (try dsimp only); omega)
                  · (try dsimp only)
                    intro z89 ez89
                    try have hz89 := i_add ez89 (by omega) (by omega)
                    have rg_z89 := i_range z89
                    exact hK67 (z89, 1) σ ⟨rfl, (by (try dsimp only); omega)⟩ (by (try dsimp only); omega)
            · skip
              refine jn_dup ?_
              refine ⟨fun c10 => ?_, fun c10 => ?_⟩
              · (try dsimp only)
                exact hK62 0 σ ⟨rfl, (by (try dsimp only); omega)⟩
              · refine ⟨by omega, ?_⟩
                intro z95 ez95
                have wz95 : z95.toInt = (sJ σ (L 34) x21.toInt.toNat).toInt := by rw [ez95]
                refine ⟨fun c11 => ?_, fun c11 => ?_⟩
                · (try dsimp only)
                  exact hK62 0 σ ⟨rfl, (by (try dsimp only); omega)⟩
                · refine ⟨by omega, ?_⟩
                  intro z96 ez96
                  have vz96 := hI.aI 37 8 0 16 (by decide) (by decide) rfl rfl rfl (i := x21.toInt) (by omega) ez96
                  have wz96 : z96.toInt = (sI σ (L 37) x21.toInt.toNat).toInt := by rw [ez96]
                  refine ⟨fun c12 => ?_, fun c12 => ?_⟩
                  · (try dsimp only)
                    exact hK62 0 σ ⟨rfl, (by (try dsimp only); omega)⟩
                  · exact hK62 1 σ ⟨rfl, (by (try dsimp only); omega)⟩
      · exact kk 3221225485 σ hI hfr hG
    · skip
      refine ⟨fun c13 => ?_, fun c13 => ?_⟩
      · exact hK16 () σ ⟨rfl, trivial⟩
      · refine ⟨fun c14 => ?_, fun c14 => ?_⟩
        · exact hK16 () σ ⟨rfl, trivial⟩
        · intro z97 ez97
          try have hz97 := i_add ez97 (by omega) (by omega)
          have rg_z97 := i_range z97
          refine s_X12_number1 hI z97 (by omega) ((hN.fr hfr (by decide) (by decide)).le (by omega)) (fun z99 pz99 => ?_)
          have rg_z99 := i_range z99
          refine jn_dup ?_
          refine jn_dup ?_
          refine ⟨fun c15 => ?_, fun c15 => ?_⟩
          · (try dsimp only)
            (try dsimp only)
            intro z105 ez105
            try have hz105 := i_add ez105 (by omega) (by omega)
            have rg_z105 := i_range z105
            exact hK12 (z105, 0) σ ⟨rfl, (by (try dsimp only); omega)⟩ (by (try dsimp only); omega)
          · refine ⟨fun c16 => ?_, fun c16 => ?_⟩
            · (try dsimp only)
              (try dsimp only)
              intro z105 ez105
              try have hz105 := i_add ez105 (by omega) (by omega)
              have rg_z105 := i_range z105
              exact hK12 (z105, 0) σ ⟨rfl, (by (try dsimp only); omega)⟩ (by (try dsimp only); omega)
            · (try dsimp only)
              intro z105 ez105
              try have hz105 := i_add ez105 (by omega) (by omega)
              have rg_z105 := i_range z105
              exact hK12 (z105, 1) σ ⟨rfl, (by (try dsimp only); omega)⟩ (by (try dsimp only); omega)
  · skip
    refine jn_dup ?_
    refine ⟨fun c17 => ?_, fun c17 => ?_⟩
    · (try dsimp only)
      exact hK7 0 σ ⟨rfl, (by (try dsimp only); omega)⟩
    · refine ⟨fun c18 => ?_, fun c18 => ?_⟩
      · (try dsimp only)
        exact hK7 0 σ ⟨rfl, (by (try dsimp only); omega)⟩
      · exact hK7 1 σ ⟨rfl, (by (try dsimp only); omega)⟩

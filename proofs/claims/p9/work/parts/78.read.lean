/-! read -/
set_option maxRecDepth 100000 in
set_option maxHeartbeats 4000000 in
theorem s_X12_read {h0 : Nat} {L : Nat → Nat} {σ : HS} (hI : OKM h0 L σ)  (hN : InM h0 L σ (sI σ h0 87).toInt) (hz : 112 ≤ (sI σ h0 87).toInt ∧ 0 ≤ (sI σ h0 100).toInt) {post : Int64 → HS → Prop} (kk : ∀ (r : Int64) (σ' : HS), OKM h0 L σ' → Fr h0 L [91] [76] σ σ' → (True) → post r σ') : F_X12_read h0 L  post σ := by
  unfold F_X12_read
  have k_0 : (0 : Int32).toInt = 0 := rfl
  have k_1 : (1 : Int32).toInt = 1 := rfl
  have k_2 : (2 : Int32).toInt = 2 := rfl
  have k_4 : (4 : Int32).toInt = 4 := rfl
  have k_8 : (8 : Int32).toInt = 8 := rfl
  have k_16 : (16 : Int32).toInt = 16 := rfl
  have k_64 : (64 : Int32).toInt = 64 := rfl
  have k_66 : (66 : Int32).toInt = 66 := rfl
  have k_68 : (68 : Int32).toInt = 68 := rfl
  have k_72 : (72 : Int32).toInt = 72 := rfl
  have k_80 : (80 : Int32).toInt = 80 := rfl
  have k_96 : (96 : Int32).toInt = 96 := rfl
  have k_4096 : (4096 : Int32).toInt = 4096 := rfl
  have kl_0 : (0 : Int64).toInt = 0 := rfl
  have kl_17 : (17 : Int64).toInt = 17 := rfl
  have kl_80 : (80 : Int64).toInt = 80 := rfl
  have kl_1024 : (1024 : Int64).toInt = 1024 := rfl
  have kl_3221225485 : (3221225485 : Int64).toInt = 3221225485 := rfl
  have kl_3221225489 : (3221225489 : Int64).toInt = 3221225489 := rfl
  have kl_3221225506 : (3221225506 : Int64).toInt = 3221225506 := rfl
  have kl_3221225556 : (3221225556 : Int64).toInt = 3221225556 := rfl
  have kl_3221225658 : (3221225658 : Int64).toInt = 3221225658 := rfl
  have hfr : Fr h0 L [91] [76] σ σ := Fr.rf
  have h87 : (0 : Int) ≤ (sI σ h0 87).toInt ∧ (sI σ h0 87).toInt ≤ 4000 := hI.fI 87 0 4000 (by decide) rfl rfl rfl rfl
  refine s_X12_number hI 68 4 (by omega) ((hN.fr hfr (by decide) (by decide)).le (by omega)) (fun z2 pz2 => ?_)
  have tz2 : z2.toInt = (NUM h0 L σ 68 4 : Int) ∧ z2.toInt < 4294967296 := num_t (n := 4) (K := 4294967296) pz2 rfl (by decide)
  refine s_X12_number hI 72 8 (by omega) ((hN.fr hfr (by decide) (by decide)).le (by omega)) (fun z4 pz4 => ?_)
  refine s_X12_number hI 96 4 (by omega) ((hN.fr hfr (by decide) (by decide)).le (by omega)) (fun z6 pz6 => ?_)
  have tz6 : z6.toInt = (NUM h0 L σ 96 4 : Int) ∧ z6.toInt < 4294967296 := num_t (n := 4) (K := 4294967296) pz6 rfl (by decide)
  intro z7 ez7
  have vz7 := hI.fI 100 (-1) 39 (by decide) rfl rfl rfl ez7
  have wz7 : z7.toInt = (sI σ h0 100).toInt := by rw [ez7, (hfr.1 100 (by decide)).1]
  refine ⟨by omega, ?_⟩
  intro z8 ez8
  have vz8 := hI.aI 43 40 0 79 (by decide) (by decide) rfl rfl rfl (i := z7.toInt) (by omega) ez8
  have wz8 : z8.toInt = (sI σ (L 43) z7.toInt.toNat).toInt := by rw [ez8, (hfr.2.1 43 (by decide) (by decide) _).1]
  refine ⟨fun c1 => ?_, fun c1 => ?_⟩
  · refine ⟨by omega, ?_⟩
    intro z9 ez9
    have vz9 := hI.aI 3 160 0 1 (by decide) (by decide) rfl rfl rfl (i := z8.toInt) (by omega) ez9
    have wz9 : z9.toInt = (sI σ (L 3) z8.toInt.toNat).toInt := by rw [ez9, (hfr.2.1 3 (by decide) (by decide) _).1]
    refine ⟨fun c2 => ?_, fun c2 => ?_⟩
    · intro z10 ez10
      have vz10 := hI.fI 100 (-1) 39 (by decide) rfl rfl rfl ez10
      have wz10 : z10.toInt = (sI σ h0 100).toInt := by rw [ez10, (hfr.1 100 (by decide)).1]
      refine ⟨by omega, ?_⟩
      intro z11 ez11
      have vz11 := hI.aI 44 40 (-2147483648) 2147483647 (by decide) (by decide) rfl rfl rfl (i := z10.toInt) (by omega) ez11
      have wz11 : z11.toInt = (sI σ (L 44) z10.toInt.toNat).toInt := by rw [ez11, (hfr.2.1 44 (by decide) (by decide) _).1]
      intro z12 ez12
      try have hz12 := i_and1 ez12 (by omega)
      have rg_z12 := i_range z12
      refine ⟨fun c3 => ?_, fun c3 => ?_⟩
      · refine lw_in (fun (x : Int32) (σ' : HS) => OKM h0 L σ' ∧ Fr h0 L [91] [76] σ σ' ∧ ((0 ≤ x.toInt ∧ x.toInt ≤ 81))) (fun (x : Int32) (σ' : HS) => (82 - x.toInt).toNat) ⟨hI, hfr, (by (try dsimp only); omega)⟩ (fun x13 σ14 hJ K15 hK15 => ?_)
        obtain ⟨hI, hfr, hv⟩ := hJ
        (try dsimp only at hv)
        have rg_x13 := i_range x13
        intro z17 ez17
        have vz17 := hI.fI 63 0 80 (by decide) rfl rfl rfl ez17
        have wz17 : z17.toInt = (sI σ h0 63).toInt := by rw [ez17, (hfr.1 63 (by decide)).1]
        refine ⟨fun c4 => ?_, fun c4 => ?_⟩
        · refine ⟨by omega, ?_⟩
          intro z18 ez18
          have vz18 := hI.aI 8 160 0 4096 (by decide) (by decide) rfl rfl rfl (i := z8.toInt) (by omega) ez18
          have wz18 : z18.toInt = (sI σ (L 8) z8.toInt.toNat).toInt := by rw [ez18, (hfr.2.1 8 (by decide) (by decide) _).1]
          intro z19 ez19
          have hz19 := i_tol ez19
          have rg_z19 := l_range z19
          refine s2_X12_isLess hI z4 z19  (fun z21 pz21 => ?_)
          have rg_z21 := i_range z21
          refine jn_in (fun (x : Int32) (σ' : HS) => OKM h0 L σ' ∧ Fr h0 L [91] [76] σ σ' ∧ ((0 ≤ x.toInt ∧ x.toInt ≤ 1) ∧ (x.toInt = 0 → 0 ≤ z4.toInt ∧ z4.toInt < (sI σ (L 8) z8.toInt.toNat).toInt))) (fun x22 σ23 hJ => ?_) (fun K24 hK24 => ?_)
          · obtain ⟨hI, hfr, hv⟩ := hJ
            (try dsimp only at hv)
            have rg_x22 := i_range x22
            refine jn_in (fun (x : Int64) (σ' : HS) => OKM h0 L σ' ∧ Fr h0 L [91] [76] σ σ' ∧ ((0 ≤ x.toInt ∧ x.toInt ≤ 1024) ∧ (x.toInt = 0 ∨ (0 ≤ z4.toInt ∧ z4.toInt + x.toInt ≤ 4096)))) (fun x27 σ28 hJ => ?_) (fun K29 hK29 => ?_)
            · obtain ⟨hI, hfr, hv⟩ := hJ
              (try dsimp only at hv)
              have rg_x27 := l_range x27
              refine jn_dup ?_
              refine jn_in (fun (x : Unit) (σ' : HS) => OKM h0 L σ' ∧ Fr h0 L [91] [76] σ σ' ∧ (True)) (fun x37 σ38 hJ => ?_) (fun K39 hK39 => ?_)
              · obtain ⟨hI, hfr, hv⟩ := hJ
                (try dsimp only at hv)
                refine ⟨fun c5 => ?_, fun c5 => ?_⟩
                · refine jn_in (fun (x : Int32) (σ' : HS) => OKM h0 L σ' ∧ Fr h0 L [91] [76] σ σ' ∧ ((0 ≤ x.toInt ∧ x.toInt ≤ 1024))) (fun x42 σ43 hJ => ?_) (fun K44 hK44 => ?_)
                  · obtain ⟨hI, hfr, hv⟩ := hJ
                    (try dsimp only at hv)
                    have rg_x42 := i_range x42
                    intro z47 ez47
                    try have hz47 := i_add ez47 (by omega) (by omega)
                    have rg_z47 := i_range z47
                    refine s_X12_body hI z47 (by omega) (fun σ48 hI fz49 pz49 => ?_)
                    have hfr := hfr.tr fz49 (by decide) (by decide)
                    refine s_X12_set hI 64 2 17 (by omega) (fun σ50 hI fz51 pz51 => ?_)
                    have hfr := hfr.tr fz51 (by decide) (by decide)
                    refine s_X12_set hI 66 1 80 (by omega) (fun σ52 hI fz53 pz53 => ?_)
                    have hfr := hfr.tr fz53 (by decide) (by decide)
                    refine s_X12_set hI 68 4 x27 (by omega) (fun σ54 hI fz55 pz55 => ?_)
                    have hfr := hfr.tr fz55 (by decide) (by decide)
                    refine lw_in (fun (x : Int32) (σ' : HS) => OKM h0 L σ' ∧ Fr h0 L [91] [76] σ σ' ∧ ((0 ≤ x.toInt ∧ x.toInt ≤ 1024))) (fun (x : Int32) (σ' : HS) => (1024 - x.toInt).toNat) ⟨hI, hfr, (by (try dsimp only); omega)⟩ (fun x56 σ57 hJ K58 hK58 => ?_)
                    obtain ⟨hI, hfr, hv⟩ := hJ
                    (try dsimp only at hv)
                    have rg_x56 := i_range x56
                    intro z60 ez60
                    have hz60 := i_tol ez60
                    have rg_z60 := l_range z60
                    refine ⟨fun c6 => ?_, fun c6 => ?_⟩
                    · exact kk 0 σ57 hI hfr trivial
                    · intro z61 ez61
                      try have hz61 := i_add ez61 (by omega) (by omega)
                      have rg_z61 := i_range z61
                      intro z62 ez62
                      try have hz62 := i_mulk 4096 rfl ez62 (by omega) (by omega)
                      have rg_z62 := i_range z62
                      intro z63 ez63
                      try have hz63 := l_toi ez63 (by omega) (by omega)
                      have rg_z63 := i_range z63
                      intro z64 ez64
                      try have hz64 := i_add ez64 (by omega) (by omega)
                      have rg_z64 := i_range z64
                      intro z65 ez65
                      try have hz65 := i_add ez65 (by omega) (by omega)
                      have rg_z65 := i_range z65
                      refine ⟨by omega, ?_⟩
                      intro z66 ez66
                      have vz66 := hI.aI 9 655360 (-128) 127 (by decide) (by decide) rfl rfl rfl (i := z65.toInt) (by omega) ez66
                      have wz66 : z66.toInt = (sI σ (L 9) z65.toInt.toNat).toInt := by rw [ez66, (hfr.2.1 9 (by decide) (by decide) _).1]
                      intro z67 ez67
                      have hz67 := i_tol ez67
                      have rg_z67 := l_range z67
                      refine s_X12_set hI z61 1 z67 (by omega) (fun σ68 hI fz69 pz69 => ?_)
                      have hfr := hfr.tr fz69 (by decide) (by decide)
                      intro z70 ez70
                      try have hz70 := i_add ez70 (by omega) (by omega)
                      have rg_z70 := i_range z70
                      exact hK58 z70 σ68 ⟨hI, hfr, (by (try dsimp only); omega)⟩ (by (try dsimp only); omega)
                  · skip
                    refine ⟨fun c7 => ?_, fun c7 => ?_⟩
                    · intro z71 ez71
                      try have hz71 := l_toi ez71 (by omega) (by omega)
                      have rg_z71 := i_range z71
                      exact hK44 z71 σ38 ⟨hI, hfr, (by (try dsimp only); omega)⟩
                    · exact hK44 1 σ38 ⟨hI, hfr, (by (try dsimp only); omega)⟩
                · (try dsimp only)
                  exact kk 3221225489 σ38 hI hfr trivial
              · skip
                refine ⟨fun c8 => ?_, fun c8 => ?_⟩
                · exact hK39 () σ28 ⟨hI, hfr, trivial⟩
                · refine ⟨fun c9 => ?_, fun c9 => ?_⟩
                  · (try dsimp only)
                    exact kk 3221225489 σ28 hI hfr trivial
                  · exact hK39 () σ28 ⟨hI, hfr, trivial⟩
            · skip
              refine ⟨fun c10 => ?_, fun c10 => ?_⟩
              · refine ⟨by omega, ?_⟩
                intro z72 ez72
                have vz72 := hI.aI 8 160 0 4096 (by decide) (by decide) rfl rfl rfl (i := z8.toInt) (by omega) ez72
                have wz72 : z72.toInt = (sI σ (L 8) z8.toInt.toNat).toInt := by rw [ez72, (hfr.2.1 8 (by decide) (by decide) _).1]
                intro z73 ez73
                have hz73 := i_tol ez73
                have rg_z73 := l_range z73
                intro z74 ez74
                try have hz74 := l_sub ez74 (by omega) (by omega)
                have rg_z74 := l_range z74
                refine ⟨fun c11 => ?_, fun c11 => ?_⟩
                · exact hK29 z2 σ23 ⟨hI, hfr, (by (try dsimp only); omega)⟩
                · refine ⟨by omega, ?_⟩
                  intro z75 ez75
                  have vz75 := hI.aI 8 160 0 4096 (by decide) (by decide) rfl rfl rfl (i := z8.toInt) (by omega) ez75
                  have wz75 : z75.toInt = (sI σ (L 8) z8.toInt.toNat).toInt := by rw [ez75, (hfr.2.1 8 (by decide) (by decide) _).1]
                  intro z76 ez76
                  have hz76 := i_tol ez76
                  have rg_z76 := l_range z76
                  intro z77 ez77
                  try have hz77 := l_sub ez77 (by omega) (by omega)
                  have rg_z77 := l_range z77
                  exact hK29 z77 σ23 ⟨hI, hfr, (by (try dsimp only); omega)⟩
              · exact hK29 0 σ23 ⟨hI, hfr, (by (try dsimp only); omega)⟩
          · skip
            refine ⟨fun c12 => ?_, fun c12 => ?_⟩
            · exact hK24 0 σ14 ⟨hI, hfr, (by (try dsimp only); omega)⟩
            · exact hK24 1 σ14 ⟨hI, hfr, (by (try dsimp only); omega)⟩
        · refine ⟨by omega, ?_⟩
          intro z78 ez78
          have vz78 := hI.aI 57 80 0 79 (by decide) (by decide) rfl rfl rfl (i := x13.toInt) (by omega) ez78
          have wz78 : z78.toInt = (sI σ (L 57) x13.toInt.toNat).toInt := by rw [ez78, (hfr.2.1 57 (by decide) (by decide) _).1]
          refine jn_dup ?_
          refine ⟨fun c13 => ?_, fun c13 => ?_⟩
          · (try dsimp only)
            intro z84 ez84
            try have hz84 := i_add ez84 (by omega) (by omega)
            have rg_z84 := i_range z84
            exact hK15 z84 σ14 ⟨hI, hfr, (by (try dsimp only); omega)⟩ (by (try dsimp only); omega)
          · refine ⟨by omega, ?_⟩
            intro z85 ez85
            have vz85 := hI.aI 60 80 0 1 (by decide) (by decide) rfl rfl rfl (i := x13.toInt) (by omega) ez85
            have wz85 : z85.toInt = (sI σ (L 60) x13.toInt.toNat).toInt := by rw [ez85, (hfr.2.1 60 (by decide) (by decide) _).1]
            refine ⟨fun c14 => ?_, fun c14 => ?_⟩
            · (try dsimp only)
              intro z84 ez84
              try have hz84 := i_add ez84 (by omega) (by omega)
              have rg_z84 := i_range z84
              exact hK15 z84 σ14 ⟨hI, hfr, (by (try dsimp only); omega)⟩ (by (try dsimp only); omega)
            · refine ⟨by omega, ?_⟩
              intro z86 ez86
              have wz86 : z86.toInt = (sJ σ14 (L 56) x13.toInt.toNat).toInt := by rw [ez86]
              intro z87 ez87
              have vz87 := hI.fI 100 (-1) 39 (by decide) rfl rfl rfl ez87
              have wz87 : z87.toInt = (sI σ h0 100).toInt := by rw [ez87, (hfr.1 100 (by decide)).1]
              refine ⟨by omega, ?_⟩
              intro z88 ez88
              have wz88 : z88.toInt = (sJ σ14 (L 41) z87.toInt.toNat).toInt := by rw [ez88]
              refine ⟨fun c15 => ?_, fun c15 => ?_⟩
              · (try dsimp only)
                intro z84 ez84
                try have hz84 := i_add ez84 (by omega) (by omega)
                have rg_z84 := i_range z84
                exact hK15 z84 σ14 ⟨hI, hfr, (by (try dsimp only); omega)⟩ (by (try dsimp only); omega)
              · refine ⟨by omega, ?_⟩
                intro z89 ez89
                have wz89 : z89.toInt = (sJ σ14 (L 58) x13.toInt.toNat).toInt := by rw [ez89]
                refine ⟨by omega, ?_⟩
                intro z90 ez90
                have wz90 : z90.toInt = (sJ σ14 (L 59) x13.toInt.toNat).toInt := by rw [ez90]
                refine s_X12_meet hI z4 z2 z89 z90  (fun z92 pz92 => ?_)
                have rg_z92 := i_range z92
                refine ⟨fun c16 => ?_, fun c16 => ?_⟩
                · (try dsimp only)
                  intro z84 ez84
                  try have hz84 := i_add ez84 (by omega) (by omega)
                  have rg_z84 := i_range z84
                  exact hK15 z84 σ14 ⟨hI, hfr, (by (try dsimp only); omega)⟩ (by (try dsimp only); omega)
                · exact kk 3221225556 σ14 hI hfr trivial
      · exact kk 3221225506 σ hI hfr trivial
    · exact kk 3221225658 σ hI hfr trivial
  · exact kk 3221225485 σ hI hfr trivial

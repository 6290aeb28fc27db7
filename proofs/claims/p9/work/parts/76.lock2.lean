/-! lock -/
set_option maxRecDepth 100000 in
set_option maxHeartbeats 4000000 in
theorem s_X12_lock {h0 : Nat} {L : Nat → Nat} {σ : HS} (hI : OKM h0 L σ)  (hN : InM h0 L σ (sI σ h0 87).toInt) (hz : 112 ≤ (sI σ h0 87).toInt ∧ 0 ≤ (sI σ h0 100).toInt ∧ 0 ≤ (sI σ h0 98).toInt ∧ 0 ≤ (sI σ h0 99).toInt) {post : Int64 → HS → Prop} (kk : ∀ (r : Int64) (σ' : HS), OKM h0 L σ' → Fr h0 L [62, 63, 69, 91, 109] [27, 28, 46, 56, 57, 58, 59, 60, 61, 62, 63, 64, 65, 66, 67, 68, 69, 70, 71, 72, 73, 74, 75, 76] σ σ' → ((Sub h0 L σ σ' ∨ Wt1 h0 L σ σ')) → post r σ') : F_X12_lock h0 L  post σ := by
  unfold F_X12_lock
  have k_0 : (0 : Int32).toInt = 0 := rfl
  have k_1 : (1 : Int32).toInt = 1 := rfl
  have k_4 : (4 : Int32).toInt = 4 := rfl
  have k_7 : (7 : Int32).toInt = 7 := rfl
  have k_8 : (8 : Int32).toInt = 8 := rfl
  have k_24 : (24 : Int32).toInt = 24 := rfl
  have k_66 : (66 : Int32).toInt = 66 := rfl
  have k_88 : (88 : Int32).toInt = 88 := rfl
  have k_96 : (96 : Int32).toInt = 96 := rfl
  have k_104 : (104 : Int32).toInt = 104 := rfl
  have kl_0 : (0 : Int64).toInt = 0 := rfl
  have kl_1 : (1 : Int64).toInt = 1 := rfl
  have kl_2 : (2 : Int64).toInt = 2 := rfl
  have kl_4 : (4 : Int64).toInt = 4 := rfl
  have kl_17 : (17 : Int64).toInt = 17 := rfl
  have kl_18 : (18 : Int64).toInt = 18 := rfl
  have kl_3221225485 : (3221225485 : Int64).toInt = 3221225485 := rfl
  have kl_3221225506 : (3221225506 : Int64).toInt = 3221225506 := rfl
  have kl_3221225658 : (3221225658 : Int64).toInt = 3221225658 := rfl
  have hfr : Fr h0 L [62, 63, 69, 91, 109] [27, 28, 46, 56, 57, 58, 59, 60, 61, 62, 63, 64, 65, 66, 67, 68, 69, 70, 71, 72, 73, 74, 75, 76] σ σ := Fr.rf
  have h87 : (0 : Int) ≤ (sI σ h0 87).toInt ∧ (sI σ h0 87).toInt ≤ 4000 := hI.fI 87 0 4000 (by decide) rfl rfl rfl rfl
  refine s_X12_number2 hI 66 (by omega) ((hN.fr hfr (by decide) (by decide)).le (by omega)) (fun z2 pz2 => ?_)
  have tz2 : z2.toInt = (NUM h0 L σ 66 2 : Int) := pz2.1
  have rg_z2 := i_range z2
  intro z3 ez3
  have vz3 := hI.fI 100 (-1) 39 (by decide) rfl rfl rfl ez3
  have wz3 : z3.toInt = (sI σ h0 100).toInt := by rw [ez3, (hfr.1 100 (by decide)).1]
  refine ⟨by omega, ?_⟩
  intro z4 ez4
  have vz4 := hI.aI 43 40 0 79 (by decide) (by decide) rfl rfl rfl (i := z3.toInt) (by omega) ez4
  have wz4 : z4.toInt = (sI σ (L 43) z3.toInt.toNat).toInt := by rw [ez4, (hfr.2.1 43 (by decide) (by decide) _).1]
  refine jn_dup ?_
  refine ⟨fun c1 => ?_, fun c1 => ?_⟩
  · (try dsimp only)
    exact kk 3221225485 σ hI hfr (by first | exact Or.inl Sub.rf | (rw [hs] at pz34; exact Or.inr pz34) | (rw [hs] at pz36; exact Or.inl pz36) | (rw [hs]; exact Or.inl Sub.rf))
  · refine ⟨fun c2 => ?_, fun c2 => ?_⟩
    · (try dsimp only)
      exact kk 3221225485 σ hI hfr (by first | exact Or.inl Sub.rf | (rw [hs] at pz34; exact Or.inr pz34) | (rw [hs] at pz36; exact Or.inl pz36) | (rw [hs]; exact Or.inl Sub.rf))
    · intro z10 ez10
      try have hz10 := i_mulk 24 rfl ez10 (by omega) (by omega)
      have rg_z10 := i_range z10
      intro z11 ez11
      try have hz11 := i_add ez11 (by omega) (by omega)
      have rg_z11 := i_range z11
      intro z12 ez12
      have vz12 := hI.fI 87 0 4000 (by decide) rfl rfl rfl ez12
      have wz12 : z12.toInt = (sI σ h0 87).toInt := by rw [ez12, (hfr.1 87 (by decide)).1]
      refine ⟨fun c3 => ?_, fun c3 => ?_⟩
      · refine ⟨by omega, ?_⟩
        intro z13 ez13
        have vz13 := hI.aI 3 160 0 1 (by decide) (by decide) rfl rfl rfl (i := z4.toInt) (by omega) ez13
        have wz13 : z13.toInt = (sI σ (L 3) z4.toInt.toNat).toInt := by rw [ez13, (hfr.2.1 3 (by decide) (by decide) _).1]
        refine ⟨fun c4 => ?_, fun c4 => ?_⟩
        · intro z14 ez14
          have vz14 := hI.fI 100 (-1) 39 (by decide) rfl rfl rfl ez14
          have wz14 : z14.toInt = (sI σ h0 100).toInt := by rw [ez14, (hfr.1 100 (by decide)).1]
          refine ⟨by omega, ?_⟩
          intro z15 ez15
          have vz15 := hI.aI 44 40 (-2147483648) 2147483647 (by decide) (by decide) rfl rfl rfl (i := z14.toInt) (by omega) ez15
          have wz15 : z15.toInt = (sI σ (L 44) z14.toInt.toNat).toInt := by rw [ez15, (hfr.2.1 44 (by decide) (by decide) _).1]
          intro z16 ez16
          try have hz16 := i_and ez16 (by omega)
          have rg_z16 := i_range z16
          refine ⟨fun c5 => ?_, fun c5 => ?_⟩
          · refine s_X12_number hI 104 4 (by omega) ((hN.fr hfr (by decide) (by decide)).le (by omega)) (fun z18 pz18 => ?_)
            have tz18 : z18.toInt = (NUM h0 L σ 104 4 : Int) ∧ z18.toInt < 4294967296 := num_t (n := 4) (K := 4294967296) pz18 rfl (by decide)
            refine jn_in (fun (x : Int32) (σ' : HS) => OKM h0 L σ' ∧ Fr h0 L [62, 63, 69, 91, 109] [27, 28, 46, 56, 57, 58, 59, 60, 61, 62, 63, 64, 65, 66, 67, 68, 69, 70, 71, 72, 73, 74, 75, 76] σ σ' ∧ ((0 ≤ x.toInt ∧ x.toInt ≤ 1)) ∧ (σ' = σ)) (fun x19 σ20 hJ => ?_) (fun K21 hK21 => ?_)
            · obtain ⟨hI, hfr, hv, hs⟩ := hJ
              (try dsimp only at hv)
              have rg_x19 := i_range x19
              refine lw_in (fun (x : Int32 × Int32) (σ' : HS) => OKM h0 L σ' ∧ Fr h0 L [62, 63, 69, 91, 109] [27, 28, 46, 56, 57, 58, 59, 60, 61, 62, 63, 64, 65, 66, 67, 68, 69, 70, 71, 72, 73, 74, 75, 76] σ σ' ∧ ((0 ≤ x.1.toInt ∧ x.1.toInt ≤ 8) ∧ (0 ≤ x.1.toInt ∧ x.1.toInt ≤ z2.toInt) ∧ (0 ≤ x.2.toInt ∧ x.2.toInt ≤ 1)) ∧ (σ' = σ)) (fun (x : Int32 × Int32) (σ' : HS) => (z2.toInt - x.1.toInt).toNat) ⟨hI, hfr, (by (try dsimp only); omega), (by first | rfl | exact hs)⟩ (fun x24 σ25 hJ K26 hK26 => ?_)
              obtain ⟨hI, hfr, hv, hs⟩ := hJ
              (try dsimp only at hv)
              have rg_x24_1 := i_range x24.1
              have rg_x24_2 := i_range x24.2
              refine ⟨fun c6 => ?_, fun c6 => ?_⟩
              · refine ⟨fun c7 => ?_, fun c7 => ?_⟩
                · refine jn_dup ?_
                  refine ⟨fun c8 => ?_, fun c8 => ?_⟩
                  · have b87 := congrArg Int32.toInt (hfr.1 87 (by decide)).1
                    have b93 := congrArg Int32.toInt (hfr.1 93 (by decide)).1
                    have b98 := congrArg Int32.toInt (hfr.1 98 (by decide)).1
                    have b99 := congrArg Int32.toInt (hfr.1 99 (by decide)).1
                    have b100 := congrArg Int32.toInt (hfr.1 100 (by decide)).1
                    refine s_X12_locksAll hI z4 z2 ((hN.fr hfr (by decide) (by decide)).le (by omega)) (by omega) (fun z34 σ33 hI fz34 pz34 => ?_)
                    have hfr := hfr.tr fz34 (by decide) (by decide)
                    (try dsimp only)
                    exact kk z34 σ33 hI hfr (by first | exact Or.inl Sub.rf | (rw [hs] at pz34; exact Or.inr pz34) | (rw [hs] at pz36; exact Or.inl pz36) | (rw [hs]; exact Or.inl Sub.rf))
                  · have b87 := congrArg Int32.toInt (hfr.1 87 (by decide)).1
                    have b93 := congrArg Int32.toInt (hfr.1 93 (by decide)).1
                    have b98 := congrArg Int32.toInt (hfr.1 98 (by decide)).1
                    have b99 := congrArg Int32.toInt (hfr.1 99 (by decide)).1
                    have b100 := congrArg Int32.toInt (hfr.1 100 (by decide)).1
                    refine s_X12_unlocks hI z2 ((hN.fr hfr (by decide) (by decide)).le (by omega)) (by omega) (fun z36 σ35 hI fz36 pz36 => ?_)
                    have hfr := hfr.tr fz36 (by decide) (by decide)
                    (try dsimp only)
                    exact kk z36 σ35 hI hfr (by first | exact Or.inl Sub.rf | (rw [hs] at pz34; exact Or.inr pz34) | (rw [hs] at pz36; exact Or.inl pz36) | (rw [hs]; exact Or.inl Sub.rf))
                · exact kk 3221225485 σ25 hI hfr (by first | exact Or.inl Sub.rf | (rw [hs] at pz34; exact Or.inr pz34) | (rw [hs] at pz36; exact Or.inl pz36) | (rw [hs]; exact Or.inl Sub.rf))
              · intro z37 ez37
                try have hz37 := i_mulk 24 rfl ez37 (by omega) (by omega)
                have rg_z37 := i_range z37
                intro z38 ez38
                try have hz38 := i_add ez38 (by omega) (by omega)
                have rg_z38 := i_range z38
                refine s_X12_number hI z38 8 (by omega) ((hN.fr hfr (by decide) (by decide)).le (by omega)) (fun z40 pz40 => ?_)
                intro z41 ez41
                try have hz41 := i_mulk 24 rfl ez41 (by omega) (by omega)
                have rg_z41 := i_range z41
                intro z42 ez42
                try have hz42 := i_add ez42 (by omega) (by omega)
                have rg_z42 := i_range z42
                refine s_X12_number hI z42 8 (by omega) ((hN.fr hfr (by decide) (by decide)).le (by omega)) (fun z44 pz44 => ?_)
                intro z45 ez45
                try have hz45 := i_mulk 24 rfl ez45 (by omega) (by omega)
                have rg_z45 := i_range z45
                intro z46 ez46
                try have hz46 := i_add ez46 (by omega) (by omega)
                have rg_z46 := i_range z46
                refine s_X12_number hI z46 4 (by omega) ((hN.fr hfr (by decide) (by decide)).le (by omega)) (fun z48 pz48 => ?_)
                have tz48 : z48.toInt = (NUM h0 L σ25 z46.toInt 4 : Int) ∧ z48.toInt < 4294967296 := num_t (n := 4) (K := 4294967296) pz48 rfl (by decide)
                refine jn_in (fun (x : Int32) (σ' : HS) => OKM h0 L σ' ∧ Fr h0 L [62, 63, 69, 91, 109] [27, 28, 46, 56, 57, 58, 59, 60, 61, 62, 63, 64, 65, 66, 67, 68, 69, 70, 71, 72, 73, 74, 75, 76] σ σ' ∧ ((0 ≤ x.toInt ∧ x.toInt ≤ 1)) ∧ (σ' = σ)) (fun x49 σ50 hJ => ?_) (fun K51 hK51 => ?_)
                · obtain ⟨hI, hfr, hv, hs⟩ := hJ
                  (try dsimp only at hv)
                  have rg_x49 := i_range x49
                  refine jn_dup ?_
                  refine jn_dup ?_
                  refine ⟨fun c9 => ?_, fun c9 => ?_⟩
                  · (try dsimp only)
                    (try dsimp only)
                    intro z59 ez59
                    try have hz59 := i_add ez59 (by omega) (by omega)
                    have rg_z59 := i_range z59
                    exact hK26 (z59, 0) σ50 ⟨hI, hfr, (by (try dsimp only); omega), (by first | rfl | exact hs)⟩ (by (try dsimp only); omega)
                  · refine jn_dup ?_
                    refine ⟨fun c10 => ?_, fun c10 => ?_⟩
                    · refine ⟨fun c11 => ?_, fun c11 => ?_⟩
                      · (try dsimp only)
                        (try dsimp only)
                        intro z59 ez59
                        try have hz59 := i_add ez59 (by omega) (by omega)
                        have rg_z59 := i_range z59
                        exact hK26 (z59, 1) σ50 ⟨hI, hfr, (by (try dsimp only); omega), (by first | rfl | exact hs)⟩ (by (try dsimp only); omega)
                      · refine ⟨fun c12 => ?_, fun c12 => ?_⟩
                        · (try dsimp only)
                          (try dsimp only)
                          intro z59 ez59
                          try have hz59 := i_add ez59 (by omega) (by omega)
                          have rg_z59 := i_range z59
                          exact hK26 (z59, 1) σ50 ⟨hI, hfr, (by (try dsimp only); omega), (by first | rfl | exact hs)⟩ (by (try dsimp only); omega)
                        · refine ⟨fun c13 => ?_, fun c13 => ?_⟩
                          · (try dsimp only)
                            (try dsimp only)
                            intro z59 ez59
                            try have hz59 := i_add ez59 (by omega) (by omega)
                            have rg_z59 := i_range z59
                            exact hK26 (z59, 0) σ50 ⟨hI, hfr, (by (try dsimp only); omega), (by first | rfl | exact hs)⟩ (by (try dsimp only); omega)
                          · refine ⟨fun c14 => ?_, fun c14 => ?_⟩
                            · (try dsimp only)
                              (try dsimp only)
                              intro z59 ez59
                              try have hz59 := i_add ez59 (by omega) (by omega)
                              have rg_z59 := i_range z59
                              exact hK26 (z59, 1) σ50 ⟨hI, hfr, (by (try dsimp only); omega), (by first | rfl | exact hs)⟩ (by (try dsimp only); omega)
                            · refine ⟨fun c15 => ?_, fun c15 => ?_⟩
                              · (try dsimp only)
                                (try dsimp only)
                                intro z59 ez59
                                try have hz59 := i_add ez59 (by omega) (by omega)
                                have rg_z59 := i_range z59
                                exact hK26 (z59, 0) σ50 ⟨hI, hfr, (by (try dsimp only); omega), (by first | rfl | exact hs)⟩ (by (try dsimp only); omega)
                              · (try dsimp only)
                                (try dsimp only)
                                intro z59 ez59
                                try have hz59 := i_add ez59 (by omega) (by omega)
                                have rg_z59 := i_range z59
                                exact hK26 (z59, 1) σ50 ⟨hI, hfr, (by (try dsimp only); omega), (by first | rfl | exact hs)⟩ (by (try dsimp only); omega)
                    · refine ⟨fun c16 => ?_, fun c16 => ?_⟩
                      · (try dsimp only)
                        (try dsimp only)
                        intro z59 ez59
                        try have hz59 := i_add ez59 (by omega) (by omega)
                        have rg_z59 := i_range z59
                        exact hK26 (z59, 0) σ50 ⟨hI, hfr, (by (try dsimp only); omega), (by first | rfl | exact hs)⟩ (by (try dsimp only); omega)
                      · (try dsimp only)
                        (try dsimp only)
                        intro z59 ez59
                        try have hz59 := i_add ez59 (by omega) (by omega)
                        have rg_z59 := i_range z59
                        exact hK26 (z59, 1) σ50 ⟨hI, hfr, (by (try dsimp only); omega), (by first | rfl | exact hs)⟩ (by (try dsimp only); omega)
                · skip
                  refine jn_dup ?_
                  refine ⟨fun c17 => ?_, fun c17 => ?_⟩
                  · (try dsimp only)
                    exact hK51 0 σ25 ⟨hI, hfr, (by (try dsimp only); omega), (by first | rfl | exact hs)⟩
                  · refine jn_dup ?_
                    refine ⟨fun c18 => ?_, fun c18 => ?_⟩
                    · (try dsimp only)
                      exact hK51 1 σ25 ⟨hI, hfr, (by (try dsimp only); omega), (by first | rfl | exact hs)⟩
                    · intro z80 ez80
                      try have hz80 := l_add ez80 (by omega) (by omega)
                      have rg_z80 := l_range z80
                      intro z81 ez81
                      try have hz81 := l_sub ez81 (by omega) (by omega)
                      have rg_z81 := l_range z81
                      refine s_X12_isLess hI z81 z40  (fun z83 pz83 => ?_)
                      have rg_z83 := i_range z83
                      refine ⟨fun c19 => ?_, fun c19 => ?_⟩
                      · (try dsimp only)
                        exact hK51 0 σ25 ⟨hI, hfr, (by (try dsimp only); omega), (by first | rfl | exact hs)⟩
                      · (try dsimp only)
                        exact hK51 1 σ25 ⟨hI, hfr, (by (try dsimp only); omega), (by first | rfl | exact hs)⟩
            · skip
              refine ⟨fun c20 => ?_, fun c20 => ?_⟩
              · exact hK21 0 σ ⟨hI, hfr, (by (try dsimp only); omega), (by first | rfl | exact hs)⟩
              · exact hK21 1 σ ⟨hI, hfr, (by (try dsimp only); omega), (by first | rfl | exact hs)⟩
          · exact kk 3221225506 σ hI hfr (by first | exact Or.inl Sub.rf | (rw [hs] at pz34; exact Or.inr pz34) | (rw [hs] at pz36; exact Or.inl pz36) | (rw [hs]; exact Or.inl Sub.rf))
        · exact kk 3221225658 σ hI hfr (by first | exact Or.inl Sub.rf | (rw [hs] at pz34; exact Or.inr pz34) | (rw [hs] at pz36; exact Or.inl pz36) | (rw [hs]; exact Or.inl Sub.rf))
      · (try dsimp only)
        exact kk 3221225485 σ hI hfr (by first | exact Or.inl Sub.rf | (rw [hs] at pz34; exact Or.inr pz34) | (rw [hs] at pz36; exact Or.inl pz36) | (rw [hs]; exact Or.inl Sub.rf))

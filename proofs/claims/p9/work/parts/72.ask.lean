/-! what is asked of a file -/
set_option maxRecDepth 100000 in
set_option maxHeartbeats 4000000 in
theorem s_X12_ask {h0 : Nat} {L : Nat → Nat} {σ : HS} (hI : OKM h0 L σ)  (hN : InM h0 L σ (sI σ h0 87).toInt) (hz : 104 ≤ (sI σ h0 87).toInt ∧ 0 ≤ (sI σ h0 100).toInt) {post : Int64 → HS → Prop} (kk : ∀ (r : Int64) (σ' : HS), OKM h0 L σ' → Fr h0 L [91] [76] σ σ' → (True) → post r σ') : F_X12_ask h0 L  post σ := by
  unfold F_X12_ask
  have k_0 : (0 : Int32).toInt = 0 := rfl
  have k_1 : (1 : Int32).toInt = 1 := rfl
  have k_2 : (2 : Int32).toInt = 2 := rfl
  have k_3 : (3 : Int32).toInt = 3 := rfl
  have k_4 : (4 : Int32).toInt = 4 := rfl
  have k_5 : (5 : Int32).toInt = 5 := rfl
  have k_8 : (8 : Int32).toInt = 8 := rfl
  have k_18 : (18 : Int32).toInt = 18 := rfl
  have k_24 : (24 : Int32).toInt = 24 := rfl
  have k_40 : (40 : Int32).toInt = 40 := rfl
  have k_64 : (64 : Int32).toInt = 64 := rfl
  have k_66 : (66 : Int32).toInt = 66 := rfl
  have k_67 : (67 : Int32).toInt = 67 := rfl
  have k_68 : (68 : Int32).toInt = 68 := rfl
  have k_72 : (72 : Int32).toInt = 72 := rfl
  have k_80 : (80 : Int32).toInt = 80 := rfl
  have k_88 : (88 : Int32).toInt = 88 := rfl
  have k_92 : (92 : Int32).toInt = 92 := rfl
  have k_112 : (112 : Int32).toInt = 112 := rfl
  have k_128 : (128 : Int32).toInt = 128 := rfl
  have k_136 : (136 : Int32).toInt = 136 := rfl
  have k_148 : (148 : Int32).toInt = 148 := rfl
  have kl_0 : (0 : Int64).toInt = 0 := rfl
  have kl_1 : (1 : Int64).toInt = 1 := rfl
  have kl_9 : (9 : Int64).toInt = 9 := rfl
  have kl_72 : (72 : Int64).toInt = 72 := rfl
  have kl_80 : (80 : Int64).toInt = 80 := rfl
  have kl_512 : (512 : Int64).toInt = 512 := rfl
  have kl_3221225475 : (3221225475 : Int64).toInt = 3221225475 := rfl
  have kl_3221225476 : (3221225476 : Int64).toInt = 3221225476 := rfl
  have kl_3221225506 : (3221225506 : Int64).toInt = 3221225506 := rfl
  have hfr : Fr h0 L [91] [76] σ σ := Fr.rf
  have h87 : (0 : Int) ≤ (sI σ h0 87).toInt ∧ (sI σ h0 87).toInt ≤ 4000 := hI.fI 87 0 4000 (by decide) rfl rfl rfl rfl
  refine s_X12_number1 hI 66 (by omega) ((hN.fr hfr (by decide) (by decide)).le (by omega)) (fun z2 pz2 => ?_)
  have rg_z2 := i_range z2
  refine s_X12_number1 hI 67 (by omega) ((hN.fr hfr (by decide) (by decide)).le (by omega)) (fun z4 pz4 => ?_)
  have rg_z4 := i_range z4
  refine s_X12_number hI 68 4 (by omega) ((hN.fr hfr (by decide) (by decide)).le (by omega)) (fun z6 pz6 => ?_)
  have tz6 : z6.toInt = (NUM h0 L σ 68 4 : Int) ∧ z6.toInt < 4294967296 := num_t (n := 4) (K := 4294967296) pz6 rfl (by decide)
  intro z7 ez7
  have vz7 := hI.fI 100 (-1) 39 (by decide) rfl rfl rfl ez7
  have wz7 : z7.toInt = (sI σ h0 100).toInt := by rw [ez7, (hfr.1 100 (by decide)).1]
  refine ⟨by omega, ?_⟩
  intro z8 ez8
  have vz8 := hI.aI 43 40 0 79 (by decide) (by decide) rfl rfl rfl (i := z7.toInt) (by omega) ez8
  have wz8 : z8.toInt = (sI σ (L 43) z7.toInt.toNat).toInt := by rw [ez8, (hfr.2.1 43 (by decide) (by decide) _).1]
  refine jn_in (fun (x : Int32) (σ' : HS) => OKM h0 L σ' ∧ Fr h0 L [91] [76] σ σ' ∧ ((0 ≤ x.toInt ∧ x.toInt ≤ 1))) (fun x9 σ10 hJ => ?_) (fun K11 hK11 => ?_)
  · obtain ⟨hI, hfr, hv⟩ := hJ
    (try dsimp only at hv)
    have rg_x9 := i_range x9
    refine jn_in (fun (x : Unit) (σ' : HS) => OKM h0 L σ' ∧ Fr h0 L [91] [76] σ σ' ∧ (True)) (fun x14 σ15 hJ => ?_) (fun K16 hK16 => ?_)
    · obtain ⟨hI, hfr, hv⟩ := hJ
      (try dsimp only at hv)
      refine jn_in (fun (x : Unit) (σ' : HS) => OKM h0 L σ' ∧ Fr h0 L [91] [76] σ σ' ∧ (True)) (fun x19 σ20 hJ => ?_) (fun K21 hK21 => ?_)
      · obtain ⟨hI, hfr, hv⟩ := hJ
        (try dsimp only at hv)
        refine jn_in (fun (x : Int32) (σ' : HS) => OKM h0 L σ' ∧ Fr h0 L [91] [76] σ σ' ∧ ((24 ≤ x.toInt ∧ x.toInt ≤ 80))) (fun x24 σ25 hJ => ?_) (fun K26 hK26 => ?_)
        · obtain ⟨hI, hfr, hv⟩ := hJ
          (try dsimp only at hv)
          have rg_x24 := i_range x24
          intro z29 ez29
          have hz29 := i_tol ez29
          have rg_z29 := l_range z29
          refine ⟨fun c1 => ?_, fun c1 => ?_⟩
          · intro z30 ez30
            try have hz30 := i_add ez30 (by omega) (by omega)
            have rg_z30 := i_range z30
            refine s_X12_body hI z30 (by omega) (fun σ31 hI fz32 pz32 => ?_)
            have hfr := hfr.tr fz32 (by decide) (by decide)
            refine s_X12_set hI 64 2 9 (by omega) (fun σ33 hI fz34 pz34 => ?_)
            have hfr := hfr.tr fz34 (by decide) (by decide)
            refine s_X12_set hI 66 2 72 (by omega) (fun σ35 hI fz36 pz36 => ?_)
            have hfr := hfr.tr fz36 (by decide) (by decide)
            intro z37 ez37
            have hz37 := i_tol ez37
            have rg_z37 := l_range z37
            refine s_X12_set hI 68 4 z37 (by omega) (fun σ38 hI fz39 pz39 => ?_)
            have hfr := hfr.tr fz39 (by decide) (by decide)
            refine jn_dup ?_
            refine ⟨fun c2 => ?_, fun c2 => ?_⟩
            · refine ⟨fun c3 => ?_, fun c3 => ?_⟩
              · refine s_X12_basic hI 72 z8 (by omega) (fun σ45 hI fz46 pz46 => ?_)
                have hfr := hfr.tr fz46 (by decide) (by decide)
                refine ⟨fun c4 => ?_, fun c4 => ?_⟩
                · (try dsimp only)
                  exact kk 0 σ45 hI hfr trivial
                · refine s_X12_standard hI 112 z8 (by omega) (fun σ47 hI fz48 pz48 => ?_)
                  have hfr := hfr.tr fz48 (by decide) (by decide)
                  intro z49 ez49
                  have hz49 := i_tol ez49
                  have rg_z49 := l_range z49
                  refine s_X12_set hI 136 8 z49 (by omega) (fun σ50 hI fz51 pz51 => ?_)
                  have hfr := hfr.tr fz51 (by decide) (by decide)
                  intro z52 ez52
                  have vz52 := hI.fI 100 (-1) 39 (by decide) rfl rfl rfl ez52
                  have wz52 : z52.toInt = (sI σ h0 100).toInt := by rw [ez52, (hfr.1 100 (by decide)).1]
                  refine ⟨by omega, ?_⟩
                  intro z53 ez53
                  have vz53 := hI.aI 44 40 (-2147483648) 2147483647 (by decide) (by decide) rfl rfl rfl (i := z52.toInt) (by omega) ez53
                  have wz53 : z53.toInt = (sI σ (L 44) z52.toInt.toNat).toInt := by rw [ez53, (hfr.2.1 44 (by decide) (by decide) _).1]
                  intro z54 ez54
                  have hz54 := i_tol ez54
                  have rg_z54 := l_range z54
                  refine s_X12_set hI 148 4 z54 (by omega) (fun σ55 hI fz56 pz56 => ?_)
                  have hfr := hfr.tr fz56 (by decide) (by decide)
                  (try dsimp only)
                  exact kk 0 σ55 hI hfr trivial
              · refine s_X12_standard hI 72 z8 (by omega) (fun σ57 hI fz58 pz58 => ?_)
                have hfr := hfr.tr fz58 (by decide) (by decide)
                (try dsimp only)
                exact kk 0 σ57 hI hfr trivial
            · refine s_X12_set hI 72 8 80 (by omega) (fun σ59 hI fz60 pz60 => ?_)
              have hfr := hfr.tr fz60 (by decide) (by decide)
              refine s_X12_nodes hI 0 (by omega) (fun z62 pz62 => ?_)
              have rg_z62 := i_range z62
              intro z63 ez63
              try have hz63 := i_sub ez63 (by omega) (by omega)
              have rg_z63 := i_range z63
              intro z64 ez64
              have hz64 := i_tol ez64
              have rg_z64 := l_range z64
              refine s_X12_set hI 80 8 z64 (by omega) (fun σ65 hI fz66 pz66 => ?_)
              have hfr := hfr.tr fz66 (by decide) (by decide)
              refine s_X12_set hI 88 4 1 (by omega) (fun σ67 hI fz68 pz68 => ?_)
              have hfr := hfr.tr fz68 (by decide) (by decide)
              refine s_X12_set hI 92 4 512 (by omega) (fun σ69 hI fz70 pz70 => ?_)
              have hfr := hfr.tr fz70 (by decide) (by decide)
              (try dsimp only)
              exact kk 0 σ69 hI hfr trivial
          · exact kk 3221225476 σ25 hI hfr trivial
        · skip
          refine ⟨fun c5 => ?_, fun c5 => ?_⟩
          · refine ⟨fun c6 => ?_, fun c6 => ?_⟩
            · refine ⟨fun c7 => ?_, fun c7 => ?_⟩
              · exact hK26 80 σ20 ⟨hI, hfr, (by (try dsimp only); omega)⟩
              · exact hK26 24 σ20 ⟨hI, hfr, (by (try dsimp only); omega)⟩
            · exact hK26 40 σ20 ⟨hI, hfr, (by (try dsimp only); omega)⟩
          · exact hK26 24 σ20 ⟨hI, hfr, (by (try dsimp only); omega)⟩
      · skip
        refine ⟨fun c8 => ?_, fun c8 => ?_⟩
        · exact hK21 () σ15 ⟨hI, hfr, trivial⟩
        · intro z71 ez71
          have vz71 := hI.fI 100 (-1) 39 (by decide) rfl rfl rfl ez71
          have wz71 : z71.toInt = (sI σ h0 100).toInt := by rw [ez71, (hfr.1 100 (by decide)).1]
          refine ⟨by omega, ?_⟩
          intro z72 ez72
          have vz72 := hI.aI 44 40 (-2147483648) 2147483647 (by decide) (by decide) rfl rfl rfl (i := z71.toInt) (by omega) ez72
          have wz72 : z72.toInt = (sI σ (L 44) z71.toInt.toNat).toInt := by rw [ez72, (hfr.2.1 44 (by decide) (by decide) _).1]
          intro z73 ez73
          try have hz73 := i_and ez73 (by omega)
          have rg_z73 := i_range z73
          refine ⟨fun c9 => ?_, fun c9 => ?_⟩
          · exact hK21 () σ15 ⟨hI, hfr, trivial⟩
          · exact kk 3221225506 σ15 hI hfr trivial
    · skip
      refine ⟨fun c10 => ?_, fun c10 => ?_⟩
      · exact hK16 () σ10 ⟨hI, hfr, trivial⟩
      · refine jn_dup ?_
        refine ⟨fun c11 => ?_, fun c11 => ?_⟩
        · (try dsimp only)
          exact kk 3221225475 σ10 hI hfr trivial
        · refine ⟨fun c12 => ?_, fun c12 => ?_⟩
          · exact hK16 () σ10 ⟨hI, hfr, trivial⟩
          · (try dsimp only)
            exact kk 3221225475 σ10 hI hfr trivial
  · skip
    refine jn_dup ?_
    refine ⟨fun c13 => ?_, fun c13 => ?_⟩
    · (try dsimp only)
      exact hK11 0 σ ⟨hI, hfr, (by (try dsimp only); omega)⟩
    · refine jn_dup ?_
      refine ⟨fun c14 => ?_, fun c14 => ?_⟩
      · (try dsimp only)
        exact hK11 1 σ ⟨hI, hfr, (by (try dsimp only); omega)⟩
      · refine ⟨fun c15 => ?_, fun c15 => ?_⟩
        · (try dsimp only)
          exact hK11 1 σ ⟨hI, hfr, (by (try dsimp only); omega)⟩
        · refine ⟨fun c16 => ?_, fun c16 => ?_⟩
          · (try dsimp only)
            exact hK11 0 σ ⟨hI, hfr, (by (try dsimp only); omega)⟩
          · (try dsimp only)
            exact hK11 1 σ ⟨hI, hfr, (by (try dsimp only); omega)⟩

/-! a request, a message -/
set_option maxRecDepth 100000 in
set_option maxHeartbeats 4000000 in
theorem s_X12_request {h0 : Nat} {L : Nat → Nat} {σ : HS} (hI : OKM h0 L σ) (a1 : Int32) (a2 : Int64) {B : Int} (hG : GI h0 L B σ) (hN : InM h0 L σ (sI σ h0 87).toInt) (p85 : sP σ h0 85 = some (L 29)) (hB : B < 4611686018427387904) (hz : 64 ≤ (sI σ h0 87).toInt ∧ 0 ≤ a1.toInt ∧ a1.toInt < 6) {post : HS → Prop} (kk : ∀ (σ' : HS), OKM h0 L σ' → Fr h0 L [16, 59, 60, 61, 62, 63, 69, 90, 91, 96, 97, 98, 99, 100, 101, 102, 103, 104, 105, 106, 107, 108, 109, 111, 115, 116, 117, 118, 119] [1, 2, 3, 4, 5, 6, 7, 8, 9, 10, 14, 15, 16, 17, 18, 19, 20, 21, 22, 23, 24, 26, 27, 28, 31, 32, 33, 34, 35, 36, 37, 38, 39, 40, 41, 42, 43, 44, 45, 46, 47, 48, 49, 50, 51, 52, 53, 54, 55, 56, 57, 58, 59, 60, 61, 62, 63, 64, 65, 66, 67, 68, 69, 70, 71, 72, 73, 74, 75, 76, 77, 78, 79] σ σ' → (GI h0 L (B + 1) σ' ∧ ((sI σ' h0 90).toInt = (sI σ h0 90).toInt)) → post σ') : F_X12_request h0 L a1 a2 post σ := by
  unfold F_X12_request
  have k_0 : (0 : Int32).toInt = 0 := rfl
  have k_1 : (1 : Int32).toInt = 1 := rfl
  have k_2 : (2 : Int32).toInt = 2 := rfl
  have k_4 : (4 : Int32).toInt = 4 := rfl
  have k_5 : (5 : Int32).toInt = 5 := rfl
  have k_6 : (6 : Int32).toInt = 6 := rfl
  have k_8 : (8 : Int32).toInt = 8 := rfl
  have k_9 : (9 : Int32).toInt = 9 := rfl
  have k_12 : (12 : Int32).toInt = 12 := rfl
  have k_14 : (14 : Int32).toInt = 14 := rfl
  have k_32 : (32 : Int32).toInt = 32 := rfl
  have k_36 : (36 : Int32).toInt = 36 := rfl
  have k_40 : (40 : Int32).toInt = 40 := rfl
  have k_64 : (64 : Int32).toInt = 64 := rfl
  have kl_0 : (0 : Int64).toInt = 0 := rfl
  have kl_1 : (1 : Int64).toInt = 1 := rfl
  have kl_2 : (2 : Int64).toInt = 2 := rfl
  have kl_4 : (4 : Int64).toInt = 4 := rfl
  have kl_9 : (9 : Int64).toInt = 9 := rfl
  have kl_32 : (32 : Int64).toInt = 32 := rfl
  have rg_a1 := i_range a1
  have rg_a2 := l_range a2
  have hfr : Fr h0 L [16, 59, 60, 61, 62, 63, 69, 90, 91, 96, 97, 98, 99, 100, 101, 102, 103, 104, 105, 106, 107, 108, 109, 111, 115, 116, 117, 118, 119] [1, 2, 3, 4, 5, 6, 7, 8, 9, 10, 14, 15, 16, 17, 18, 19, 20, 21, 22, 23, 24, 26, 27, 28, 31, 32, 33, 34, 35, 36, 37, 38, 39, 40, 41, 42, 43, 44, 45, 46, 47, 48, 49, 50, 51, 52, 53, 54, 55, 56, 57, 58, 59, 60, 61, 62, 63, 64, 65, 66, 67, 68, 69, 70, 71, 72, 73, 74, 75, 76, 77, 78, 79] σ σ := Fr.rf
  have h87 : (0 : Int) ≤ (sI σ h0 87).toInt ∧ (sI σ h0 87).toInt ≤ 4000 := hI.fI 87 0 4000 (by decide) rfl rfl rfl rfl
  refine s_X12_number2 hI 6 (by omega) ((hN.fr hfr (by decide) (by decide)).le (by omega)) (fun z2 pz2 => ?_)
  have tz2 : z2.toInt = (NUM h0 L σ 6 2 : Int) := pz2.1
  have rg_z2 := i_range z2
  refine s_X12_number2 hI 14 (by omega) ((hN.fr hfr (by decide) (by decide)).le (by omega)) (fun z4 pz4 => ?_)
  have tz4 : z4.toInt = (NUM h0 L σ 14 2 : Int) := pz4.1
  have rg_z4 := i_range z4
  intro z5 ez5
  have vz5 := hI.fI 94 0 1 (by decide) rfl rfl rfl ez5
  have wz5 : z5.toInt = (sI σ h0 94).toInt := by rw [ez5, (hfr.1 94 (by decide)).1]
  refine jn_in (fun (x : Int64) (σ' : HS) => σ = σ' ∧ (True)) (fun x6 σ7 hJ => ?_) (fun K8 hK8 => ?_)
  · obtain ⟨hsg, hv⟩ := hJ
    subst hsg
    (try dsimp only at hv)
    have rg_x6 := l_range x6
    intro σ11 eσ11
    have hMp := hI.2
    have hI := hI.pJ eσ11
    have hfr := hfr.fJ hMp eσ11 (by decide) rfl
    have f1σ11 : Fr h0 L [96] [] σ σ11 := Fr.rf.fJ hMp eσ11 (by decide) rfl
    have tk1 : (sI σ11 h0 90).toInt = (sI σ h0 90).toInt := by rw [(f1σ11.1 90 (by decide)).1]
    have tk2 : (sI σ11 h0 16).toInt = (sI σ h0 16).toInt := by rw [(f1σ11.1 16 (by decide)).1]
    have hG := hG.fr f1σ11 (by decide) (by decide)
    intro z12 ez12
    have vz12 := hI.fI 94 0 1 (by decide) rfl rfl rfl ez12
    have wz12 : z12.toInt = (sI σ h0 94).toInt := by rw [ez12, (hfr.1 94 (by decide)).1]
    refine jn_in (fun (x : Int64) (σ' : HS) => σ11 = σ' ∧ (True)) (fun x13 σ14 hJ => ?_) (fun K15 hK15 => ?_)
    · obtain ⟨hsg, hv⟩ := hJ
      subst hsg
      (try dsimp only at hv)
      have rg_x13 := l_range x13
      intro σ18 eσ18
      have hMp := hI.2
      have hI := hI.pJ eσ18
      have hfr := hfr.fJ hMp eσ18 (by decide) rfl
      have f1σ18 : Fr h0 L [97] [] σ11 σ18 := Fr.rf.fJ hMp eσ18 (by decide) rfl
      have tk3 : (sI σ18 h0 90).toInt = (sI σ11 h0 90).toInt := by rw [(f1σ18.1 90 (by decide)).1]
      have tk4 : (sI σ18 h0 16).toInt = (sI σ11 h0 16).toInt := by rw [(f1σ18.1 16 (by decide)).1]
      have hG := hG.fr f1σ18 (by decide) (by decide)
      refine s_X12_number hI 32 4 (by omega) ((hN.fr hfr (by decide) (by decide)).le (by omega)) (fun z20 pz20 => ?_)
      have tz20 : z20.toInt = (NUM h0 L σ18 32 4 : Int) ∧ z20.toInt < 4294967296 := num_t (n := 4) (K := 4294967296) pz20 rfl (by decide)
      refine ⟨by omega, ?_⟩
      intro σ21 eσ21
      have hMp := hI.2
      have hI := hI.pF 103 0 1 rfl rfl (by omega) eσ21
      have hfr := hfr.fI hMp eσ21 (by decide) rfl
      have uσ21 : (sI σ21 h0 103).toInt = (0 : Int32).toInt := by rw [eσ21]; exact congrArg Int32.toInt u2_same
      have f1σ21 : Fr h0 L [103] [] σ18 σ21 := Fr.rf.fI hMp eσ21 (by decide) rfl
      have tk5 : (sI σ21 h0 90).toInt = (sI σ18 h0 90).toInt := by rw [(f1σ21.1 90 (by decide)).1]
      have tk6 : (sI σ21 h0 16).toInt = (sI σ18 h0 16).toInt := by rw [(f1σ21.1 16 (by decide)).1]
      have hG := hG.fr f1σ21 (by decide) (by decide)
      intro σ22 eσ22
      have hMp := hI.2
      have hI := hI.pJ eσ22
      have hfr := hfr.fJ hMp eσ22 (by decide) rfl
      have f1σ22 : Fr h0 L [111] [] σ21 σ22 := Fr.rf.fJ hMp eσ22 (by decide) rfl
      have tk7 : (sI σ22 h0 90).toInt = (sI σ21 h0 90).toInt := by rw [(f1σ22.1 90 (by decide)).1]
      have tk8 : (sI σ22 h0 16).toInt = (sI σ21 h0 16).toInt := by rw [(f1σ22.1 16 (by decide)).1]
      have hG := hG.fr f1σ22 (by decide) (by decide)
      refine ⟨by omega, ?_⟩
      intro σ23 eσ23
      have hMp := hI.2
      have hI := hI.pF 109 0 1 rfl rfl (by omega) eσ23
      have hfr := hfr.fI hMp eσ23 (by decide) rfl
      have uσ23 : (sI σ23 h0 109).toInt = (0 : Int32).toInt := by rw [eσ23]; exact congrArg Int32.toInt u2_same
      have f1σ23 : Fr h0 L [109] [] σ22 σ23 := Fr.rf.fI hMp eσ23 (by decide) rfl
      have tk9 : (sI σ23 h0 90).toInt = (sI σ22 h0 90).toInt := by rw [(f1σ23.1 90 (by decide)).1]
      have tk10 : (sI σ23 h0 16).toInt = (sI σ22 h0 16).toInt := by rw [(f1σ23.1 16 (by decide)).1]
      have hG := hG.fr f1σ23 (by decide) (by decide)
      intro z24 ez24
      have vz24 := hI.fI 93 0 65535 (by decide) rfl rfl rfl ez24
      have wz24 : z24.toInt = (sI σ h0 93).toInt := by rw [ez24, (hfr.1 93 (by decide)).1]
      refine ⟨fun c1 => ?_, fun c1 => ?_⟩
      · intro z25 ez25
        have vz25 := hI.fI 93 0 65535 (by decide) rfl rfl rfl ez25
        have wz25 : z25.toInt = (sI σ h0 93).toInt := by rw [ez25, (hfr.1 93 (by decide)).1]
        intro z26 ez26
        have vz26 := hI.fI 94 0 1 (by decide) rfl rfl rfl ez26
        have wz26 : z26.toInt = (sI σ h0 94).toInt := by rw [ez26, (hfr.1 94 (by decide)).1]
        intro z27 ez27
        have vz27 := hI.fI 90 0 85000 (by decide) rfl rfl rfl ez27
        have wz27 : z27.toInt = (sI σ23 h0 90).toInt := by rw [ez27]
        intro σ28 eσ28
        have hMp := hI.2
        have hI := hI.pF 91 0 1200 rfl rfl (by omega) eσ28
        have hfr := hfr.fI hMp eσ28 (by decide) rfl
        have uσ28 : (sI σ28 h0 91).toInt = (64 : Int32).toInt := by rw [eσ28]; exact congrArg Int32.toInt u2_same
        have f1σ28 : Fr h0 L [91] [] σ23 σ28 := Fr.rf.fI hMp eσ28 (by decide) rfl
        have tk11 : (sI σ28 h0 90).toInt = (sI σ23 h0 90).toInt := by rw [(f1σ28.1 90 (by decide)).1]
        have tk12 : (sI σ28 h0 16).toInt = (sI σ23 h0 16).toInt := by rw [(f1σ28.1 16 (by decide)).1]
        have hG := hG.fr f1σ28 (by decide) (by decide)
        have hIp := hI
        have b87 := congrArg Int32.toInt (hfr.1 87 (by decide)).1
        have b93 := congrArg Int32.toInt (hfr.1 93 (by decide)).1
        refine s_X12_does hI  hG (by rw [(hfr.1 87 (by decide)).1]; exact hN.fr hfr (by decide) (by decide)) (by rw [(hfr.1 85 (by decide)).2.2]; exact p85) hB (by omega) (fun z30 σ29 hI fz30 pz30 => ?_)
        have hfr := hfr.tr fz30 (by decide) (by decide)
        have hG := pz30
        intro z31 ez31
        have wz31 : z31.toInt = (sJ σ29 h0 96).toInt := by rw [ez31]
        have vz31 := l_range z31
        intro z32 ez32
        have wz32 : z32.toInt = (sJ σ29 h0 97).toInt := by rw [ez32]
        have vz32 := l_range z32
        intro σ33 eσ33
        have hMp := hI.2
        have hI := hI.pF 90 0 85000 rfl rfl (by omega) eσ33
        have hfr := hfr.fI hMp eσ33 (by decide) rfl
        have uσ33 : (sI σ33 h0 90).toInt = z27.toInt := by rw [eσ33]; exact congrArg Int32.toInt u2_same
        have f1σ33 : Fr h0 L [90] [] σ29 σ33 := Fr.rf.fI hMp eσ33 (by decide) rfl
        have tk16 : (sI σ33 h0 16).toInt = (sI σ29 h0 16).toInt := by rw [(f1σ33.1 16 (by decide)).1]
        have hG := hG.fr f1σ33 (by decide) (by decide)
        refine jn_in (fun (x : Unit) (σ' : HS) => OKM h0 L σ' ∧ Fr h0 L [16, 59, 60, 61, 62, 63, 69, 90, 91, 96, 97, 98, 99, 100, 101, 102, 103, 104, 105, 106, 107, 108, 109, 111, 115, 116, 117, 118, 119] [1, 2, 3, 4, 5, 6, 7, 8, 9, 10, 14, 15, 16, 17, 18, 19, 20, 21, 22, 23, 24, 26, 27, 28, 31, 32, 33, 34, 35, 36, 37, 38, 39, 40, 41, 42, 43, 44, 45, 46, 47, 48, 49, 50, 51, 52, 53, 54, 55, 56, 57, 58, 59, 60, 61, 62, 63, 64, 65, 66, 67, 68, 69, 70, 71, 72, 73, 74, 75, 76, 77, 78, 79] σ σ' ∧ (((sI σ' h0 90).toInt = (sI σ h0 90).toInt)) ∧ (GI h0 L (B + 1) σ')) (fun x34 σ35 hJ => ?_) (fun K36 hK36 => ?_)
        · obtain ⟨hI, hfr, hv, hG⟩ := hJ
          (try dsimp only at hv)
          have hIp := hI
          refine s_X12_grant hI a1 z4 (by omega) (fun z40 σ39 hI fz40 pz40 => ?_)
          have hfr := hfr.tr fz40 (by decide) (by decide)
          have tk17 : (sI σ39 h0 90).toInt = (sI σ35 h0 90).toInt := by rw [(fz40.1 90 (by decide)).1]
          have tk18 : (sI σ39 h0 16).toInt = (sI σ35 h0 16).toInt := by rw [(fz40.1 16 (by decide)).1]
          have rg_z40 := i_range z40
          have hG := hG.fr fz40 (by decide) (by decide)
          refine jn_in (fun (x : Int64) (σ' : HS) => σ39 = σ' ∧ ((0 ≤ x.toInt ∧ x.toInt ≤ 4))) (fun x41 σ42 hJ => ?_) (fun K43 hK43 => ?_)
          · obtain ⟨hsg, hv⟩ := hJ
            subst hsg
            (try dsimp only at hv)
            have rg_x41 := l_range x41
            intro z46 ez46
            have rg_z46 := l_range z46
            intro z47 ez47
            have vz47 := hI.fI 109 0 1 (by decide) rfl rfl rfl ez47
            have wz47 : z47.toInt = (sI σ39 h0 109).toInt := by rw [ez47]
            refine jn_in (fun (x : Int64) (σ' : HS) => σ39 = σ' ∧ ((0 ≤ x.toInt ∧ x.toInt ≤ 2))) (fun x48 σ49 hJ => ?_) (fun K50 hK50 => ?_)
            · obtain ⟨hsg, hv⟩ := hJ
              subst hsg
              (try dsimp only at hv)
              have rg_x48 := l_range x48
              intro z53 ez53
              have rg_z53 := l_range z53
              intro z54 ez54
              have vz54 := hI.fI 91 0 1200 (by decide) rfl rfl rfl ez54
              have wz54 : z54.toInt = (sI σ39 h0 91).toInt := by rw [ez54]
              intro z55 ez55
              have vz55 := hI.fI 109 0 1 (by decide) rfl rfl rfl ez55
              have wz55 : z55.toInt = (sI σ39 h0 109).toInt := by rw [ez55]
              refine jn_in (fun (x : Int64) (σ' : HS) => σ39 = σ' ∧ (True)) (fun x56 σ57 hJ => ?_) (fun K58 hK58 => ?_)
              · obtain ⟨hsg, hv⟩ := hJ
                subst hsg
                (try dsimp only at hv)
                have rg_x56 := l_range x56
                have hIp := hI
                refine s_X12_header hI z30 z25 z2 z40 z53 a2 x56 z31  (fun σ61 hI fz62 pz62 => ?_)
                have hfr := hfr.tr fz62 (by decide) (by decide)
                have tk19 : (sI σ61 h0 90).toInt = (sI σ39 h0 90).toInt := by rw [(fz62.1 90 (by decide)).1]
                have tk20 : (sI σ61 h0 16).toInt = (sI σ39 h0 16).toInt := by rw [(fz62.1 16 (by decide)).1]
                have hG := hG.fr fz62 (by decide) (by decide)
                intro σ63 eσ63
                have hMp := hI.2
                have hI := hI.pF 91 0 1200 rfl rfl (by omega) eσ63
                have hfr := hfr.fI hMp eσ63 (by decide) rfl
                have uσ63 : (sI σ63 h0 91).toInt = z54.toInt := by rw [eσ63]; exact congrArg Int32.toInt u2_same
                have f1σ63 : Fr h0 L [91] [] σ61 σ63 := Fr.rf.fI hMp eσ63 (by decide) rfl
                have tk21 : (sI σ63 h0 90).toInt = (sI σ61 h0 90).toInt := by rw [(f1σ63.1 90 (by decide)).1]
                have tk22 : (sI σ63 h0 16).toInt = (sI σ61 h0 16).toInt := by rw [(f1σ63.1 16 (by decide)).1]
                have hG := hG.fr f1σ63 (by decide) (by decide)
                intro σ64 eσ64
                have hMp := hI.2
                have hI := hI.pJ eσ64
                have hfr := hfr.fJ hMp eσ64 (by decide) rfl
                have f1σ64 : Fr h0 L [104] [] σ63 σ64 := Fr.rf.fJ hMp eσ64 (by decide) rfl
                have tk23 : (sI σ64 h0 90).toInt = (sI σ63 h0 90).toInt := by rw [(f1σ64.1 90 (by decide)).1]
                have tk24 : (sI σ64 h0 16).toInt = (sI σ63 h0 16).toInt := by rw [(f1σ64.1 16 (by decide)).1]
                have hG := hG.fr f1σ64 (by decide) (by decide)
                intro σ65 eσ65
                have hMp := hI.2
                have hI := hI.pJ eσ65
                have hfr := hfr.fJ hMp eσ65 (by decide) rfl
                have f1σ65 : Fr h0 L [105] [] σ64 σ65 := Fr.rf.fJ hMp eσ65 (by decide) rfl
                have tk25 : (sI σ65 h0 90).toInt = (sI σ64 h0 90).toInt := by rw [(f1σ65.1 90 (by decide)).1]
                have tk26 : (sI σ65 h0 16).toInt = (sI σ64 h0 16).toInt := by rw [(f1σ65.1 16 (by decide)).1]
                have hG := hG.fr f1σ65 (by decide) (by decide)
                refine jn_in (fun (x : Int32) (σ' : HS) => σ65 = σ' ∧ ((0 ≤ x.toInt ∧ x.toInt ≤ 1))) (fun x66 σ67 hJ => ?_) (fun K68 hK68 => ?_)
                · obtain ⟨hsg, hv⟩ := hJ
                  subst hsg
                  (try dsimp only at hv)
                  have rg_x66 := i_range x66
                  refine ⟨by omega, ?_⟩
                  intro σ71 eσ71
                  have hMp := hI.2
                  have hI := hI.pF 108 0 1 rfl rfl (by omega) eσ71
                  have hfr := hfr.fI hMp eσ71 (by decide) rfl
                  have uσ71 : (sI σ71 h0 108).toInt = x66.toInt := by rw [eσ71]; exact congrArg Int32.toInt u2_same
                  have f1σ71 : Fr h0 L [108] [] σ65 σ71 := Fr.rf.fI hMp eσ71 (by decide) rfl
                  have tk27 : (sI σ71 h0 90).toInt = (sI σ65 h0 90).toInt := by rw [(f1σ71.1 90 (by decide)).1]
                  have tk28 : (sI σ71 h0 16).toInt = (sI σ65 h0 16).toInt := by rw [(f1σ71.1 16 (by decide)).1]
                  have hG := hG.fr f1σ71 (by decide) (by decide)
                  refine jn_in (fun (x : Int64) (σ' : HS) => σ71 = σ' ∧ (True)) (fun x72 σ73 hJ => ?_) (fun K74 hK74 => ?_)
                  · obtain ⟨hsg, hv⟩ := hJ
                    subst hsg
                    (try dsimp only at hv)
                    have rg_x72 := l_range x72
                    intro σ77 eσ77
                    have hMp := hI.2
                    have hI := hI.pJ eσ77
                    have hfr := hfr.fJ hMp eσ77 (by decide) rfl
                    have f1σ77 : Fr h0 L [106] [] σ71 σ77 := Fr.rf.fJ hMp eσ77 (by decide) rfl
                    have tk29 : (sI σ77 h0 90).toInt = (sI σ71 h0 90).toInt := by rw [(f1σ77.1 90 (by decide)).1]
                    have tk30 : (sI σ77 h0 16).toInt = (sI σ71 h0 16).toInt := by rw [(f1σ77.1 16 (by decide)).1]
                    have hG := hG.fr f1σ77 (by decide) (by decide)
                    refine jn_dup ?_
                    refine ⟨fun c2 => ?_, fun c2 => ?_⟩
                    · intro z84 ez84
                      have wz84 : z84.toInt = (sJ σ77 h0 102).toInt := by rw [ez84]
                      have vz84 := l_range z84
                      (try dsimp only)
                      intro σ83 eσ83
                      have hMp := hI.2
                      have hI := hI.pJ eσ83
                      have hfr := hfr.fJ hMp eσ83 (by decide) rfl
                      have f1σ83 : Fr h0 L [107] [] σ77 σ83 := Fr.rf.fJ hMp eσ83 (by decide) rfl
                      have tk31 : (sI σ83 h0 90).toInt = (sI σ77 h0 90).toInt := by rw [(f1σ83.1 90 (by decide)).1]
                      have tk32 : (sI σ83 h0 16).toInt = (sI σ77 h0 16).toInt := by rw [(f1σ83.1 16 (by decide)).1]
                      have hG := hG.fr f1σ83 (by decide) (by decide)
                      exact kk σ83 hI hfr ⟨hG, by omega⟩
                    · intro z85 ez85
                      have wz85 : z85.toInt = (sJ σ77 h0 111).toInt := by rw [ez85]
                      have vz85 := l_range z85
                      (try dsimp only)
                      intro σ83 eσ83
                      have hMp := hI.2
                      have hI := hI.pJ eσ83
                      have hfr := hfr.fJ hMp eσ83 (by decide) rfl
                      have f1σ83 : Fr h0 L [107] [] σ77 σ83 := Fr.rf.fJ hMp eσ83 (by decide) rfl
                      have tk33 : (sI σ83 h0 90).toInt = (sI σ77 h0 90).toInt := by rw [(f1σ83.1 90 (by decide)).1]
                      have tk34 : (sI σ83 h0 16).toInt = (sI σ77 h0 16).toInt := by rw [(f1σ83.1 16 (by decide)).1]
                      have hG := hG.fr f1σ83 (by decide) (by decide)
                      exact kk σ83 hI hfr ⟨hG, by omega⟩
                  · skip
                    refine ⟨fun c3 => ?_, fun c3 => ?_⟩
                    · intro z86 ez86
                      have wz86 : z86.toInt = (sJ σ71 h0 101).toInt := by rw [ez86]
                      have vz86 := l_range z86
                      exact hK74 z86 σ71 ⟨rfl, trivial⟩
                    · intro z87 ez87
                      have wz87 : z87.toInt = (sJ σ71 h0 111).toInt := by rw [ez87]
                      have vz87 := l_range z87
                      exact hK74 z87 σ71 ⟨rfl, trivial⟩
                · skip
                  refine ⟨fun c4 => ?_, fun c4 => ?_⟩
                  · intro z88 ez88
                    have vz88 := hI.fI 103 0 1 (by decide) rfl rfl rfl ez88
                    have wz88 : z88.toInt = (sI σ65 h0 103).toInt := by rw [ez88]
                    exact hK68 z88 σ65 ⟨rfl, (by (try dsimp only); omega)⟩
                  · intro z89 ez89
                    have wz89 : z89.toInt = (sJ σ65 h0 111).toInt := by rw [ez89]
                    have vz89 := l_range z89
                    refine ⟨fun c5 => ?_, fun c5 => ?_⟩
                    · exact hK68 0 σ65 ⟨rfl, (by (try dsimp only); omega)⟩
                    · exact hK68 1 σ65 ⟨rfl, (by (try dsimp only); omega)⟩
              · skip
                refine ⟨fun c6 => ?_, fun c6 => ?_⟩
                · intro z90 ez90
                  have rg_z90 := l_range z90
                  intro z91 ez91
                  have rg_z91 := l_range z91
                  exact hK58 z91 σ39 ⟨rfl, trivial⟩
                · intro z92 ez92
                  have wz92 : z92.toInt = (sJ σ39 h0 62).toInt := by rw [ez92]
                  have vz92 := l_range z92
                  exact hK58 z92 σ39 ⟨rfl, trivial⟩
            · skip
              refine ⟨fun c7 => ?_, fun c7 => ?_⟩
              · exact hK50 0 σ39 ⟨rfl, (by (try dsimp only); omega)⟩
              · exact hK50 2 σ39 ⟨rfl, (by (try dsimp only); omega)⟩
          · skip
            refine ⟨fun c8 => ?_, fun c8 => ?_⟩
            · exact hK43 0 σ39 ⟨rfl, (by (try dsimp only); omega)⟩
            · exact hK43 4 σ39 ⟨rfl, (by (try dsimp only); omega)⟩
        · skip
          refine ⟨fun c9 => ?_, fun c9 => ?_⟩
          · exact hK36 () σ33 ⟨hI, hfr, (by (try dsimp only); omega), hG⟩
          · have hIp := hI
            refine s_X12_body hI 9 (by omega) (fun σ93 hI fz94 pz94 => ?_)
            have hfr := hfr.tr fz94 (by decide) (by decide)
            have tk35 : (sI σ93 h0 90).toInt = (sI σ33 h0 90).toInt := by rw [(fz94.1 90 (by decide)).1]
            have tk36 : (sI σ93 h0 16).toInt = (sI σ33 h0 16).toInt := by rw [(fz94.1 16 (by decide)).1]
            have hG := hG.fr fz94 (by decide) (by decide)
            have hIp := hI
            refine s_X12_set hI 64 2 9 (by omega) (fun σ95 hI fz96 pz96 => ?_)
            have hfr := hfr.tr fz96 (by decide) (by decide)
            have tk37 : (sI σ95 h0 90).toInt = (sI σ93 h0 90).toInt := by rw [(fz96.1 90 (by decide)).1]
            have tk38 : (sI σ95 h0 16).toInt = (sI σ93 h0 16).toInt := by rw [(fz96.1 16 (by decide)).1]
            have hG := hG.fr fz96 (by decide) (by decide)
            exact hK36 () σ95 ⟨hI, hfr, (by (try dsimp only); omega), hG⟩
      · have hIp := hI
        have b87 := congrArg Int32.toInt (hfr.1 87 (by decide)).1
        have b93 := congrArg Int32.toInt (hfr.1 93 (by decide)).1
        refine s_X12_cancel hI a1 a2 (by rw [(hfr.1 87 (by decide)).1]; exact hN.fr hfr (by decide) (by decide)) (by omega) (fun σ97 hI fz98 pz98 => ?_)
        have hfr := hfr.tr fz98 (by decide) (by decide)
        have tk39 : (sI σ97 h0 90).toInt = (sI σ23 h0 90).toInt := by rw [(fz98.1 90 (by decide)).1]
        have tk40 : (sI σ97 h0 16).toInt = (sI σ23 h0 16).toInt := by rw [(fz98.1 16 (by decide)).1]
        have hG := hG.sub hIp fz98 (pz98) (by decide) (by decide)
        intro z99 ez99
        have wz99 : z99.toInt = (sJ σ97 h0 96).toInt := by rw [ez99]
        have vz99 := l_range z99
        intro σ100 eσ100
        have hMp := hI.2
        have hI := hI.pJ eσ100
        have hfr := hfr.fJ hMp eσ100 (by decide) rfl
        have f1σ100 : Fr h0 L [104] [] σ97 σ100 := Fr.rf.fJ hMp eσ100 (by decide) rfl
        have tk41 : (sI σ100 h0 90).toInt = (sI σ97 h0 90).toInt := by rw [(f1σ100.1 90 (by decide)).1]
        have tk42 : (sI σ100 h0 16).toInt = (sI σ97 h0 16).toInt := by rw [(f1σ100.1 16 (by decide)).1]
        have hG := hG.fr f1σ100 (by decide) (by decide)
        intro z101 ez101
        have wz101 : z101.toInt = (sJ σ100 h0 97).toInt := by rw [ez101]
        have vz101 := l_range z101
        intro σ102 eσ102
        have hMp := hI.2
        have hI := hI.pJ eσ102
        have hfr := hfr.fJ hMp eσ102 (by decide) rfl
        have f1σ102 : Fr h0 L [105] [] σ100 σ102 := Fr.rf.fJ hMp eσ102 (by decide) rfl
        have tk43 : (sI σ102 h0 90).toInt = (sI σ100 h0 90).toInt := by rw [(f1σ102.1 90 (by decide)).1]
        have tk44 : (sI σ102 h0 16).toInt = (sI σ100 h0 16).toInt := by rw [(f1σ102.1 16 (by decide)).1]
        have hG := hG.fr f1σ102 (by decide) (by decide)
        refine ⟨by omega, ?_⟩
        intro σ103 eσ103
        have hMp := hI.2
        have hI := hI.pF 108 0 1 rfl rfl (by omega) eσ103
        have hfr := hfr.fI hMp eσ103 (by decide) rfl
        have uσ103 : (sI σ103 h0 108).toInt = (0 : Int32).toInt := by rw [eσ103]; exact congrArg Int32.toInt u2_same
        have f1σ103 : Fr h0 L [108] [] σ102 σ103 := Fr.rf.fI hMp eσ103 (by decide) rfl
        have tk45 : (sI σ103 h0 90).toInt = (sI σ102 h0 90).toInt := by rw [(f1σ103.1 90 (by decide)).1]
        have tk46 : (sI σ103 h0 16).toInt = (sI σ102 h0 16).toInt := by rw [(f1σ103.1 16 (by decide)).1]
        have hG := hG.fr f1σ103 (by decide) (by decide)
        exact kk σ103 hI hfr ⟨hG.mono (by omega), by omega⟩
    · skip
      refine ⟨fun c10 => ?_, fun c10 => ?_⟩
      · refine s_X12_number hI 36 4 (by omega) ((hN.fr hfr (by decide) (by decide)).le (by omega)) (fun z105 pz105 => ?_)
        have tz105 : z105.toInt = (NUM h0 L σ11 36 4 : Int) ∧ z105.toInt < 4294967296 := num_t (n := 4) (K := 4294967296) pz105 rfl (by decide)
        exact hK15 z105 σ11 ⟨rfl, trivial⟩
      · intro z106 ez106
        have wz106 : z106.toInt = (sJ σ11 h0 105).toInt := by rw [ez106]
        have vz106 := l_range z106
        exact hK15 z106 σ11 ⟨rfl, trivial⟩
  · skip
    refine ⟨fun c11 => ?_, fun c11 => ?_⟩
    · refine s_X12_number hI 40 8 (by omega) ((hN.fr hfr (by decide) (by decide)).le (by omega)) (fun z108 pz108 => ?_)
      exact hK8 z108 σ ⟨rfl, trivial⟩
    · intro z109 ez109
      have wz109 : z109.toInt = (sJ σ h0 104).toInt := by rw [ez109]
      have vz109 := l_range z109
      exact hK8 z109 σ ⟨rfl, trivial⟩
set_option maxRecDepth 100000 in
set_option maxHeartbeats 4000000 in
theorem s_X12_message {h0 : Nat} {L : Nat → Nat} {σ : HS} (hI : OKM h0 L σ) (a1 : Int32) (a2 : Int32) (a3 : Int32) {B : Int} (hG : GI h0 L B σ) (hB : B + 1000000 < 4611686018427387904) (hz : 0 ≤ a1.toInt ∧ a1.toInt < 6 ∧ 0 ≤ a2.toInt ∧ a2.toInt + a3.toInt ≤ 72600 ∧ 64 ≤ a3.toInt ∧ a3.toInt ≤ 4000) {post : HS → Prop} (kk : ∀ (σ' : HS), OKM h0 L σ' → Fr h0 L [16, 59, 60, 61, 62, 63, 69, 85, 86, 87, 88, 90, 91, 92, 93, 94, 95, 96, 97, 98, 99, 100, 101, 102, 103, 104, 105, 106, 107, 108, 109, 110, 111, 115, 116, 117, 118, 119] [1, 2, 3, 4, 5, 6, 7, 8, 9, 10, 14, 15, 16, 17, 18, 19, 20, 21, 22, 23, 24, 25, 26, 27, 28, 30, 31, 32, 33, 34, 35, 36, 37, 38, 39, 40, 41, 42, 43, 44, 45, 46, 47, 48, 49, 50, 51, 52, 53, 54, 55, 56, 57, 58, 59, 60, 61, 62, 63, 64, 65, 66, 67, 68, 69, 70, 71, 72, 73, 74, 75, 76, 77, 78, 79] σ σ' → (GI h0 L (B + 4000) σ' ∧ (((sI σ' (L 30) = sI σ (L 30) ∧ sI σ' (L 25) = sI σ (L 25)) ∨ ∀ i : Nat, (i = a1.toInt.toNat → (sI σ' (L 25) i).toInt = 0 ∧ (sI σ' (L 30) i).toInt = 0) ∧ (i ≠ a1.toInt.toNat → (sI σ' (L 30) i).toInt = (sI σ (L 30) i).toInt)))) → post σ') : F_X12_message h0 L a1 a2 a3 post σ := by
  unfold F_X12_message
  have k_m1 : ((-1) : Int32).toInt = (-1) := rfl
  have k_0 : (0 : Int32).toInt = 0 := rfl
  have k_1 : (1 : Int32).toInt = 1 := rfl
  have k_4 : (4 : Int32).toInt = 4 := rfl
  have k_8 : (8 : Int32).toInt = 8 := rfl
  have k_12 : (12 : Int32).toInt = 12 := rfl
  have k_16 : (16 : Int32).toInt = 16 := rfl
  have k_20 : (20 : Int32).toInt = 20 := rfl
  have k_24 : (24 : Int32).toInt = 24 := rfl
  have k_64 : (64 : Int32).toInt = 64 := rfl
  have kl_0 : (0 : Int64).toInt = 0 := rfl
  have kl_4 : (4 : Int64).toInt = 4 := rfl
  have rg_a1 := i_range a1
  have rg_a2 := i_range a2
  have rg_a3 := i_range a3
  have hfr : Fr h0 L [16, 59, 60, 61, 62, 63, 69, 85, 86, 87, 88, 90, 91, 92, 93, 94, 95, 96, 97, 98, 99, 100, 101, 102, 103, 104, 105, 106, 107, 108, 109, 110, 111, 115, 116, 117, 118, 119] [1, 2, 3, 4, 5, 6, 7, 8, 9, 10, 14, 15, 16, 17, 18, 19, 20, 21, 22, 23, 24, 25, 26, 27, 28, 30, 31, 32, 33, 34, 35, 36, 37, 38, 39, 40, 41, 42, 43, 44, 45, 46, 47, 48, 49, 50, 51, 52, 53, 54, 55, 56, 57, 58, 59, 60, 61, 62, 63, 64, 65, 66, 67, 68, 69, 70, 71, 72, 73, 74, 75, 76, 77, 78, 79] σ σ := Fr.rf
  have h3 : sI σ (L 30) = sI σ (L 30) ∧ sI σ (L 25) = sI σ (L 25) := ⟨rfl, rfl⟩
  intro σ1 eσ1
  have hMp := hI.2
  have hI := hI.pF 88 0 5 rfl rfl (by omega) eσ1
  have hfr := hfr.fI hMp eσ1 (by decide) rfl
  have uσ1 : (sI σ1 h0 88).toInt = a1.toInt := by rw [eσ1]; exact congrArg Int32.toInt u2_same
  have f1σ1 : Fr h0 L [88] [] σ σ1 := Fr.rf.fI hMp eσ1 (by decide) rfl
  have tk1 : (sI σ1 h0 86).toInt = (sI σ h0 86).toInt := by rw [(f1σ1.1 86 (by decide)).1]
  have tk2 : (sI σ1 h0 87).toInt = (sI σ h0 87).toInt := by rw [(f1σ1.1 87 (by decide)).1]
  have tk3 : (sI σ1 h0 110).toInt = (sI σ h0 110).toInt := by rw [(f1σ1.1 110 (by decide)).1]
  have tk4 : (sI σ1 h0 90).toInt = (sI σ h0 90).toInt := by rw [(f1σ1.1 90 (by decide)).1]
  have tk5 : (sI σ1 h0 16).toInt = (sI σ h0 16).toInt := by rw [(f1σ1.1 16 (by decide)).1]
  have hG := hG.fr f1σ1 (by decide) (by decide)
  have h3 := And.intro ((sI_ff f1σ1 (j := 30) (by decide) (by decide)).trans h3.1) ((sI_ff f1σ1 (j := 25) (by decide) (by decide)).trans h3.2)
  refine ⟨by omega, ?_⟩
  intro σ2 eσ2
  have hMp := hI.2
  have hI := hI.pF 92 0 1 rfl rfl (by omega) eσ2
  have hfr := hfr.fI hMp eσ2 (by decide) rfl
  have uσ2 : (sI σ2 h0 92).toInt = (0 : Int32).toInt := by rw [eσ2]; exact congrArg Int32.toInt u2_same
  have f1σ2 : Fr h0 L [92] [] σ1 σ2 := Fr.rf.fI hMp eσ2 (by decide) rfl
  have tk6 : (sI σ2 h0 86).toInt = (sI σ1 h0 86).toInt := by rw [(f1σ2.1 86 (by decide)).1]
  have tk7 : (sI σ2 h0 87).toInt = (sI σ1 h0 87).toInt := by rw [(f1σ2.1 87 (by decide)).1]
  have tk8 : (sI σ2 h0 110).toInt = (sI σ1 h0 110).toInt := by rw [(f1σ2.1 110 (by decide)).1]
  have tk9 : (sI σ2 h0 90).toInt = (sI σ1 h0 90).toInt := by rw [(f1σ2.1 90 (by decide)).1]
  have tk10 : (sI σ2 h0 16).toInt = (sI σ1 h0 16).toInt := by rw [(f1σ2.1 16 (by decide)).1]
  have hG := hG.fr f1σ2 (by decide) (by decide)
  have h3 := And.intro ((sI_ff f1σ2 (j := 30) (by decide) (by decide)).trans h3.1) ((sI_ff f1σ2 (j := 25) (by decide) (by decide)).trans h3.2)
  intro σ3 eσ3
  have hMp := hI.2
  have hI := hI.pF 110 0 85000 rfl rfl (by omega) eσ3
  have hfr := hfr.fI hMp eσ3 (by decide) rfl
  have uσ3 : (sI σ3 h0 110).toInt = (0 : Int32).toInt := by rw [eσ3]; exact congrArg Int32.toInt u2_same
  have f1σ3 : Fr h0 L [110] [] σ2 σ3 := Fr.rf.fI hMp eσ3 (by decide) rfl
  have tk11 : (sI σ3 h0 86).toInt = (sI σ2 h0 86).toInt := by rw [(f1σ3.1 86 (by decide)).1]
  have tk12 : (sI σ3 h0 87).toInt = (sI σ2 h0 87).toInt := by rw [(f1σ3.1 87 (by decide)).1]
  have tk14 : (sI σ3 h0 90).toInt = (sI σ2 h0 90).toInt := by rw [(f1σ3.1 90 (by decide)).1]
  have tk15 : (sI σ3 h0 16).toInt = (sI σ2 h0 16).toInt := by rw [(f1σ3.1 16 (by decide)).1]
  have hG := hG.fr f1σ3 (by decide) (by decide)
  have h3 := And.intro ((sI_ff f1σ3 (j := 30) (by decide) (by decide)).trans h3.1) ((sI_ff f1σ3 (j := 25) (by decide) (by decide)).trans h3.2)
  refine ⟨by omega, ?_⟩
  intro σ4 eσ4
  have hMp := hI.2
  have hI := hI.pF 108 0 1 rfl rfl (by omega) eσ4
  have hfr := hfr.fI hMp eσ4 (by decide) rfl
  have uσ4 : (sI σ4 h0 108).toInt = (0 : Int32).toInt := by rw [eσ4]; exact congrArg Int32.toInt u2_same
  have f1σ4 : Fr h0 L [108] [] σ3 σ4 := Fr.rf.fI hMp eσ4 (by decide) rfl
  have tk16 : (sI σ4 h0 86).toInt = (sI σ3 h0 86).toInt := by rw [(f1σ4.1 86 (by decide)).1]
  have tk17 : (sI σ4 h0 87).toInt = (sI σ3 h0 87).toInt := by rw [(f1σ4.1 87 (by decide)).1]
  have tk18 : (sI σ4 h0 110).toInt = (sI σ3 h0 110).toInt := by rw [(f1σ4.1 110 (by decide)).1]
  have tk19 : (sI σ4 h0 90).toInt = (sI σ3 h0 90).toInt := by rw [(f1σ4.1 90 (by decide)).1]
  have tk20 : (sI σ4 h0 16).toInt = (sI σ3 h0 16).toInt := by rw [(f1σ4.1 16 (by decide)).1]
  have hG := hG.fr f1σ4 (by decide) (by decide)
  have h3 := And.intro ((sI_ff f1σ4 (j := 30) (by decide) (by decide)).trans h3.1) ((sI_ff f1σ4 (j := 25) (by decide) (by decide)).trans h3.2)
  intro σ5 eσ5
  have hMp := hI.2
  have hI := hI.pJ eσ5
  have hfr := hfr.fJ hMp eσ5 (by decide) rfl
  have f1σ5 : Fr h0 L [104] [] σ4 σ5 := Fr.rf.fJ hMp eσ5 (by decide) rfl
  have tk21 : (sI σ5 h0 86).toInt = (sI σ4 h0 86).toInt := by rw [(f1σ5.1 86 (by decide)).1]
  have tk22 : (sI σ5 h0 87).toInt = (sI σ4 h0 87).toInt := by rw [(f1σ5.1 87 (by decide)).1]
  have tk23 : (sI σ5 h0 110).toInt = (sI σ4 h0 110).toInt := by rw [(f1σ5.1 110 (by decide)).1]
  have tk24 : (sI σ5 h0 90).toInt = (sI σ4 h0 90).toInt := by rw [(f1σ5.1 90 (by decide)).1]
  have tk25 : (sI σ5 h0 16).toInt = (sI σ4 h0 16).toInt := by rw [(f1σ5.1 16 (by decide)).1]
  have hG := hG.fr f1σ5 (by decide) (by decide)
  have h3 := And.intro ((sI_ff f1σ5 (j := 30) (by decide) (by decide)).trans h3.1) ((sI_ff f1σ5 (j := 25) (by decide) (by decide)).trans h3.2)
  intro σ6 eσ6
  have hMp := hI.2
  have hI := hI.pJ eσ6
  have hfr := hfr.fJ hMp eσ6 (by decide) rfl
  have f1σ6 : Fr h0 L [105] [] σ5 σ6 := Fr.rf.fJ hMp eσ6 (by decide) rfl
  have tk26 : (sI σ6 h0 86).toInt = (sI σ5 h0 86).toInt := by rw [(f1σ6.1 86 (by decide)).1]
  have tk27 : (sI σ6 h0 87).toInt = (sI σ5 h0 87).toInt := by rw [(f1σ6.1 87 (by decide)).1]
  have tk28 : (sI σ6 h0 110).toInt = (sI σ5 h0 110).toInt := by rw [(f1σ6.1 110 (by decide)).1]
  have tk29 : (sI σ6 h0 90).toInt = (sI σ5 h0 90).toInt := by rw [(f1σ6.1 90 (by decide)).1]
  have tk30 : (sI σ6 h0 16).toInt = (sI σ5 h0 16).toInt := by rw [(f1σ6.1 16 (by decide)).1]
  have hG := hG.fr f1σ6 (by decide) (by decide)
  have h3 := And.intro ((sI_ff f1σ6 (j := 30) (by decide) (by decide)).trans h3.1) ((sI_ff f1σ6 (j := 25) (by decide) (by decide)).trans h3.2)
  refine lw_in (fun (x : Int32 × Int32 × Int32) (σ' : HS) => OKM h0 L σ' ∧ Fr h0 L [16, 59, 60, 61, 62, 63, 69, 85, 86, 87, 88, 90, 91, 92, 93, 94, 95, 96, 97, 98, 99, 100, 101, 102, 103, 104, 105, 106, 107, 108, 109, 110, 111, 115, 116, 117, 118, 119] [1, 2, 3, 4, 5, 6, 7, 8, 9, 10, 14, 15, 16, 17, 18, 19, 20, 21, 22, 23, 24, 25, 26, 27, 28, 30, 31, 32, 33, 34, 35, 36, 37, 38, 39, 40, 41, 42, 43, 44, 45, 46, 47, 48, 49, 50, 51, 52, 53, 54, 55, 56, 57, 58, 59, 60, 61, 62, 63, 64, 65, 66, 67, 68, 69, 70, 71, 72, 73, 74, 75, 76, 77, 78, 79] σ σ' ∧ ((0 ≤ x.1.toInt ∧ x.1.toInt ≤ 1) ∧ (-1 ≤ x.2.1.toInt ∧ x.2.1.toInt ≤ 85000) ∧ (0 ≤ x.2.2.toInt ∧ x.2.2.toInt ≤ 4000) ∧ (x.2.2.toInt ≤ a3.toInt) ∧ (x.1.toInt ≠ 0 → x.2.2.toInt + 64 ≤ a3.toInt) ∧ (64 * (sI σ' h0 110).toInt ≤ 1207 * x.2.2.toInt) ∧ (x.2.1.toInt ≤ (sI σ' h0 110).toInt)) ∧ (GI h0 L (B + x.2.2.toInt) σ') ∧ (sI σ' (L 30) = sI σ (L 30) ∧ sI σ' (L 25) = sI σ (L 25))) (fun (x : Int32 × Int32 × Int32) (σ' : HS) => (4001 - x.2.2.toInt).toNat) ⟨hI, hfr, (by (try dsimp only); omega), (hG.mono (by (try dsimp only); omega)), h3⟩ (fun x7 σ8 hJ K9 hK9 => ?_)
  obtain ⟨hI, hfr, hv, hG, h3⟩ := hJ
  (try dsimp only at hv)
  have rg_x7_1 := i_range x7.1
  have rg_x7_2_1 := i_range x7.2.1
  have rg_x7_2_2 := i_range x7.2.2
  refine jn_in (fun (x : Unit) (σ' : HS) => OKM h0 L σ' ∧ Fr h0 L [16, 59, 60, 61, 62, 63, 69, 85, 86, 87, 88, 90, 91, 92, 93, 94, 95, 96, 97, 98, 99, 100, 101, 102, 103, 104, 105, 106, 107, 108, 109, 110, 111, 115, 116, 117, 118, 119] [1, 2, 3, 4, 5, 6, 7, 8, 9, 10, 14, 15, 16, 17, 18, 19, 20, 21, 22, 23, 24, 25, 26, 27, 28, 30, 31, 32, 33, 34, 35, 36, 37, 38, 39, 40, 41, 42, 43, 44, 45, 46, 47, 48, 49, 50, 51, 52, 53, 54, 55, 56, 57, 58, 59, 60, 61, 62, 63, 64, 65, 66, 67, 68, 69, 70, 71, 72, 73, 74, 75, 76, 77, 78, 79] σ σ' ∧ (True) ∧ (GI h0 L (B + a3.toInt) σ') ∧ (sI σ' (L 30) = sI σ (L 30) ∧ sI σ' (L 25) = sI σ (L 25))) (fun x11 σ12 hJ => ?_) (fun K13 hK13 => ?_)
  · obtain ⟨hI, hfr, hv, hG, h3⟩ := hJ
    (try dsimp only at hv)
    intro z16 ez16
    have vz16 := hI.fI 92 0 1 (by decide) rfl rfl rfl ez16
    have wz16 : z16.toInt = (sI σ12 h0 92).toInt := by rw [ez16]
    refine jn_dup ?_
    refine ⟨fun c1 => ?_, fun c1 => ?_⟩
    · refine ⟨fun c2 => ?_, fun c2 => ?_⟩
      · (try dsimp only)
        exact kk σ12 hI hfr ⟨hG.mono (by omega), Or.inl h3⟩
      · intro z22 ez22
        have vz22 := hI.fI 110 0 85000 (by decide) rfl rfl rfl ez22
        have wz22 : z22.toInt = (sI σ12 h0 110).toInt := by rw [ez22]
        have hIp := hI
        refine s_X12_send hI a1 0 z22 (by omega) (fun σ23 hI fz24 pz24 => ?_)
        have hfr := hfr.tr fz24 (by decide) (by decide)
        have tk31 : (sI σ23 h0 86).toInt = (sI σ12 h0 86).toInt := by rw [(fz24.1 86 (by decide)).1]
        have tk32 : (sI σ23 h0 87).toInt = (sI σ12 h0 87).toInt := by rw [(fz24.1 87 (by decide)).1]
        have tk33 : (sI σ23 h0 110).toInt = (sI σ12 h0 110).toInt := by rw [(fz24.1 110 (by decide)).1]
        have tk34 : (sI σ23 h0 90).toInt = (sI σ12 h0 90).toInt := by rw [(fz24.1 90 (by decide)).1]
        have tk35 : (sI σ23 h0 16).toInt = (sI σ12 h0 16).toInt := by rw [(fz24.1 16 (by decide)).1]
        have hG := hG.fr fz24 (by decide) (by decide)
        have h3 := And.intro ((sI_ff fz24 (j := 30) (by decide) (by decide)).trans h3.1) ((sI_ff fz24 (j := 25) (by decide) (by decide)).trans h3.2)
        (try dsimp only)
        exact kk σ23 hI hfr ⟨hG.mono (by omega), Or.inl h3⟩
    · have hIp := hI
      refine s2_X12_drops hI a1 hG (by omega) (by omega) (fun σ25 hI fz26 pz26 => ?_)
      have hfr := hfr.tr fz26 (by decide) (by decide)
      have tk36 : (sI σ25 h0 86).toInt = (sI σ12 h0 86).toInt := by rw [(fz26.1 86 (by decide)).1]
      have tk37 : (sI σ25 h0 87).toInt = (sI σ12 h0 87).toInt := by rw [(fz26.1 87 (by decide)).1]
      have tk38 : (sI σ25 h0 110).toInt = (sI σ12 h0 110).toInt := by rw [(fz26.1 110 (by decide)).1]
      have tk39 : (sI σ25 h0 90).toInt = (sI σ12 h0 90).toInt := by rw [(fz26.1 90 (by decide)).1]
      have hG := pz26.1
      (try dsimp only)
      exact kk σ25 hI hfr ⟨hG.mono (by omega), Or.inr (fun i => ⟨(pz26.2 i).1, fun h => by rw [(pz26.2 i).2 h, h3.1]⟩)⟩
  · skip
    refine ⟨fun c3 => ?_, fun c3 => ?_⟩
    · exact hK13 () σ8 ⟨hI, hfr, trivial, (hG.mono (by (try dsimp only); omega)), h3⟩
    · intro z27 ez27
      have vz27 := hI.fI 92 0 1 (by decide) rfl rfl rfl ez27
      have wz27 : z27.toInt = (sI σ8 h0 92).toInt := by rw [ez27]
      refine ⟨fun c4 => ?_, fun c4 => ?_⟩
      · exact hK13 () σ8 ⟨hI, hfr, trivial, (hG.mono (by (try dsimp only); omega)), h3⟩
      · intro σ28 eσ28
        have hMp := hI.2
        have hI := hI.pQ eσ28
        have hfr := hfr.fP eσ28 (by decide) rfl
        have f1σ28 : Fr h0 L [85] [] σ8 σ28 := Fr.rf.fP eσ28 (by decide) rfl
        have tk41 : (sI σ28 h0 86).toInt = (sI σ8 h0 86).toInt := by rw [(f1σ28.1 86 (by decide)).1]
        have tk42 : (sI σ28 h0 87).toInt = (sI σ8 h0 87).toInt := by rw [(f1σ28.1 87 (by decide)).1]
        have tk43 : (sI σ28 h0 110).toInt = (sI σ8 h0 110).toInt := by rw [(f1σ28.1 110 (by decide)).1]
        have tk44 : (sI σ28 h0 90).toInt = (sI σ8 h0 90).toInt := by rw [(f1σ28.1 90 (by decide)).1]
        have tk45 : (sI σ28 h0 16).toInt = (sI σ8 h0 16).toInt := by rw [(f1σ28.1 16 (by decide)).1]
        have hG := hG.fr f1σ28 (by decide) (by decide)
        have hq : sP σ28 h0 85 = some (L 29) := by rw [eσ28]; exact u2_same
        have h3 := And.intro ((sI_ff f1σ28 (j := 30) (by decide) (by decide)).trans h3.1) ((sI_ff f1σ28 (j := 25) (by decide) (by decide)).trans h3.2)
        intro z29 ez29
        try have hz29 := i_add ez29 (by omega) (by omega)
        have rg_z29 := i_range z29
        intro σ30 eσ30
        have hMp := hI.2
        have hI := hI.pF 86 0 72600 rfl rfl (by omega) eσ30
        have hfr := hfr.fI hMp eσ30 (by decide) rfl
        have uσ30 : (sI σ30 h0 86).toInt = z29.toInt := by rw [eσ30]; exact congrArg Int32.toInt u2_same
        have f1σ30 : Fr h0 L [86] [] σ28 σ30 := Fr.rf.fI hMp eσ30 (by decide) rfl
        have tk47 : (sI σ30 h0 87).toInt = (sI σ28 h0 87).toInt := by rw [(f1σ30.1 87 (by decide)).1]
        have tk48 : (sI σ30 h0 110).toInt = (sI σ28 h0 110).toInt := by rw [(f1σ30.1 110 (by decide)).1]
        have tk49 : (sI σ30 h0 90).toInt = (sI σ28 h0 90).toInt := by rw [(f1σ30.1 90 (by decide)).1]
        have tk50 : (sI σ30 h0 16).toInt = (sI σ28 h0 16).toInt := by rw [(f1σ30.1 16 (by decide)).1]
        have hG := hG.fr f1σ30 (by decide) (by decide)
        have hq := (f1σ30.1 85 (by decide)).2.2.trans hq
        have h3 := And.intro ((sI_ff f1σ30 (j := 30) (by decide) (by decide)).trans h3.1) ((sI_ff f1σ30 (j := 25) (by decide) (by decide)).trans h3.2)
        intro z31 ez31
        try have hz31 := i_sub ez31 (by omega) (by omega)
        have rg_z31 := i_range z31
        refine jn_dup ?_
        refine ⟨fun c5 => ?_, fun c5 => ?_⟩
        · (try dsimp only)
          refine ⟨by omega, ?_⟩
          intro σ37 eσ37
          have hMp := hI.2
          have hI := hI.pF 92 0 1 rfl rfl (by omega) eσ37
          have hfr := hfr.fI hMp eσ37 (by decide) rfl
          have uσ37 : (sI σ37 h0 92).toInt = (1 : Int32).toInt := by rw [eσ37]; exact congrArg Int32.toInt u2_same
          have f1σ37 : Fr h0 L [92] [] σ30 σ37 := Fr.rf.fI hMp eσ37 (by decide) rfl
          have tk51 : (sI σ37 h0 86).toInt = (sI σ30 h0 86).toInt := by rw [(f1σ37.1 86 (by decide)).1]
          have tk52 : (sI σ37 h0 87).toInt = (sI σ30 h0 87).toInt := by rw [(f1σ37.1 87 (by decide)).1]
          have tk53 : (sI σ37 h0 110).toInt = (sI σ30 h0 110).toInt := by rw [(f1σ37.1 110 (by decide)).1]
          have tk54 : (sI σ37 h0 90).toInt = (sI σ30 h0 90).toInt := by rw [(f1σ37.1 90 (by decide)).1]
          have tk55 : (sI σ37 h0 16).toInt = (sI σ30 h0 16).toInt := by rw [(f1σ37.1 16 (by decide)).1]
          have hG := hG.fr f1σ37 (by decide) (by decide)
          have hq := (f1σ37.1 85 (by decide)).2.2.trans hq
          have h3 := And.intro ((sI_ff f1σ37 (j := 30) (by decide) (by decide)).trans h3.1) ((sI_ff f1σ37 (j := 25) (by decide) (by decide)).trans h3.2)
          exact hK13 () σ37 ⟨hI, hfr, trivial, (hG.mono (by (try dsimp only); omega)), h3⟩
        · refine s2_X12_headerGood hI z31 (Or.inl ⟨hq, by omega⟩) (fun z39 pz39 => ?_)
          have rg_z39 := i_range z39
          refine ⟨fun c6 => ?_, fun c6 => ?_⟩
          · refine s_X12_number hI 20 4 (by omega) (Or.inl ⟨hq, by omega⟩) (fun z41 pz41 => ?_)
            have tz41 : z41.toInt = (NUM h0 L σ30 20 4 : Int) ∧ z41.toInt < 4294967296 := num_t (n := 4) (K := 4294967296) pz41 rfl (by decide)
            refine jn_in (fun (x : Int32) (σ' : HS) => σ30 = σ' ∧ ((64 ≤ x.toInt ∧ x.toInt ≤ 4000) ∧ (64 ≤ x.toInt) ∧ (x.toInt ≤ z31.toInt) ∧ (z41.toInt ≠ 0 → x.toInt ≤ z31.toInt - 64))) (fun x42 σ43 hJ => ?_) (fun K44 hK44 => ?_)
            · obtain ⟨hsg, hv⟩ := hJ
              subst hsg
              (try dsimp only at hv)
              have rg_x42 := i_range x42
              intro σ47 eσ47
              have hMp := hI.2
              have hI := hI.pF 87 0 4000 rfl rfl (by omega) eσ47
              have hfr := hfr.fI hMp eσ47 (by decide) rfl
              have uσ47 : (sI σ47 h0 87).toInt = x42.toInt := by rw [eσ47]; exact congrArg Int32.toInt u2_same
              have f1σ47 : Fr h0 L [87] [] σ30 σ47 := Fr.rf.fI hMp eσ47 (by decide) rfl
              have tk56 : (sI σ47 h0 86).toInt = (sI σ30 h0 86).toInt := by rw [(f1σ47.1 86 (by decide)).1]
              have tk58 : (sI σ47 h0 110).toInt = (sI σ30 h0 110).toInt := by rw [(f1σ47.1 110 (by decide)).1]
              have tk59 : (sI σ47 h0 90).toInt = (sI σ30 h0 90).toInt := by rw [(f1σ47.1 90 (by decide)).1]
              have tk60 : (sI σ47 h0 16).toInt = (sI σ30 h0 16).toInt := by rw [(f1σ47.1 16 (by decide)).1]
              have hG := hG.fr f1σ47 (by decide) (by decide)
              have hq := (f1σ47.1 85 (by decide)).2.2.trans hq
              have h3 := And.intro ((sI_ff f1σ47 (j := 30) (by decide) (by decide)).trans h3.1) ((sI_ff f1σ47 (j := 25) (by decide) (by decide)).trans h3.2)
              refine jn_in (fun (x : Int32) (σ' : HS) => σ47 = σ' ∧ ((0 ≤ x.toInt ∧ x.toInt ≤ 1) ∧ ((z41.toInt ≠ 0 ∧ x.toInt = 0) ∨ (z41.toInt = 0 ∧ x.toInt = 1)))) (fun x48 σ49 hJ => ?_) (fun K50 hK50 => ?_)
              · obtain ⟨hsg, hv⟩ := hJ
                subst hsg
                (try dsimp only at hv)
                have rg_x48 := i_range x48
                refine ⟨by omega, ?_⟩
                intro σ53 eσ53
                have hMp := hI.2
                have hI := hI.pF 95 0 1 rfl rfl (by omega) eσ53
                have hfr := hfr.fI hMp eσ53 (by decide) rfl
                have uσ53 : (sI σ53 h0 95).toInt = x48.toInt := by rw [eσ53]; exact congrArg Int32.toInt u2_same
                have f1σ53 : Fr h0 L [95] [] σ47 σ53 := Fr.rf.fI hMp eσ53 (by decide) rfl
                have tk61 : (sI σ53 h0 86).toInt = (sI σ47 h0 86).toInt := by rw [(f1σ53.1 86 (by decide)).1]
                have tk62 : (sI σ53 h0 87).toInt = (sI σ47 h0 87).toInt := by rw [(f1σ53.1 87 (by decide)).1]
                have tk63 : (sI σ53 h0 110).toInt = (sI σ47 h0 110).toInt := by rw [(f1σ53.1 110 (by decide)).1]
                have tk64 : (sI σ53 h0 90).toInt = (sI σ47 h0 90).toInt := by rw [(f1σ53.1 90 (by decide)).1]
                have tk65 : (sI σ53 h0 16).toInt = (sI σ47 h0 16).toInt := by rw [(f1σ53.1 16 (by decide)).1]
                have hG := hG.fr f1σ53 (by decide) (by decide)
                have hq := (f1σ53.1 85 (by decide)).2.2.trans hq
                have h3 := And.intro ((sI_ff f1σ53 (j := 30) (by decide) (by decide)).trans h3.1) ((sI_ff f1σ53 (j := 25) (by decide) (by decide)).trans h3.2)
                intro z54 ez54
                have vz54 := hI.fI 95 0 1 (by decide) rfl rfl rfl ez54
                have wz54 : z54.toInt = (sI σ53 h0 95).toInt := by rw [ez54]
                refine jn_in (fun (x : Int32) (σ' : HS) => σ53 = σ' ∧ ((0 ≤ x.toInt ∧ x.toInt ≤ 1) ∧ (x.toInt = 0 ∨ z54.toInt = 0))) (fun x55 σ56 hJ => ?_) (fun K57 hK57 => ?_)
                · obtain ⟨hsg, hv⟩ := hJ
                  subst hsg
                  (try dsimp only at hv)
                  have rg_x55 := i_range x55
                  refine s_X12_number hI 16 4 (by omega) (Or.inl ⟨hq, by omega⟩) (fun z61 pz61 => ?_)
                  have tz61 : z61.toInt = (NUM h0 L σ53 16 4 : Int) ∧ z61.toInt < 4294967296 := num_t (n := 4) (K := 4294967296) pz61 rfl (by decide)
                  intro z62 ez62
                  try have hz62 := l_and ez62 (by omega)
                  have rg_z62 := l_range z62
                  refine jn_in (fun (x : Int32) (σ' : HS) => σ53 = σ' ∧ ((0 ≤ x.toInt ∧ x.toInt ≤ 1))) (fun x63 σ64 hJ => ?_) (fun K65 hK65 => ?_)
                  · obtain ⟨hsg, hv⟩ := hJ
                    subst hsg
                    (try dsimp only at hv)
                    have rg_x63 := i_range x63
                    refine ⟨by omega, ?_⟩
                    intro σ68 eσ68
                    have hMp := hI.2
                    have hI := hI.pF 94 0 1 rfl rfl (by omega) eσ68
                    have hfr := hfr.fI hMp eσ68 (by decide) rfl
                    have uσ68 : (sI σ68 h0 94).toInt = x63.toInt := by rw [eσ68]; exact congrArg Int32.toInt u2_same
                    have f1σ68 : Fr h0 L [94] [] σ53 σ68 := Fr.rf.fI hMp eσ68 (by decide) rfl
                    have tk66 : (sI σ68 h0 86).toInt = (sI σ53 h0 86).toInt := by rw [(f1σ68.1 86 (by decide)).1]
                    have tk67 : (sI σ68 h0 87).toInt = (sI σ53 h0 87).toInt := by rw [(f1σ68.1 87 (by decide)).1]
                    have tk68 : (sI σ68 h0 110).toInt = (sI σ53 h0 110).toInt := by rw [(f1σ68.1 110 (by decide)).1]
                    have tk69 : (sI σ68 h0 90).toInt = (sI σ53 h0 90).toInt := by rw [(f1σ68.1 90 (by decide)).1]
                    have tk70 : (sI σ68 h0 16).toInt = (sI σ53 h0 16).toInt := by rw [(f1σ68.1 16 (by decide)).1]
                    have hG := hG.fr f1σ68 (by decide) (by decide)
                    have hq := (f1σ68.1 85 (by decide)).2.2.trans hq
                    have h3 := And.intro ((sI_ff f1σ68 (j := 30) (by decide) (by decide)).trans h3.1) ((sI_ff f1σ68 (j := 25) (by decide) (by decide)).trans h3.2)
                    refine s_X12_number2 hI 12 (by omega) (Or.inl ⟨hq, by omega⟩) (fun z70 pz70 => ?_)
                    have tz70 : z70.toInt = (NUM h0 L σ68 12 2 : Int) := pz70.1
                    have rg_z70 := i_range z70
                    intro σ71 eσ71
                    have hMp := hI.2
                    have hI := hI.pF 93 0 65535 rfl rfl (by omega) eσ71
                    have hfr := hfr.fI hMp eσ71 (by decide) rfl
                    have uσ71 : (sI σ71 h0 93).toInt = z70.toInt := by rw [eσ71]; exact congrArg Int32.toInt u2_same
                    have f1σ71 : Fr h0 L [93] [] σ68 σ71 := Fr.rf.fI hMp eσ71 (by decide) rfl
                    have tk71 : (sI σ71 h0 86).toInt = (sI σ68 h0 86).toInt := by rw [(f1σ71.1 86 (by decide)).1]
                    have tk72 : (sI σ71 h0 87).toInt = (sI σ68 h0 87).toInt := by rw [(f1σ71.1 87 (by decide)).1]
                    have tk73 : (sI σ71 h0 110).toInt = (sI σ68 h0 110).toInt := by rw [(f1σ71.1 110 (by decide)).1]
                    have tk74 : (sI σ71 h0 90).toInt = (sI σ68 h0 90).toInt := by rw [(f1σ71.1 90 (by decide)).1]
                    have tk75 : (sI σ71 h0 16).toInt = (sI σ68 h0 16).toInt := by rw [(f1σ71.1 16 (by decide)).1]
                    have hG := hG.fr f1σ71 (by decide) (by decide)
                    have hq := (f1σ71.1 85 (by decide)).2.2.trans hq
                    have h3 := And.intro ((sI_ff f1σ71 (j := 30) (by decide) (by decide)).trans h3.1) ((sI_ff f1σ71 (j := 25) (by decide) (by decide)).trans h3.2)
                    refine s_X12_number hI 24 8 (by omega) (Or.inl ⟨hq, by omega⟩) (fun z73 pz73 => ?_)
                    intro z74 ez74
                    have vz74 := hI.fI 93 0 65535 (by decide) rfl rfl rfl ez74
                    have wz74 : z74.toInt = (sI σ71 h0 93).toInt := by rw [ez74]
                    refine jn_in (fun (x : Int32) (σ' : HS) => σ71 = σ' ∧ ((0 ≤ x.toInt ∧ x.toInt ≤ 1))) (fun x75 σ76 hJ => ?_) (fun K77 hK77 => ?_)
                    · obtain ⟨hsg, hv⟩ := hJ
                      subst hsg
                      (try dsimp only at hv)
                      have rg_x75 := i_range x75
                      intro z80 ez80
                      have vz80 := hI.fI 94 0 1 (by decide) rfl rfl rfl ez80
                      have wz80 : z80.toInt = (sI σ71 h0 94).toInt := by rw [ez80]
                      refine jn_dup ?_
                      refine jn_in (fun (x : Unit) (σ' : HS) => σ71 = σ' ∧ (True)) (fun x87 σ88 hJ => ?_) (fun K89 hK89 => ?_)
                      · obtain ⟨hsg, hv⟩ := hJ
                        subst hsg
                        (try dsimp only at hv)
                        intro z92 ez92
                        have vz92 := hI.fI 93 0 65535 (by decide) rfl rfl rfl ez92
                        have wz92 : z92.toInt = (sI σ71 h0 93).toInt := by rw [ez92]
                        refine jn_in (fun (x : Unit) (σ' : HS) => OKM h0 L σ' ∧ Fr h0 L [16, 59, 60, 61, 62, 63, 69, 85, 86, 87, 88, 90, 91, 92, 93, 94, 95, 96, 97, 98, 99, 100, 101, 102, 103, 104, 105, 106, 107, 108, 109, 110, 111, 115, 116, 117, 118, 119] [1, 2, 3, 4, 5, 6, 7, 8, 9, 10, 14, 15, 16, 17, 18, 19, 20, 21, 22, 23, 24, 25, 26, 27, 28, 30, 31, 32, 33, 34, 35, 36, 37, 38, 39, 40, 41, 42, 43, 44, 45, 46, 47, 48, 49, 50, 51, 52, 53, 54, 55, 56, 57, 58, 59, 60, 61, 62, 63, 64, 65, 66, 67, 68, 69, 70, 71, 72, 73, 74, 75, 76, 77, 78, 79] σ σ' ∧ (((sI σ' h0 86).toInt = z29.toInt) ∧ ((sI σ' h0 87).toInt = x42.toInt) ∧ (x7.2.1.toInt ≤ (sI σ' h0 110).toInt) ∧ (64 * (sI σ' h0 110).toInt ≤ 1207 * x7.2.2.toInt)) ∧ (GI h0 L (B + x7.2.2.toInt) σ') ∧ (sI σ' (L 30) = sI σ (L 30) ∧ sI σ' (L 25) = sI σ (L 25)) ∧ (sP σ' h0 85 = some (L 29))) (fun x93 σ94 hJ => ?_) (fun K95 hK95 => ?_)
                        · obtain ⟨hI, hfr, hv, hG, h3, hq⟩ := hJ
                          (try dsimp only at hv)
                          refine ⟨fun c7 => ?_, fun c7 => ?_⟩
                          · intro z98 ez98
                            have vz98 := hI.fI 93 0 65535 (by decide) rfl rfl rfl ez98
                            have wz98 : z98.toInt = (sI σ94 h0 93).toInt := by rw [ez98]
                            refine jn_in (fun (x : Unit) (σ' : HS) => OKM h0 L σ' ∧ Fr h0 L [16, 59, 60, 61, 62, 63, 69, 85, 86, 87, 88, 90, 91, 92, 93, 94, 95, 96, 97, 98, 99, 100, 101, 102, 103, 104, 105, 106, 107, 108, 109, 110, 111, 115, 116, 117, 118, 119] [1, 2, 3, 4, 5, 6, 7, 8, 9, 10, 14, 15, 16, 17, 18, 19, 20, 21, 22, 23, 24, 25, 26, 27, 28, 30, 31, 32, 33, 34, 35, 36, 37, 38, 39, 40, 41, 42, 43, 44, 45, 46, 47, 48, 49, 50, 51, 52, 53, 54, 55, 56, 57, 58, 59, 60, 61, 62, 63, 64, 65, 66, 67, 68, 69, 70, 71, 72, 73, 74, 75, 76, 77, 78, 79] σ σ' ∧ (((sI σ' h0 86).toInt = z29.toInt) ∧ ((sI σ' h0 87).toInt = x42.toInt) ∧ (x7.2.1.toInt ≤ (sI σ' h0 110).toInt) ∧ (64 * (sI σ' h0 110).toInt ≤ 1207 * x7.2.2.toInt + 448)) ∧ (GI h0 L (B + x7.2.2.toInt) σ') ∧ (sI σ' (L 30) = sI σ (L 30) ∧ sI σ' (L 25) = sI σ (L 25)) ∧ (sP σ' h0 85 = some (L 29))) (fun x99 σ100 hJ => ?_) (fun K101 hK101 => ?_)
                            · obtain ⟨hI, hfr, hv, hG, h3, hq⟩ := hJ
                              (try dsimp only at hv)
                              intro z104 ez104
                              have vz104 := hI.fI 110 0 85000 (by decide) rfl rfl rfl ez104
                              have wz104 : z104.toInt = (sI σ100 h0 110).toInt := by rw [ez104]
                              intro σ105 eσ105
                              have hMp := hI.2
                              have hI := hI.pF 90 0 85000 rfl rfl (by omega) eσ105
                              have hfr := hfr.fI hMp eσ105 (by decide) rfl
                              have uσ105 : (sI σ105 h0 90).toInt = z104.toInt := by rw [eσ105]; exact congrArg Int32.toInt u2_same
                              have f1σ105 : Fr h0 L [90] [] σ100 σ105 := Fr.rf.fI hMp eσ105 (by decide) rfl
                              have tk76 : (sI σ105 h0 86).toInt = (sI σ100 h0 86).toInt := by rw [(f1σ105.1 86 (by decide)).1]
                              have tk77 : (sI σ105 h0 87).toInt = (sI σ100 h0 87).toInt := by rw [(f1σ105.1 87 (by decide)).1]
                              have tk78 : (sI σ105 h0 110).toInt = (sI σ100 h0 110).toInt := by rw [(f1σ105.1 110 (by decide)).1]
                              have tk80 : (sI σ105 h0 16).toInt = (sI σ100 h0 16).toInt := by rw [(f1σ105.1 16 (by decide)).1]
                              have hG := hG.fr f1σ105 (by decide) (by decide)
                              have hq := (f1σ105.1 85 (by decide)).2.2.trans hq
                              have h3 := And.intro ((sI_ff f1σ105 (j := 30) (by decide) (by decide)).trans h3.1) ((sI_ff f1σ105 (j := 25) (by decide) (by decide)).trans h3.2)
                              have hIp := hI
                              refine s_X12_request hI a1 z73 hG (Or.inl ⟨hq, by omega⟩) hq (by omega) (by omega) (fun σ106 hI fz107 pz107 => ?_)
                              have hfr := hfr.tr fz107 (by decide) (by decide)
                              have tk81 : (sI σ106 h0 86).toInt = (sI σ105 h0 86).toInt := by rw [(fz107.1 86 (by decide)).1]
                              have tk82 : (sI σ106 h0 87).toInt = (sI σ105 h0 87).toInt := by rw [(fz107.1 87 (by decide)).1]
                              have tk83 : (sI σ106 h0 110).toInt = (sI σ105 h0 110).toInt := by rw [(fz107.1 110 (by decide)).1]
                              have hG := pz107.1
                              have hq := (fz107.1 85 (by decide)).2.2.trans hq
                              have h3 := And.intro ((sI_ff fz107 (j := 30) (by decide) (by decide)).trans h3.1) ((sI_ff fz107 (j := 25) (by decide) (by decide)).trans h3.2)
                              intro z108 ez108
                              have vz108 := hI.fI 93 0 65535 (by decide) rfl rfl rfl ez108
                              have wz108 : z108.toInt = (sI σ106 h0 93).toInt := by rw [ez108]
                              refine jn_dup ?_
                              refine ⟨fun c8 => ?_, fun c8 => ?_⟩
                              · (try dsimp only)
                                intro z114 ez114
                                have vz114 := hI.fI 87 0 4000 (by decide) rfl rfl rfl ez114
                                have wz114 : z114.toInt = (sI σ106 h0 87).toInt := by rw [ez114]
                                intro z115 ez115
                                try have hz115 := i_add ez115 (by omega) (by omega)
                                have rg_z115 := i_range z115
                                exact hK9 (x55, x7.2.1, z115) σ106 ⟨hI, hfr, (by (try dsimp only); omega), (hG.mono (by (try dsimp only); omega)), h3⟩ (by (try dsimp only); omega)
                              · intro z116 ez116
                                have vz116 := hI.fI 90 0 85000 (by decide) rfl rfl rfl ez116
                                have wz116 : z116.toInt = (sI σ106 h0 90).toInt := by rw [ez116]
                                intro z117 ez117
                                have vz117 := hI.fI 90 0 85000 (by decide) rfl rfl rfl ez117
                                have wz117 : z117.toInt = (sI σ106 h0 90).toInt := by rw [ez117]
                                intro z118 ez118
                                have vz118 := hI.fI 91 0 1200 (by decide) rfl rfl rfl ez118
                                have wz118 : z118.toInt = (sI σ106 h0 91).toInt := by rw [ez118]
                                intro z119 ez119
                                try have hz119 := i_add ez119 (by omega) (by omega)
                                have rg_z119 := i_range z119
                                intro σ120 eσ120
                                have hMp := hI.2
                                have hI := hI.pF 110 0 85000 rfl rfl (by omega) eσ120
                                have hfr := hfr.fI hMp eσ120 (by decide) rfl
                                have uσ120 : (sI σ120 h0 110).toInt = z119.toInt := by rw [eσ120]; exact congrArg Int32.toInt u2_same
                                have f1σ120 : Fr h0 L [110] [] σ106 σ120 := Fr.rf.fI hMp eσ120 (by decide) rfl
                                have tk86 : (sI σ120 h0 86).toInt = (sI σ106 h0 86).toInt := by rw [(f1σ120.1 86 (by decide)).1]
                                have tk87 : (sI σ120 h0 87).toInt = (sI σ106 h0 87).toInt := by rw [(f1σ120.1 87 (by decide)).1]
                                have tk89 : (sI σ120 h0 90).toInt = (sI σ106 h0 90).toInt := by rw [(f1σ120.1 90 (by decide)).1]
                                have tk90 : (sI σ120 h0 16).toInt = (sI σ106 h0 16).toInt := by rw [(f1σ120.1 16 (by decide)).1]
                                have hG := hG.fr f1σ120 (by decide) (by decide)
                                have hq := (f1σ120.1 85 (by decide)).2.2.trans hq
                                have h3 := And.intro ((sI_ff f1σ120 (j := 30) (by decide) (by decide)).trans h3.1) ((sI_ff f1σ120 (j := 25) (by decide) (by decide)).trans h3.2)
                                (try dsimp only)
                                intro z114 ez114
                                have vz114 := hI.fI 87 0 4000 (by decide) rfl rfl rfl ez114
                                have wz114 : z114.toInt = (sI σ120 h0 87).toInt := by rw [ez114]
                                intro z115 ez115
                                try have hz115 := i_add ez115 (by omega) (by omega)
                                have rg_z115 := i_range z115
                                exact hK9 (x55, z116, z115) σ120 ⟨hI, hfr, (by (try dsimp only); omega), (hG.mono (by (try dsimp only); omega)), h3⟩ (by (try dsimp only); omega)
                            · skip
                              refine ⟨fun c9 => ?_, fun c9 => ?_⟩
                              · exact hK101 () σ94 ⟨hI, hfr, (by (try dsimp only); omega), (hG.mono (by (try dsimp only); omega)), h3, hq⟩
                              · refine ⟨fun c10 => ?_, fun c10 => ?_⟩
                                · exact hK101 () σ94 ⟨hI, hfr, (by (try dsimp only); omega), (hG.mono (by (try dsimp only); omega)), h3, hq⟩
                                · intro z121 ez121
                                  have vz121 := hI.fI 110 0 85000 (by decide) rfl rfl rfl ez121
                                  have wz121 : z121.toInt = (sI σ94 h0 110).toInt := by rw [ez121]
                                  refine lw_in (fun (x : Int32) (σ' : HS) => OKM h0 L σ' ∧ Fr h0 L [16, 59, 60, 61, 62, 63, 69, 85, 86, 87, 88, 90, 91, 92, 93, 94, 95, 96, 97, 98, 99, 100, 101, 102, 103, 104, 105, 106, 107, 108, 109, 110, 111, 115, 116, 117, 118, 119] [1, 2, 3, 4, 5, 6, 7, 8, 9, 10, 14, 15, 16, 17, 18, 19, 20, 21, 22, 23, 24, 25, 26, 27, 28, 30, 31, 32, 33, 34, 35, 36, 37, 38, 39, 40, 41, 42, 43, 44, 45, 46, 47, 48, 49, 50, 51, 52, 53, 54, 55, 56, 57, 58, 59, 60, 61, 62, 63, 64, 65, 66, 67, 68, 69, 70, 71, 72, 73, 74, 75, 76, 77, 78, 79] σ σ' ∧ (((sI σ' h0 86).toInt = z29.toInt) ∧ ((sI σ' h0 87).toInt = x42.toInt) ∧ (x7.2.1.toInt ≤ (sI σ' h0 110).toInt) ∧ (64 * (sI σ' h0 110).toInt ≤ 1207 * x7.2.2.toInt) ∧ (z121.toInt ≤ x.toInt) ∧ (x.toInt + (8 - (x.toInt - x7.2.1.toInt) % 8) % 8 ≤ z121.toInt + 7) ∧ (64 * z121.toInt ≤ 1207 * x7.2.2.toInt)) ∧ (GI h0 L (B + x7.2.2.toInt) σ') ∧ (sI σ' (L 30) = sI σ (L 30) ∧ sI σ' (L 25) = sI σ (L 25)) ∧ (sP σ' h0 85 = some (L 29))) (fun (x : Int32) (σ' : HS) => ((8 - (x.toInt - x7.2.1.toInt) % 8) % 8).toNat) ⟨hI, hfr, (by (try dsimp only); omega), (hG.mono (by (try dsimp only); omega)), h3, hq⟩ (fun x122 σ123 hJ K124 hK124 => ?_)
                                  obtain ⟨hI, hfr, hv, hG, h3, hq⟩ := hJ
                                  (try dsimp only at hv)
                                  have rg_x122 := i_range x122
                                  intro z126 ez126
                                  try have hz126 := i_sub ez126 (by omega) (by omega)
                                  have rg_z126 := i_range z126
                                  intro z127 ez127
                                  try have hz127 := i_rem 8 rfl ez127 (by omega) (by omega)
                                  have rg_z127 := i_range z127
                                  refine ⟨fun c11 => ?_, fun c11 => ?_⟩
                                  · intro σ128 eσ128
                                    have hMp := hI.2
                                    have hI := hI.pF 90 0 85000 rfl rfl (by omega) eσ128
                                    have hfr := hfr.fI hMp eσ128 (by decide) rfl
                                    have uσ128 : (sI σ128 h0 90).toInt = x7.2.1.toInt := by rw [eσ128]; exact congrArg Int32.toInt u2_same
                                    have f1σ128 : Fr h0 L [90] [] σ123 σ128 := Fr.rf.fI hMp eσ128 (by decide) rfl
                                    have tk91 : (sI σ128 h0 86).toInt = (sI σ123 h0 86).toInt := by rw [(f1σ128.1 86 (by decide)).1]
                                    have tk92 : (sI σ128 h0 87).toInt = (sI σ123 h0 87).toInt := by rw [(f1σ128.1 87 (by decide)).1]
                                    have tk93 : (sI σ128 h0 110).toInt = (sI σ123 h0 110).toInt := by rw [(f1σ128.1 110 (by decide)).1]
                                    have tk95 : (sI σ128 h0 16).toInt = (sI σ123 h0 16).toInt := by rw [(f1σ128.1 16 (by decide)).1]
                                    have hG := hG.fr f1σ128 (by decide) (by decide)
                                    have hq := (f1σ128.1 85 (by decide)).2.2.trans hq
                                    have h3 := And.intro ((sI_ff f1σ128 (j := 30) (by decide) (by decide)).trans h3.1) ((sI_ff f1σ128 (j := 25) (by decide) (by decide)).trans h3.2)
                                    intro z129 ez129
                                    try have hz129 := i_sub ez129 (by omega) (by omega)
                                    have rg_z129 := i_range z129
                                    intro z130 ez130
                                    have hz130 := i_tol ez130
                                    have rg_z130 := l_range z130
                                    have hIp := hI
                                    refine s_X12_set hI 20 4 z130 (by omega) (fun σ131 hI fz132 pz132 => ?_)
                                    have hfr := hfr.tr fz132 (by decide) (by decide)
                                    have tk96 : (sI σ131 h0 86).toInt = (sI σ128 h0 86).toInt := by rw [(fz132.1 86 (by decide)).1]
                                    have tk97 : (sI σ131 h0 87).toInt = (sI σ128 h0 87).toInt := by rw [(fz132.1 87 (by decide)).1]
                                    have tk98 : (sI σ131 h0 110).toInt = (sI σ128 h0 110).toInt := by rw [(fz132.1 110 (by decide)).1]
                                    have tk99 : (sI σ131 h0 90).toInt = (sI σ128 h0 90).toInt := by rw [(fz132.1 90 (by decide)).1]
                                    have tk100 : (sI σ131 h0 16).toInt = (sI σ128 h0 16).toInt := by rw [(fz132.1 16 (by decide)).1]
                                    have hG := hG.fr fz132 (by decide) (by decide)
                                    have hq := (fz132.1 85 (by decide)).2.2.trans hq
                                    have h3 := And.intro ((sI_ff fz132 (j := 30) (by decide) (by decide)).trans h3.1) ((sI_ff fz132 (j := 25) (by decide) (by decide)).trans h3.2)
                                    intro σ133 eσ133
                                    have hMp := hI.2
                                    have hI := hI.pF 110 0 85000 rfl rfl (by omega) eσ133
                                    have hfr := hfr.fI hMp eσ133 (by decide) rfl
                                    have uσ133 : (sI σ133 h0 110).toInt = x122.toInt := by rw [eσ133]; exact congrArg Int32.toInt u2_same
                                    have f1σ133 : Fr h0 L [110] [] σ131 σ133 := Fr.rf.fI hMp eσ133 (by decide) rfl
                                    have tk101 : (sI σ133 h0 86).toInt = (sI σ131 h0 86).toInt := by rw [(f1σ133.1 86 (by decide)).1]
                                    have tk102 : (sI σ133 h0 87).toInt = (sI σ131 h0 87).toInt := by rw [(f1σ133.1 87 (by decide)).1]
                                    have tk104 : (sI σ133 h0 90).toInt = (sI σ131 h0 90).toInt := by rw [(f1σ133.1 90 (by decide)).1]
                                    have tk105 : (sI σ133 h0 16).toInt = (sI σ131 h0 16).toInt := by rw [(f1σ133.1 16 (by decide)).1]
                                    have hG := hG.fr f1σ133 (by decide) (by decide)
                                    have hq := (f1σ133.1 85 (by decide)).2.2.trans hq
                                    have h3 := And.intro ((sI_ff f1σ133 (j := 30) (by decide) (by decide)).trans h3.1) ((sI_ff f1σ133 (j := 25) (by decide) (by decide)).trans h3.2)
                                    exact hK101 () σ133 ⟨hI, hfr, (by (try dsimp only); omega), (hG.mono (by (try dsimp only); omega)), h3, hq⟩
                                  · refine ⟨by omega, ?_⟩
                                    intro σ134 eσ134
                                    have hMp := hI.2
                                    have hI := hI.pA 76 (-128) 127 (by decide) (by decide) rfl rfl (i_byte _) eσ134
                                    have hfr := hfr.aI hMp (by decide) eσ134 (by decide)
                                    have f1σ134 : Fr h0 L [] [76] σ123 σ134 := Fr.rf.aI hMp (by decide) eσ134 (by decide)
                                    have tk106 : (sI σ134 h0 86).toInt = (sI σ123 h0 86).toInt := by rw [(f1σ134.1 86 (by decide)).1]
                                    have tk107 : (sI σ134 h0 87).toInt = (sI σ123 h0 87).toInt := by rw [(f1σ134.1 87 (by decide)).1]
                                    have tk108 : (sI σ134 h0 110).toInt = (sI σ123 h0 110).toInt := by rw [(f1σ134.1 110 (by decide)).1]
                                    have tk109 : (sI σ134 h0 90).toInt = (sI σ123 h0 90).toInt := by rw [(f1σ134.1 90 (by decide)).1]
                                    have tk110 : (sI σ134 h0 16).toInt = (sI σ123 h0 16).toInt := by rw [(f1σ134.1 16 (by decide)).1]
                                    have hG := hG.fr f1σ134 (by decide) (by decide)
                                    have hq := (f1σ134.1 85 (by decide)).2.2.trans hq
                                    have h3 := And.intro ((sI_ff f1σ134 (j := 30) (by decide) (by decide)).trans h3.1) ((sI_ff f1σ134 (j := 25) (by decide) (by decide)).trans h3.2)
                                    intro z135 ez135
                                    try have hz135 := i_add ez135 (by omega) (by omega)
                                    have rg_z135 := i_range z135
                                    exact hK124 z135 σ134 ⟨hI, hfr, (by (try dsimp only); omega), (hG.mono (by (try dsimp only); omega)), h3, hq⟩ (by (try dsimp only); omega)
                          · (try dsimp only)
                            refine ⟨by omega, ?_⟩
                            intro σ86 eσ86
                            have hMp := hI.2
                            have hI := hI.pF 92 0 1 rfl rfl (by omega) eσ86
                            have hfr := hfr.fI hMp eσ86 (by decide) rfl
                            have uσ86 : (sI σ86 h0 92).toInt = (1 : Int32).toInt := by rw [eσ86]; exact congrArg Int32.toInt u2_same
                            have f1σ86 : Fr h0 L [92] [] σ94 σ86 := Fr.rf.fI hMp eσ86 (by decide) rfl
                            have tk111 : (sI σ86 h0 86).toInt = (sI σ94 h0 86).toInt := by rw [(f1σ86.1 86 (by decide)).1]
                            have tk112 : (sI σ86 h0 87).toInt = (sI σ94 h0 87).toInt := by rw [(f1σ86.1 87 (by decide)).1]
                            have tk113 : (sI σ86 h0 110).toInt = (sI σ94 h0 110).toInt := by rw [(f1σ86.1 110 (by decide)).1]
                            have tk114 : (sI σ86 h0 90).toInt = (sI σ94 h0 90).toInt := by rw [(f1σ86.1 90 (by decide)).1]
                            have tk115 : (sI σ86 h0 16).toInt = (sI σ94 h0 16).toInt := by rw [(f1σ86.1 16 (by decide)).1]
                            have hG := hG.fr f1σ86 (by decide) (by decide)
                            have hq := (f1σ86.1 85 (by decide)).2.2.trans hq
                            have h3 := And.intro ((sI_ff f1σ86 (j := 30) (by decide) (by decide)).trans h3.1) ((sI_ff f1σ86 (j := 25) (by decide) (by decide)).trans h3.2)
                            exact hK13 () σ86 ⟨hI, hfr, trivial, (hG.mono (by (try dsimp only); omega)), h3⟩
                        · skip
                          refine ⟨fun c12 => ?_, fun c12 => ?_⟩
                          · exact hK95 () σ71 ⟨hI, hfr, (by (try dsimp only); omega), (hG.mono (by (try dsimp only); omega)), h3, hq⟩
                          · have hIp := hI
                            refine s_X12_takeId hI a1 z73 (by omega) (fun z137 σ136 hI fz137 pz137 => ?_)
                            have hfr := hfr.tr fz137 (by decide) (by decide)
                            have tk116 : (sI σ136 h0 86).toInt = (sI σ71 h0 86).toInt := by rw [(fz137.1 86 (by decide)).1]
                            have tk117 : (sI σ136 h0 87).toInt = (sI σ71 h0 87).toInt := by rw [(fz137.1 87 (by decide)).1]
                            have tk118 : (sI σ136 h0 110).toInt = (sI σ71 h0 110).toInt := by rw [(fz137.1 110 (by decide)).1]
                            have tk119 : (sI σ136 h0 90).toInt = (sI σ71 h0 90).toInt := by rw [(fz137.1 90 (by decide)).1]
                            have tk120 : (sI σ136 h0 16).toInt = (sI σ71 h0 16).toInt := by rw [(fz137.1 16 (by decide)).1]
                            have rg_z137 := i_range z137
                            have hG := hG.fr fz137 (by decide) (by decide)
                            have hq := (fz137.1 85 (by decide)).2.2.trans hq
                            have h3 := And.intro ((sI_ff fz137 (j := 30) (by decide) (by decide)).trans h3.1) ((sI_ff fz137 (j := 25) (by decide) (by decide)).trans h3.2)
                            refine ⟨fun c13 => ?_, fun c13 => ?_⟩
                            · (try dsimp only)
                              refine ⟨by omega, ?_⟩
                              intro σ86 eσ86
                              have hMp := hI.2
                              have hI := hI.pF 92 0 1 rfl rfl (by omega) eσ86
                              have hfr := hfr.fI hMp eσ86 (by decide) rfl
                              have uσ86 : (sI σ86 h0 92).toInt = (1 : Int32).toInt := by rw [eσ86]; exact congrArg Int32.toInt u2_same
                              have f1σ86 : Fr h0 L [92] [] σ136 σ86 := Fr.rf.fI hMp eσ86 (by decide) rfl
                              have tk121 : (sI σ86 h0 86).toInt = (sI σ136 h0 86).toInt := by rw [(f1σ86.1 86 (by decide)).1]
                              have tk122 : (sI σ86 h0 87).toInt = (sI σ136 h0 87).toInt := by rw [(f1σ86.1 87 (by decide)).1]
                              have tk123 : (sI σ86 h0 110).toInt = (sI σ136 h0 110).toInt := by rw [(f1σ86.1 110 (by decide)).1]
                              have tk124 : (sI σ86 h0 90).toInt = (sI σ136 h0 90).toInt := by rw [(f1σ86.1 90 (by decide)).1]
                              have tk125 : (sI σ86 h0 16).toInt = (sI σ136 h0 16).toInt := by rw [(f1σ86.1 16 (by decide)).1]
                              have hG := hG.fr f1σ86 (by decide) (by decide)
                              have hq := (f1σ86.1 85 (by decide)).2.2.trans hq
                              have h3 := And.intro ((sI_ff f1σ86 (j := 30) (by decide) (by decide)).trans h3.1) ((sI_ff f1σ86 (j := 25) (by decide) (by decide)).trans h3.2)
                              exact hK13 () σ86 ⟨hI, hfr, trivial, (hG.mono (by (try dsimp only); omega)), h3⟩
                            · exact hK95 () σ136 ⟨hI, hfr, (by (try dsimp only); omega), (hG.mono (by (try dsimp only); omega)), h3, hq⟩
                      · skip
                        refine ⟨fun c14 => ?_, fun c14 => ?_⟩
                        · exact hK89 () σ71 ⟨rfl, trivial⟩
                        · refine ⟨fun c15 => ?_, fun c15 => ?_⟩
                          · (try dsimp only)
                            refine ⟨by omega, ?_⟩
                            intro σ86 eσ86
                            have hMp := hI.2
                            have hI := hI.pF 92 0 1 rfl rfl (by omega) eσ86
                            have hfr := hfr.fI hMp eσ86 (by decide) rfl
                            have uσ86 : (sI σ86 h0 92).toInt = (1 : Int32).toInt := by rw [eσ86]; exact congrArg Int32.toInt u2_same
                            have f1σ86 : Fr h0 L [92] [] σ71 σ86 := Fr.rf.fI hMp eσ86 (by decide) rfl
                            have tk126 : (sI σ86 h0 86).toInt = (sI σ71 h0 86).toInt := by rw [(f1σ86.1 86 (by decide)).1]
                            have tk127 : (sI σ86 h0 87).toInt = (sI σ71 h0 87).toInt := by rw [(f1σ86.1 87 (by decide)).1]
                            have tk128 : (sI σ86 h0 110).toInt = (sI σ71 h0 110).toInt := by rw [(f1σ86.1 110 (by decide)).1]
                            have tk129 : (sI σ86 h0 90).toInt = (sI σ71 h0 90).toInt := by rw [(f1σ86.1 90 (by decide)).1]
                            have tk130 : (sI σ86 h0 16).toInt = (sI σ71 h0 16).toInt := by rw [(f1σ86.1 16 (by decide)).1]
                            have hG := hG.fr f1σ86 (by decide) (by decide)
                            have hq := (f1σ86.1 85 (by decide)).2.2.trans hq
                            have h3 := And.intro ((sI_ff f1σ86 (j := 30) (by decide) (by decide)).trans h3.1) ((sI_ff f1σ86 (j := 25) (by decide) (by decide)).trans h3.2)
                            exact hK13 () σ86 ⟨hI, hfr, trivial, (hG.mono (by (try dsimp only); omega)), h3⟩
                          · exact hK89 () σ71 ⟨rfl, trivial⟩
                    · skip
                      refine ⟨fun c16 => ?_, fun c16 => ?_⟩
                      · refine ⟨by omega, ?_⟩
                        intro z138 ez138
                        have vz138 := hI.aI 26 6 0 1 (by decide) (by decide) rfl rfl rfl (i := a1.toInt) (by omega) ez138
                        have wz138 : z138.toInt = (sI σ71 (L 26) a1.toInt.toNat).toInt := by rw [ez138]
                        exact hK77 z138 σ71 ⟨rfl, (by (try dsimp only); omega)⟩
                      · refine ⟨by omega, ?_⟩
                        intro z139 ez139
                        have vz139 := hI.aI 26 6 0 1 (by decide) (by decide) rfl rfl rfl (i := a1.toInt) (by omega) ez139
                        have wz139 : z139.toInt = (sI σ71 (L 26) a1.toInt.toNat).toInt := by rw [ez139]
                        refine ⟨fun c17 => ?_, fun c17 => ?_⟩
                        · exact hK77 0 σ71 ⟨rfl, (by (try dsimp only); omega)⟩
                        · exact hK77 1 σ71 ⟨rfl, (by (try dsimp only); omega)⟩
                  · skip
                    refine ⟨fun c18 => ?_, fun c18 => ?_⟩
                    · exact hK65 0 σ53 ⟨rfl, (by (try dsimp only); omega)⟩
                    · exact hK65 1 σ53 ⟨rfl, (by (try dsimp only); omega)⟩
                · skip
                  refine ⟨fun c19 => ?_, fun c19 => ?_⟩
                  · exact hK57 0 σ53 ⟨rfl, (by (try dsimp only); omega)⟩
                  · exact hK57 1 σ53 ⟨rfl, (by (try dsimp only); omega)⟩
              · skip
                refine ⟨fun c20 => ?_, fun c20 => ?_⟩
                · exact hK50 0 σ47 ⟨rfl, (by (try dsimp only); omega)⟩
                · exact hK50 1 σ47 ⟨rfl, (by (try dsimp only); omega)⟩
            · skip
              refine ⟨fun c21 => ?_, fun c21 => ?_⟩
              · intro z140 ez140
                try have hz140 := l_toi ez140 (by omega) (by omega)
                have rg_z140 := i_range z140
                exact hK44 z140 σ30 ⟨rfl, (by (try dsimp only); omega)⟩
              · exact hK44 z31 σ30 ⟨rfl, (by (try dsimp only); omega)⟩
          · (try dsimp only)
            refine ⟨by omega, ?_⟩
            intro σ37 eσ37
            have hMp := hI.2
            have hI := hI.pF 92 0 1 rfl rfl (by omega) eσ37
            have hfr := hfr.fI hMp eσ37 (by decide) rfl
            have uσ37 : (sI σ37 h0 92).toInt = (1 : Int32).toInt := by rw [eσ37]; exact congrArg Int32.toInt u2_same
            have f1σ37 : Fr h0 L [92] [] σ30 σ37 := Fr.rf.fI hMp eσ37 (by decide) rfl
            have tk131 : (sI σ37 h0 86).toInt = (sI σ30 h0 86).toInt := by rw [(f1σ37.1 86 (by decide)).1]
            have tk132 : (sI σ37 h0 87).toInt = (sI σ30 h0 87).toInt := by rw [(f1σ37.1 87 (by decide)).1]
            have tk133 : (sI σ37 h0 110).toInt = (sI σ30 h0 110).toInt := by rw [(f1σ37.1 110 (by decide)).1]
            have tk134 : (sI σ37 h0 90).toInt = (sI σ30 h0 90).toInt := by rw [(f1σ37.1 90 (by decide)).1]
            have tk135 : (sI σ37 h0 16).toInt = (sI σ30 h0 16).toInt := by rw [(f1σ37.1 16 (by decide)).1]
            have hG := hG.fr f1σ37 (by decide) (by decide)
            have hq := (f1σ37.1 85 (by decide)).2.2.trans hq
            have h3 := And.intro ((sI_ff f1σ37 (j := 30) (by decide) (by decide)).trans h3.1) ((sI_ff f1σ37 (j := 25) (by decide) (by decide)).trans h3.2)
            exact hK13 () σ37 ⟨hI, hfr, trivial, (hG.mono (by (try dsimp only); omega)), h3⟩

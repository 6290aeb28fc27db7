/-! locks are taken away -/
set_option maxRecDepth 100000 in
set_option maxHeartbeats 4000000 in
theorem s_X12_unlocks {h0 : Nat} {L : Nat → Nat} {σ : HS} (hI : OKM h0 L σ) (a1 : Int32) (hN : InM h0 L σ (sI σ h0 87).toInt) (hz : 0 ≤ a1.toInt ∧ a1.toInt ≤ 8 ∧ 88 + 24 * a1.toInt ≤ (sI σ h0 87).toInt ∧ 0 ≤ (sI σ h0 100).toInt) {post : Int64 → HS → Prop} (kk : ∀ (r : Int64) (σ' : HS), OKM h0 L σ' → Fr h0 L [63, 69, 91] [27, 28, 56, 57, 58, 59, 60, 61, 62, 63, 64, 65, 66, 67, 68, 69, 70, 71, 72, 73, 74, 75, 76] σ σ' → (Sub h0 L σ σ') → post r σ') : F_X12_unlocks h0 L a1 post σ := by
  unfold F_X12_unlocks
  have k_0 : (0 : Int32).toInt = 0 := rfl
  have k_1 : (1 : Int32).toInt = 1 := rfl
  have k_4 : (4 : Int32).toInt = 4 := rfl
  have k_8 : (8 : Int32).toInt = 8 := rfl
  have k_24 : (24 : Int32).toInt = 24 := rfl
  have k_88 : (88 : Int32).toInt = 88 := rfl
  have k_96 : (96 : Int32).toInt = 96 := rfl
  have kl_3221225598 : (3221225598 : Int64).toInt = 3221225598 := rfl
  have rg_a1 := i_range a1
  have hfr : Fr h0 L [63, 69, 91] [27, 28, 56, 57, 58, 59, 60, 61, 62, 63, 64, 65, 66, 67, 68, 69, 70, 71, 72, 73, 74, 75, 76] σ σ := Fr.rf
  have h87 : (0 : Int) ≤ (sI σ h0 87).toInt ∧ (sI σ h0 87).toInt ≤ 4000 := hI.fI 87 0 4000 (by decide) rfl rfl rfl rfl
  intro z1 ez1
  have vz1 := hI.fI 100 (-1) 39 (by decide) rfl rfl rfl ez1
  have wz1 : z1.toInt = (sI σ h0 100).toInt := by rw [ez1, (hfr.1 100 (by decide)).1]
  refine ⟨by omega, ?_⟩
  intro z2 ez2
  have wz2 : z2.toInt = (sJ σ (L 41) z1.toInt.toNat).toInt := by rw [ez2]
  refine lw_in (fun (x : Int32 × Int32) (σ' : HS) => OKM h0 L σ' ∧ Fr h0 L [63, 69, 91] [27, 28, 56, 57, 58, 59, 60, 61, 62, 63, 64, 65, 66, 67, 68, 69, 70, 71, 72, 73, 74, 75, 76] σ σ' ∧ ((0 ≤ x.1.toInt ∧ x.1.toInt ≤ 8) ∧ (0 ≤ x.1.toInt ∧ x.1.toInt ≤ a1.toInt) ∧ (0 ≤ x.2.toInt ∧ x.2.toInt ≤ 1)) ∧ (Sub h0 L σ σ')) (fun (x : Int32 × Int32) (σ' : HS) => (a1.toInt - x.1.toInt).toNat) ⟨hI, hfr, (by (try dsimp only); omega), (by first | exact Sub.rf | exact hS | exact hS.tr (Sub.fr fz44 (by decide) (by decide)))⟩ (fun x3 σ4 hJ K5 hK5 => ?_)
  obtain ⟨hI, hfr, hv, hS⟩ := hJ
  (try dsimp only at hv)
  have rg_x3_1 := i_range x3.1
  have rg_x3_2 := i_range x3.2
  refine jn_in (fun (x : Unit) (σ' : HS) => OKM h0 L σ' ∧ Fr h0 L [63, 69, 91] [27, 28, 56, 57, 58, 59, 60, 61, 62, 63, 64, 65, 66, 67, 68, 69, 70, 71, 72, 73, 74, 75, 76] σ σ' ∧ (True) ∧ (Sub h0 L σ σ')) (fun x7 σ8 hJ => ?_) (fun K9 hK9 => ?_)
  · obtain ⟨hI, hfr, hv, hS⟩ := hJ
    (try dsimp only at hv)
    refine s_X12_lookLocks hI   (fun σ12 hI fz13 pz13 => ?_)
    have hfr := hfr.tr fz13 (by decide) (by decide)
    refine jn_dup ?_
    refine ⟨fun c1 => ?_, fun c1 => ?_⟩
    · (try dsimp only)
      exact kk 3221225598 σ12 hI hfr (by first | exact hS.tr pz13 | exact (hS.tr pz13).tr (Sub.fr fz20 (by decide) (by decide)))
    · refine s_X12_small hI 4 (by omega) (fun z20 σ19 hI fz20 pz20 => ?_)
      have hfr := hfr.tr fz20 (by decide) (by decide)
      have tk2 : (sI σ19 h0 63).toInt = (sI σ12 h0 63).toInt := by rw [(fz20.1 63 (by decide)).1]
      (try dsimp only)
      exact kk z20 σ19 hI hfr (by first | exact hS.tr pz13 | exact (hS.tr pz13).tr (Sub.fr fz20 (by decide) (by decide)))
  · skip
    refine ⟨fun c2 => ?_, fun c2 => ?_⟩
    · exact hK9 () σ4 ⟨hI, hfr, trivial, (by first | exact Sub.rf | exact hS | exact hS.tr (Sub.fr fz44 (by decide) (by decide)))⟩
    · refine ⟨fun c3 => ?_, fun c3 => ?_⟩
      · exact hK9 () σ4 ⟨hI, hfr, trivial, (by first | exact Sub.rf | exact hS | exact hS.tr (Sub.fr fz44 (by decide) (by decide)))⟩
      · refine lw_in (fun (x : Int32) (σ' : HS) => OKM h0 L σ' ∧ Fr h0 L [63, 69, 91] [27, 28, 56, 57, 58, 59, 60, 61, 62, 63, 64, 65, 66, 67, 68, 69, 70, 71, 72, 73, 74, 75, 76] σ σ' ∧ ((0 ≤ x.toInt ∧ x.toInt ≤ 81)) ∧ (Sub h0 L σ σ')) (fun (x : Int32) (σ' : HS) => (82 - x.toInt).toNat) ⟨hI, hfr, (by (try dsimp only); omega), (by first | exact Sub.rf | exact hS | exact hS.tr (Sub.fr fz44 (by decide) (by decide)))⟩ (fun x21 σ22 hJ K23 hK23 => ?_)
        obtain ⟨hI, hfr, hv, hS⟩ := hJ
        (try dsimp only at hv)
        have rg_x21 := i_range x21
        intro z25 ez25
        have vz25 := hI.fI 63 0 80 (by decide) rfl rfl rfl ez25
        have wz25 : z25.toInt = (sI σ22 h0 63).toInt := by rw [ez25]
        refine jn_in (fun (x : Unit) (σ' : HS) => OKM h0 L σ' ∧ Fr h0 L [63, 69, 91] [27, 28, 56, 57, 58, 59, 60, 61, 62, 63, 64, 65, 66, 67, 68, 69, 70, 71, 72, 73, 74, 75, 76] σ σ' ∧ (True) ∧ (Sub h0 L σ σ')) (fun x26 σ27 hJ => ?_) (fun K28 hK28 => ?_)
        · obtain ⟨hI, hfr, hv, hS⟩ := hJ
          (try dsimp only at hv)
          intro z31 ez31
          have vz31 := hI.fI 63 0 80 (by decide) rfl rfl rfl ez31
          have wz31 : z31.toInt = (sI σ27 h0 63).toInt := by rw [ez31]
          refine jn_in (fun (x : Int32) (σ' : HS) => OKM h0 L σ' ∧ Fr h0 L [63, 69, 91] [27, 28, 56, 57, 58, 59, 60, 61, 62, 63, 64, 65, 66, 67, 68, 69, 70, 71, 72, 73, 74, 75, 76] σ σ' ∧ ((0 ≤ x.toInt ∧ x.toInt ≤ 1) ∧ (x.toInt ≠ 0 → x21.toInt < (sI σ' h0 63).toInt)) ∧ (Sub h0 L σ σ')) (fun x32 σ33 hJ => ?_) (fun K34 hK34 => ?_)
          · obtain ⟨hI, hfr, hv, hS⟩ := hJ
            (try dsimp only at hv)
            have rg_x32 := i_range x32
            refine jn_dup ?_
            refine ⟨fun c4 => ?_, fun c4 => ?_⟩
            · (try dsimp only)
              intro z42 ez42
              try have hz42 := i_add ez42 (by omega) (by omega)
              have rg_z42 := i_range z42
              exact hK5 (z42, x32) σ33 ⟨hI, hfr, (by (try dsimp only); omega), (by first | exact Sub.rf | exact hS | exact hS.tr (Sub.fr fz44 (by decide) (by decide)))⟩ (by (try dsimp only); omega)
            · refine s_X12_unlock hI x21 (by omega) (fun σ43 hI fz44 pz44 => ?_)
              have hfr := hfr.tr fz44 (by decide) (by decide)
              (try dsimp only)
              intro z42 ez42
              try have hz42 := i_add ez42 (by omega) (by omega)
              have rg_z42 := i_range z42
              exact hK5 (z42, x32) σ43 ⟨hI, hfr, (by (try dsimp only); omega), (by first | exact Sub.rf | exact hS | exact hS.tr (Sub.fr fz44 (by decide) (by decide)))⟩ (by (try dsimp only); omega)
          · skip
            refine ⟨fun c5 => ?_, fun c5 => ?_⟩
            · exact hK34 0 σ27 ⟨hI, hfr, (by (try dsimp only); omega), (by first | exact Sub.rf | exact hS | exact hS.tr (Sub.fr fz44 (by decide) (by decide)))⟩
            · exact hK34 1 σ27 ⟨hI, hfr, (by (try dsimp only); omega), (by first | exact Sub.rf | exact hS | exact hS.tr (Sub.fr fz44 (by decide) (by decide)))⟩
        · skip
          refine ⟨fun c6 => ?_, fun c6 => ?_⟩
          · exact hK28 () σ22 ⟨hI, hfr, trivial, (by first | exact Sub.rf | exact hS | exact hS.tr (Sub.fr fz44 (by decide) (by decide)))⟩
          · refine ⟨by omega, ?_⟩
            intro z45 ez45
            have wz45 : z45.toInt = (sJ σ22 (L 56) x21.toInt.toNat).toInt := by rw [ez45]
            refine jn_dup ?_
            refine ⟨fun c7 => ?_, fun c7 => ?_⟩
            · (try dsimp only)
              intro z51 ez51
              try have hz51 := i_add ez51 (by omega) (by omega)
              have rg_z51 := i_range z51
              exact hK23 z51 σ22 ⟨hI, hfr, (by (try dsimp only); omega), (by first | exact Sub.rf | exact hS | exact hS.tr (Sub.fr fz44 (by decide) (by decide)))⟩ (by (try dsimp only); omega)
            · refine ⟨by omega, ?_⟩
              intro z52 ez52
              have wz52 : z52.toInt = (sJ σ22 (L 58) x21.toInt.toNat).toInt := by rw [ez52]
              intro z53 ez53
              try have hz53 := i_mulk 24 rfl ez53 (by omega) (by omega)
              have rg_z53 := i_range z53
              intro z54 ez54
              try have hz54 := i_add ez54 (by omega) (by omega)
              have rg_z54 := i_range z54
              refine s_X12_number hI z54 8 (by omega) ((hN.fr hfr (by decide) (by decide)).le (by omega)) (fun z56 pz56 => ?_)
              refine ⟨fun c8 => ?_, fun c8 => ?_⟩
              · (try dsimp only)
                intro z51 ez51
                try have hz51 := i_add ez51 (by omega) (by omega)
                have rg_z51 := i_range z51
                exact hK23 z51 σ22 ⟨hI, hfr, (by (try dsimp only); omega), (by first | exact Sub.rf | exact hS | exact hS.tr (Sub.fr fz44 (by decide) (by decide)))⟩ (by (try dsimp only); omega)
              · refine ⟨by omega, ?_⟩
                intro z57 ez57
                have wz57 : z57.toInt = (sJ σ22 (L 59) x21.toInt.toNat).toInt := by rw [ez57]
                intro z58 ez58
                try have hz58 := i_mulk 24 rfl ez58 (by omega) (by omega)
                have rg_z58 := i_range z58
                intro z59 ez59
                try have hz59 := i_add ez59 (by omega) (by omega)
                have rg_z59 := i_range z59
                refine s_X12_number hI z59 8 (by omega) ((hN.fr hfr (by decide) (by decide)).le (by omega)) (fun z61 pz61 => ?_)
                refine ⟨fun c9 => ?_, fun c9 => ?_⟩
                · exact hK28 () σ22 ⟨hI, hfr, trivial, (by first | exact Sub.rf | exact hS | exact hS.tr (Sub.fr fz44 (by decide) (by decide)))⟩
                · (try dsimp only)
                  intro z51 ez51
                  try have hz51 := i_add ez51 (by omega) (by omega)
                  have rg_z51 := i_range z51
                  exact hK23 z51 σ22 ⟨hI, hfr, (by (try dsimp only); omega), (by first | exact Sub.rf | exact hS | exact hS.tr (Sub.fr fz44 (by decide) (by decide)))⟩ (by (try dsimp only); omega)

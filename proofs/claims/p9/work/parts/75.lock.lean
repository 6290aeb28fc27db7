/-! locks are laid -/
/-- none, or one more waits: who waited waits -/
def Wt1 (h0 : Nat) (L : Nat → Nat) (σ σ' : HS) : Prop := ((sI σ' h0 69).toInt = (sI σ h0 69).toInt ∨ ((sI σ' h0 69).toInt = (sI σ h0 69).toInt + 1 ∧ ∃ r : Nat, (r : Int) = (sI σ h0 69).toInt ∧ (sI σ' (L 62) r).toInt = (sI σ h0 93).toInt ∧ (sI σ' (L 68) r).toInt = (sI σ h0 99).toInt)) ∧ ∀ w : Nat, (w : Int) < (sI σ h0 69).toInt → EqW L σ σ' w w
set_option maxRecDepth 100000 in
set_option maxHeartbeats 4000000 in
theorem s_X12_locksAll {h0 : Nat} {L : Nat → Nat} {σ : HS} (hI : OKM h0 L σ) (a1 : Int32) (a2 : Int32) (hN : InM h0 L σ (sI σ h0 87).toInt) (hz : 0 ≤ a1.toInt ∧ a1.toInt ≤ 79 ∧ 1 ≤ a2.toInt ∧ a2.toInt ≤ 8 ∧ 88 + 24 * a2.toInt ≤ (sI σ h0 87).toInt ∧ 0 ≤ (sI σ h0 100).toInt ∧ 0 ≤ (sI σ h0 98).toInt ∧ 0 ≤ (sI σ h0 99).toInt) {post : Int64 → HS → Prop} (kk : ∀ (r : Int64) (σ' : HS), OKM h0 L σ' → Fr h0 L [62, 63, 69, 91, 109] [27, 28, 46, 56, 57, 58, 59, 60, 61, 62, 63, 64, 65, 66, 67, 68, 69, 70, 71, 72, 73, 74, 76] σ σ' → (Wt1 h0 L σ σ') → post r σ') : F_X12_locksAll h0 L a1 a2 post σ := by
  unfold F_X12_locksAll
  have k_m1 : ((-1) : Int32).toInt = (-1) := rfl
  have k_0 : (0 : Int32).toInt = 0 := rfl
  have k_1 : (1 : Int32).toInt = 1 := rfl
  have k_4 : (4 : Int32).toInt = 4 := rfl
  have k_8 : (8 : Int32).toInt = 8 := rfl
  have k_16 : (16 : Int32).toInt = 16 := rfl
  have k_24 : (24 : Int32).toInt = 24 := rfl
  have k_60 : (60 : Int32).toInt = 60 := rfl
  have k_88 : (88 : Int32).toInt = 88 := rfl
  have k_96 : (96 : Int32).toInt = 96 := rfl
  have k_104 : (104 : Int32).toInt = 104 := rfl
  have kl_0 : (0 : Int64).toInt = 0 := rfl
  have kl_1 : (1 : Int64).toInt = 1 := rfl
  have kl_16 : (16 : Int64).toInt = 16 := rfl
  have kl_259 : (259 : Int64).toInt = 259 := rfl
  have kl_3221225557 : (3221225557 : Int64).toInt = 3221225557 := rfl
  have kl_3221225626 : (3221225626 : Int64).toInt = 3221225626 := rfl
  have rg_a1 := i_range a1
  have rg_a2 := i_range a2
  have hfr : Fr h0 L [62, 63, 69, 91, 109] [27, 28, 46, 56, 57, 58, 59, 60, 61, 62, 63, 64, 65, 66, 67, 68, 69, 70, 71, 72, 73, 74, 76] σ σ := Fr.rf
  have h87 : (0 : Int) ≤ (sI σ h0 87).toInt ∧ (sI σ h0 87).toInt ≤ 4000 := hI.fI 87 0 4000 (by decide) rfl rfl rfl rfl
  intro z1 ez1
  have vz1 := hI.fI 63 0 80 (by decide) rfl rfl rfl ez1
  have wz1 : z1.toInt = (sI σ h0 63).toInt := by rw [ez1]
  intro z2 ez2
  try have hz2 := i_add ez2 (by omega) (by omega)
  have rg_z2 := i_range z2
  refine ⟨fun c1 => ?_, fun c1 => ?_⟩
  · refine s_X12_breakSecond hI a1 (-1) (by omega) (fun σ3 hI fz4 pz4 => ?_)
    have hfr := hfr.tr fz4 (by decide) (by decide)
    have tk1 : (sI σ3 h0 63).toInt = (sI σ h0 63).toInt := by rw [(fz4.1 63 (by decide)).1]
    have tk2 : (sI σ3 h0 69).toInt = (sI σ h0 69).toInt := by rw [(fz4.1 69 (by decide)).1]
    intro z5 ez5
    have vz5 := hI.fI 63 0 80 (by decide) rfl rfl rfl ez5
    have wz5 : z5.toInt = (sI σ3 h0 63).toInt := by rw [ez5]
    refine lw_in (fun (x : Int32) (σ' : HS) => OKM h0 L σ' ∧ Fr h0 L [62, 63, 69, 91, 109] [27, 28, 46, 56, 57, 58, 59, 60, 61, 62, 63, 64, 65, 66, 67, 68, 69, 70, 71, 72, 73, 74, 76] σ σ' ∧ ((0 ≤ x.toInt ∧ x.toInt ≤ 8) ∧ (0 ≤ x.toInt ∧ x.toInt ≤ a2.toInt) ∧ ((sI σ' h0 63).toInt + (a2.toInt - x.toInt) ≤ 60) ∧ ((sI σ' h0 69).toInt = (sI σ h0 69).toInt)) ∧ (∀ w : Nat, EqW L σ σ' w w)) (fun (x : Int32) (σ' : HS) => (a2.toInt - x.toInt).toNat) ⟨hI, hfr, (by (try dsimp only); omega), (fun w => by first | exact EqW.fr fz4 (by decide) | exact (hE w).tr (EqW.fr fz50 (by decide)))⟩ (fun x6 σ7 hJ K8 hK8 => ?_)
    obtain ⟨hI, hfr, hv, hE⟩ := hJ
    (try dsimp only at hv)
    have rg_x6 := i_range x6
    refine ⟨fun c2 => ?_, fun c2 => ?_⟩
    · refine s_X12_small hI 4 (by omega) (fun z11 σ10 hI fz11 pz11 => ?_)
      have hfr := hfr.tr fz11 (by decide) (by decide)
      have tk3 : (sI σ10 h0 63).toInt = (sI σ7 h0 63).toInt := by rw [(fz11.1 63 (by decide)).1]
      have tk4 : (sI σ10 h0 69).toInt = (sI σ7 h0 69).toInt := by rw [(fz11.1 69 (by decide)).1]
      exact kk z11 σ10 hI hfr ⟨Or.inl (by omega), fun w _ => (hE w).tr (EqW.fr fz11 (by decide))⟩
    · intro z12 ez12
      try have hz12 := i_mulk 24 rfl ez12 (by omega) (by omega)
      have rg_z12 := i_range z12
      intro z13 ez13
      try have hz13 := i_add ez13 (by omega) (by omega)
      have rg_z13 := i_range z13
      refine s_X12_number hI z13 8 (by omega) ((hN.fr hfr (by decide) (by decide)).le (by omega)) (fun z15 pz15 => ?_)
      intro z16 ez16
      try have hz16 := i_mulk 24 rfl ez16 (by omega) (by omega)
      have rg_z16 := i_range z16
      intro z17 ez17
      try have hz17 := i_add ez17 (by omega) (by omega)
      have rg_z17 := i_range z17
      refine s_X12_number hI z17 8 (by omega) ((hN.fr hfr (by decide) (by decide)).le (by omega)) (fun z19 pz19 => ?_)
      intro z20 ez20
      try have hz20 := i_mulk 24 rfl ez20 (by omega) (by omega)
      have rg_z20 := i_range z20
      intro z21 ez21
      try have hz21 := i_add ez21 (by omega) (by omega)
      have rg_z21 := i_range z21
      refine s_X12_number hI z21 4 (by omega) ((hN.fr hfr (by decide) (by decide)).le (by omega)) (fun z23 pz23 => ?_)
      have tz23 : z23.toInt = (NUM h0 L σ7 z21.toInt 4 : Int) ∧ z23.toInt < 4294967296 := num_t (n := 4) (K := 4294967296) pz23 rfl (by decide)
      intro z24 ez24
      try have hz24 := l_and ez24 (by omega)
      have rg_z24 := l_range z24
      refine jn_in (fun (x : Int32) (σ' : HS) => OKM h0 L σ' ∧ Fr h0 L [62, 63, 69, 91, 109] [27, 28, 46, 56, 57, 58, 59, 60, 61, 62, 63, 64, 65, 66, 67, 68, 69, 70, 71, 72, 73, 74, 76] σ σ' ∧ ((0 ≤ x.toInt ∧ x.toInt ≤ 1) ∧ ((sI σ' h0 63).toInt + (a2.toInt - x6.toInt) ≤ 60) ∧ ((sI σ' h0 69).toInt = (sI σ h0 69).toInt)) ∧ (∀ w : Nat, EqW L σ σ' w w)) (fun x25 σ26 hJ => ?_) (fun K27 hK27 => ?_)
      · obtain ⟨hI, hfr, hv, hE⟩ := hJ
        (try dsimp only at hv)
        have rg_x25 := i_range x25
        refine s_X12_canBe hI a1 z15 z19 x25  (fun z31 pz31 => ?_)
        have rg_z31 := i_range z31
        refine ⟨fun c3 => ?_, fun c3 => ?_⟩
        · intro σ32 eσ32
          have hMp := hI.2
          have hI := hI.pF 63 0 80 rfl rfl (by omega) eσ32
          have hfr := hfr.fI hMp eσ32 (by decide) rfl
          have uσ32 : (sI σ32 h0 63).toInt = z5.toInt := by rw [eσ32]; exact congrArg Int32.toInt u2_same
          have f1σ32 : Fr h0 L [63] [] σ26 σ32 := Fr.rf.fI hMp eσ32 (by decide) rfl
          have tk6 : (sI σ32 h0 69).toInt = (sI σ26 h0 69).toInt := by rw [(f1σ32.1 69 (by decide)).1]
          refine jn_dup ?_
          refine ⟨fun c4 => ?_, fun c4 => ?_⟩
          · (try dsimp only)
            exact kk 3221225557 σ32 hI hfr ⟨Or.inl (by omega), fun w _ => (hE w).tr (EqW.fr f1σ32 (by decide))⟩
          · intro z38 ez38
            have vz38 := hI.fI 95 0 1 (by decide) rfl rfl rfl ez38
            have wz38 : z38.toInt = (sI σ h0 95).toInt := by rw [ez38, (hfr.1 95 (by decide)).1]
            refine ⟨fun c5 => ?_, fun c5 => ?_⟩
            · intro z39 ez39
              have vz39 := hI.fI 69 0 16 (by decide) rfl rfl rfl ez39
              have wz39 : z39.toInt = (sI σ32 h0 69).toInt := by rw [ez39]
              refine ⟨fun c6 => ?_, fun c6 => ?_⟩
              · intro z40 ez40
                have vz40 := hI.fI 100 (-1) 39 (by decide) rfl rfl rfl ez40
                have wz40 : z40.toInt = (sI σ h0 100).toInt := by rw [ez40, (hfr.1 100 (by decide)).1]
                refine ⟨by omega, ?_⟩
                intro z41 ez41
                have wz41 : z41.toInt = (sJ σ32 (L 41) z40.toInt.toNat).toInt := by rw [ez41]
                have b87 := congrArg Int32.toInt (hfr.1 87 (by decide)).1
                have b93 := congrArg Int32.toInt (hfr.1 93 (by decide)).1
                have b98 := congrArg Int32.toInt (hfr.1 98 (by decide)).1
                have b99 := congrArg Int32.toInt (hfr.1 99 (by decide)).1
                refine s_X12_waitFor hI a1 z41 ((hN.fr hfr (by decide) (by decide)).le (by omega)) (by omega) (fun z43 σ42 hI fz43 pz43 => ?_)
                have hfr := hfr.tr fz43 (by decide) (by decide)
                have tk7 : (sI σ42 h0 63).toInt = (sI σ32 h0 63).toInt := by rw [(fz43.1 63 (by decide)).1]
                have rg_z43 := i_range z43
                refine ⟨by omega, ?_⟩
                intro σ44 eσ44
                have hMp := hI.2
                have hI := hI.pJ eσ44
                have hfr := hfr.aJ hMp (by decide) eσ44 (by decide)
                have f1σ44 : Fr h0 L [] [71] σ42 σ44 := Fr.rf.aJ hMp (by decide) eσ44 (by decide)
                have tk9 : (sI σ44 h0 63).toInt = (sI σ42 h0 63).toInt := by rw [(f1σ44.1 63 (by decide)).1]
                have tk10 : (sI σ44 h0 69).toInt = (sI σ42 h0 69).toInt := by rw [(f1σ44.1 69 (by decide)).1]
                have g62σ44 := congrArg Int32.toInt (f1σ44.2.1 62 (by decide) (by decide) z43.toInt.toNat).1
                have g68σ44 := congrArg Int32.toInt (f1σ44.2.1 68 (by decide) (by decide) z43.toInt.toNat).1
                refine ⟨by omega, ?_⟩
                intro σ45 eσ45
                have hMp := hI.2
                have hI := hI.pJ eσ45
                have hfr := hfr.aJ hMp (by decide) eσ45 (by decide)
                have f1σ45 : Fr h0 L [] [72] σ44 σ45 := Fr.rf.aJ hMp (by decide) eσ45 (by decide)
                have tk11 : (sI σ45 h0 63).toInt = (sI σ44 h0 63).toInt := by rw [(f1σ45.1 63 (by decide)).1]
                have tk12 : (sI σ45 h0 69).toInt = (sI σ44 h0 69).toInt := by rw [(f1σ45.1 69 (by decide)).1]
                have g62σ45 := congrArg Int32.toInt (f1σ45.2.1 62 (by decide) (by decide) z43.toInt.toNat).1
                have g68σ45 := congrArg Int32.toInt (f1σ45.2.1 68 (by decide) (by decide) z43.toInt.toNat).1
                refine ⟨by omega, ?_⟩
                intro σ46 eσ46
                have hMp := hI.2
                have hI := hI.pA 73 0 1 (by decide) (by decide) rfl rfl (i_bool _) eσ46
                have hfr := hfr.aI hMp (by decide) eσ46 (by decide)
                have f1σ46 : Fr h0 L [] [73] σ45 σ46 := Fr.rf.aI hMp (by decide) eσ46 (by decide)
                have tk13 : (sI σ46 h0 63).toInt = (sI σ45 h0 63).toInt := by rw [(f1σ46.1 63 (by decide)).1]
                have tk14 : (sI σ46 h0 69).toInt = (sI σ45 h0 69).toInt := by rw [(f1σ46.1 69 (by decide)).1]
                have g62σ46 := congrArg Int32.toInt (f1σ46.2.1 62 (by decide) (by decide) z43.toInt.toNat).1
                have g68σ46 := congrArg Int32.toInt (f1σ46.2.1 68 (by decide) (by decide) z43.toInt.toNat).1
                exact kk 259 σ46 hI hfr ⟨Or.inr ⟨by omega, z43.toInt.toNat, by omega, by omega, by omega⟩, fun w hw => (((((hE w).tr (EqW.fr f1σ32 (by decide))).tr (pz43.2.2.1 w (by omega))).tr (EqW.uJ eσ44 (by omega))).tr (EqW.uJ eσ45 (by omega))).tr (EqW.uI eσ46 hMp (by decide) (by omega))⟩
              · exact kk 3221225626 σ32 hI hfr ⟨Or.inl (by omega), fun w _ => (hE w).tr (EqW.fr f1σ32 (by decide))⟩
            · (try dsimp only)
              exact kk 3221225557 σ32 hI hfr ⟨Or.inl (by omega), fun w _ => (hE w).tr (EqW.fr f1σ32 (by decide))⟩
        · intro z47 ez47
          have vz47 := hI.fI 100 (-1) 39 (by decide) rfl rfl rfl ez47
          have wz47 : z47.toInt = (sI σ h0 100).toInt := by rw [ez47, (hfr.1 100 (by decide)).1]
          refine ⟨by omega, ?_⟩
          intro z48 ez48
          have wz48 : z48.toInt = (sJ σ26 (L 41) z47.toInt.toNat).toInt := by rw [ez48]
          refine s_X12_addLock hI z48 a1 z15 z19 x25 (by omega) (fun σ49 hI fz50 pz50 => ?_)
          have hfr := hfr.tr fz50 (by decide) (by decide)
          have tk16 : (sI σ49 h0 69).toInt = (sI σ26 h0 69).toInt := by rw [(fz50.1 69 (by decide)).1]
          intro z51 ez51
          try have hz51 := i_add ez51 (by omega) (by omega)
          have rg_z51 := i_range z51
          exact hK8 z51 σ49 ⟨hI, hfr, (by (try dsimp only); omega), (fun w => by first | exact EqW.fr fz4 (by decide) | exact (hE w).tr (EqW.fr fz50 (by decide)))⟩ (by (try dsimp only); omega)
      · skip
        refine ⟨fun c7 => ?_, fun c7 => ?_⟩
        · exact hK27 0 σ7 ⟨hI, hfr, (by (try dsimp only); omega), hE⟩
        · exact hK27 1 σ7 ⟨hI, hfr, (by (try dsimp only); omega), hE⟩
  · exact kk 3221225626 σ hI hfr ⟨Or.inl rfl, fun w _ => EqW.rf⟩

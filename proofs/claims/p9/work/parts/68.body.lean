/-! bodies, small answers -/
set_option maxRecDepth 100000 in
set_option maxHeartbeats 4000000 in
theorem s_X12_tellBreak {h0 : Nat} {L : Nat → Nat} {σ : HS} (hI : OKM h0 L σ) (a1 : Int32) (a2 : Int32) (hz : 0 ≤ a1.toInt ∧ a1.toInt < 40) {post : HS → Prop} (kk : ∀ (σ' : HS), OKM h0 L σ' → Fr h0 L [] [27, 28, 76] σ σ' → (True) → post σ') : F_X12_tellBreak h0 L a1 a2 post σ := by
  unfold F_X12_tellBreak
  have k_0 : (0 : Int32).toInt = 0 := rfl
  have k_1 : (1 : Int32).toInt = 1 := rfl
  have k_2 : (2 : Int32).toInt = 2 := rfl
  have k_8 : (8 : Int32).toInt = 8 := rfl
  have k_18 : (18 : Int32).toInt = 18 := rfl
  have k_24 : (24 : Int32).toInt = 24 := rfl
  have k_64 : (64 : Int32).toInt = 64 := rfl
  have k_66 : (66 : Int32).toInt = 66 := rfl
  have k_72 : (72 : Int32).toInt = 72 := rfl
  have k_80 : (80 : Int32).toInt = 80 := rfl
  have k_85000 : (85000 : Int32).toInt = 85000 := rfl
  have kl_m1 : ((-1) : Int64).toInt = (-1) := rfl
  have kl_0 : (0 : Int64).toInt = 0 := rfl
  have kl_1 : (1 : Int64).toInt = 1 := rfl
  have kl_24 : (24 : Int64).toInt = 24 := rfl
  have rg_a1 := i_range a1
  have rg_a2 := i_range a2
  have hfr : Fr h0 L [90, 91] [27, 28, 76] σ σ := Fr.rf
  intro z1 ez1
  have vz1 := hI.fI 90 0 85000 (by decide) rfl rfl rfl ez1
  have wz1 : z1.toInt = (sI σ h0 90).toInt := by rw [ez1]
  intro z2 ez2
  have vz2 := hI.fI 91 0 1200 (by decide) rfl rfl rfl ez2
  have wz2 : z2.toInt = (sI σ h0 91).toInt := by rw [ez2]
  intro σ3 eσ3
  have hMp := hI.2
  have hI := hI.pF 90 0 85000 rfl rfl (by omega) eσ3
  have hfr := hfr.fI hMp eσ3 (by decide) rfl
  have uσ3 : (sI σ3 h0 90).toInt = (85000 : Int32).toInt := by rw [eσ3]; exact congrArg Int32.toInt u2_same
  have f1σ3 : Fr h0 L [90] [] σ σ3 := Fr.rf.fI hMp eσ3 (by decide) rfl
  have tk2 : (sI σ3 h0 91).toInt = (sI σ h0 91).toInt := by rw [(f1σ3.1 91 (by decide)).1]
  refine s_X12_body hI 24 (by omega) (fun σ4 hI fz5 pz5 => ?_)
  have hfr := hfr.tr fz5 (by decide) (by decide)
  have tk3 : (sI σ4 h0 90).toInt = (sI σ3 h0 90).toInt := by rw [(fz5.1 90 (by decide)).1]
  refine s_X12_set hI 64 2 24 (by omega) (fun σ6 hI fz7 pz7 => ?_)
  have hfr := hfr.tr fz7 (by decide) (by decide)
  have tk5 : (sI σ6 h0 90).toInt = (sI σ4 h0 90).toInt := by rw [(fz7.1 90 (by decide)).1]
  have tk6 : (sI σ6 h0 91).toInt = (sI σ4 h0 91).toInt := by rw [(fz7.1 91 (by decide)).1]
  intro z8 ez8
  have hz8 := i_tol ez8
  have rg_z8 := l_range z8
  refine s_X12_set hI 66 1 z8 (by omega) (fun σ9 hI fz10 pz10 => ?_)
  have hfr := hfr.tr fz10 (by decide) (by decide)
  have tk7 : (sI σ9 h0 90).toInt = (sI σ6 h0 90).toInt := by rw [(fz10.1 90 (by decide)).1]
  have tk8 : (sI σ9 h0 91).toInt = (sI σ6 h0 91).toInt := by rw [(fz10.1 91 (by decide)).1]
  refine ⟨by omega, ?_⟩
  intro z11 ez11
  have wz11 : z11.toInt = (sJ σ9 (L 41) a1.toInt.toNat).toInt := by rw [ez11]
  refine s_X12_set hI 72 8 z11 (by omega) (fun σ12 hI fz13 pz13 => ?_)
  have hfr := hfr.tr fz13 (by decide) (by decide)
  have tk9 : (sI σ12 h0 90).toInt = (sI σ9 h0 90).toInt := by rw [(fz13.1 90 (by decide)).1]
  have tk10 : (sI σ12 h0 91).toInt = (sI σ9 h0 91).toInt := by rw [(fz13.1 91 (by decide)).1]
  refine ⟨by omega, ?_⟩
  intro z14 ez14
  have wz14 : z14.toInt = (sJ σ12 (L 41) a1.toInt.toNat).toInt := by rw [ez14]
  refine s_X12_set hI 80 8 z14 (by omega) (fun σ15 hI fz16 pz16 => ?_)
  have hfr := hfr.tr fz16 (by decide) (by decide)
  have tk11 : (sI σ15 h0 90).toInt = (sI σ12 h0 90).toInt := by rw [(fz16.1 90 (by decide)).1]
  have tk12 : (sI σ15 h0 91).toInt = (sI σ12 h0 91).toInt := by rw [(fz16.1 91 (by decide)).1]
  intro z17 ez17
  have vz17 := hI.fI 91 0 1200 (by decide) rfl rfl rfl ez17
  have wz17 : z17.toInt = (sI σ15 h0 91).toInt := by rw [ez17]
  refine s_X12_header hI 0 18 0 0 1 (-1) 0 0  (fun σ18 hI fz19 pz19 => ?_)
  have hfr := hfr.tr fz19 (by decide) (by decide)
  have tk13 : (sI σ18 h0 90).toInt = (sI σ15 h0 90).toInt := by rw [(fz19.1 90 (by decide)).1]
  have tk14 : (sI σ18 h0 91).toInt = (sI σ15 h0 91).toInt := by rw [(fz19.1 91 (by decide)).1]
  refine ⟨by omega, ?_⟩
  intro z20 ez20
  have vz20 := hI.aI 42 40 0 15 (by decide) (by decide) rfl rfl rfl (i := a1.toInt) (by omega) ez20
  have wz20 : z20.toInt = (sI σ18 (L 42) a1.toInt.toNat).toInt := by rw [ez20]
  refine ⟨by omega, ?_⟩
  intro z21 ez21
  have vz21 := hI.aI 39 16 0 7 (by decide) (by decide) rfl rfl rfl (i := z20.toInt) (by omega) ez21
  have wz21 : z21.toInt = (sI σ18 (L 39) z20.toInt.toNat).toInt := by rw [ez21]
  refine ⟨by omega, ?_⟩
  intro z22 ez22
  have vz22 := hI.aI 35 8 0 5 (by decide) (by decide) rfl rfl rfl (i := z21.toInt) (by omega) ez22
  have wz22 : z22.toInt = (sI σ18 (L 35) z21.toInt.toNat).toInt := by rw [ez22]
  intro z23 ez23
  have vz23 := hI.fI 90 0 85000 (by decide) rfl rfl rfl ez23
  have wz23 : z23.toInt = (sI σ18 h0 90).toInt := by rw [ez23]
  refine s_X12_send hI z22 z23 z17 (by omega) (fun σ24 hI fz25 pz25 => ?_)
  have hfr := hfr.tr fz25 (by decide) (by decide)
  have tk15 : (sI σ24 h0 90).toInt = (sI σ18 h0 90).toInt := by rw [(fz25.1 90 (by decide)).1]
  have tk16 : (sI σ24 h0 91).toInt = (sI σ18 h0 91).toInt := by rw [(fz25.1 91 (by decide)).1]
  intro σ26 eσ26
  have hMp := hI.2
  have hI := hI.pF 90 0 85000 rfl rfl (by omega) eσ26
  have hfr := hfr.fI hMp eσ26 (by decide) rfl
  have uσ26 : (sI σ26 h0 90).toInt = z1.toInt := by rw [eσ26]; exact congrArg Int32.toInt u2_same
  have f1σ26 : Fr h0 L [90] [] σ24 σ26 := Fr.rf.fI hMp eσ26 (by decide) rfl
  have tk18 : (sI σ26 h0 91).toInt = (sI σ24 h0 91).toInt := by rw [(f1σ26.1 91 (by decide)).1]
  intro σ27 eσ27
  have hMp := hI.2
  have hI := hI.pF 91 0 1200 rfl rfl (by omega) eσ27
  have hfr := hfr.fI hMp eσ27 (by decide) rfl
  have uσ27 : (sI σ27 h0 91).toInt = z2.toInt := by rw [eσ27]; exact congrArg Int32.toInt u2_same
  have f1σ27 : Fr h0 L [91] [] σ26 σ27 := Fr.rf.fI hMp eσ27 (by decide) rfl
  have tk19 : (sI σ27 h0 90).toInt = (sI σ26 h0 90).toInt := by rw [(f1σ27.1 90 (by decide)).1]
  have hfr := hfr.dI (fs2 := [91]) 90 rfl (i_inj (by omega)) (by decide)
  have hfr := hfr.dI (fs2 := []) 91 rfl (i_inj (by omega)) (by decide)
  exact kk σ27 hI hfr trivial
set_option maxRecDepth 100000 in
set_option maxHeartbeats 4000000 in
theorem s_X12_breaks {h0 : Nat} {L : Nat → Nat} {σ : HS} (hI : OKM h0 L σ) (a1 : Int32) (a2 : Int32) (hz : 0 ≤ a1.toInt ∧ a1.toInt < 40 ∧ 0 ≤ a2.toInt ∧ a2.toInt ≤ 255) {post : HS → Prop} (kk : ∀ (σ' : HS), OKM h0 L σ' → Fr h0 L [] [27, 28, 47, 48, 49, 76] σ σ' → (True) → post σ') : F_X12_breaks h0 L a1 a2 post σ := by
  unfold F_X12_breaks
  have k_0 : (0 : Int32).toInt = 0 := rfl
  have k_1 : (1 : Int32).toInt = 1 := rfl
  have rg_a1 := i_range a1
  have rg_a2 := i_range a2
  have hfr : Fr h0 L [] [27, 28, 47, 48, 49, 76] σ σ := Fr.rf
  refine ⟨by omega, ?_⟩
  intro σ1 eσ1
  have hMp := hI.2
  have hI := hI.pA 47 0 1 (by decide) (by decide) rfl rfl (i_bool _) eσ1
  have hfr := hfr.aI hMp (by decide) eσ1 (by decide)
  refine ⟨by omega, ?_⟩
  intro σ2 eσ2
  have hMp := hI.2
  have hI := hI.pA 48 0 255 (by decide) (by decide) rfl rfl (by omega) eσ2
  have hfr := hfr.aI hMp (by decide) eσ2 (by decide)
  intro z3 ez3
  have wz3 : z3.toInt = (sJ σ2 h0 2).toInt := by rw [ez3]
  have vz3 := l_range z3
  refine ⟨by omega, ?_⟩
  intro σ4 eσ4
  have hMp := hI.2
  have hI := hI.pJ eσ4
  have hfr := hfr.aJ hMp (by decide) eσ4 (by decide)
  refine s_X12_tellBreak hI a1 a2 (by omega) (fun σ5 hI fz6 pz6 => ?_)
  have hfr := hfr.tr fz6 (by decide) (by decide)
  exact kk σ5 hI hfr trivial
set_option maxRecDepth 100000 in
set_option maxHeartbeats 4000000 in
theorem s_X12_isShared {h0 : Nat} {L : Nat → Nat} {σ : HS} (hI : OKM h0 L σ) (a1 : Int32) (a2 : Int32) (a3 : Int32)  {post : Int32 → HS → Prop} (kk : ∀ (r : Int32) (_ : 0 ≤ r.toInt ∧ r.toInt ≤ 1), post r σ) : F_X12_isShared h0 L a1 a2 a3 post σ := by
  unfold F_X12_isShared
  have k_m1 : ((-1) : Int32).toInt = (-1) := rfl
  have k_0 : (0 : Int32).toInt = 0 := rfl
  have k_1 : (1 : Int32).toInt = 1 := rfl
  have k_40 : (40 : Int32).toInt = 40 := rfl
  have kl_0 : (0 : Int64).toInt = 0 := rfl
  have rg_a1 := i_range a1
  have rg_a2 := i_range a2
  have rg_a3 := i_range a3
  refine s_X12_wants hI a2  (fun z2 pz2 => ?_)
  have rg_z2 := i_range z2
  refine lw_in (fun (x : Int32 × Int32) (σ' : HS) => σ = σ' ∧ ((0 ≤ x.1.toInt ∧ x.1.toInt ≤ 40) ∧ (0 ≤ x.2.toInt ∧ x.2.toInt ≤ 1))) (fun (x : Int32 × Int32) (σ' : HS) => (40 - x.1.toInt).toNat) ⟨rfl, (by (try dsimp only); omega)⟩ (fun x3 σ4 hJ K5 hK5 => ?_)
  obtain ⟨hsg, hv⟩ := hJ
  subst hsg
  (try dsimp only at hv)
  have rg_x3_1 := i_range x3.1
  have rg_x3_2 := i_range x3.2
  refine jn_dup ?_
  refine ⟨fun c1 => ?_, fun c1 => ?_⟩
  · (try dsimp only)
    refine ⟨by omega, ?_⟩
    exact kk x3.2 (by (try dsimp only); omega)
  · refine ⟨fun c2 => ?_, fun c2 => ?_⟩
    · (try dsimp only)
      refine ⟨by omega, ?_⟩
      exact kk x3.2 (by (try dsimp only); omega)
    · refine ⟨by omega, ?_⟩
      intro z12 ez12
      have wz12 : z12.toInt = (sJ σ (L 41) x3.1.toInt.toNat).toInt := by rw [ez12]
      refine jn_dup ?_
      refine ⟨fun c3 => ?_, fun c3 => ?_⟩
      · (try dsimp only)
        intro z18 ez18
        try have hz18 := i_add ez18 (by omega) (by omega)
        have rg_z18 := i_range z18
        exact hK5 (z18, x3.2) σ ⟨rfl, (by (try dsimp only); omega)⟩ (by (try dsimp only); omega)
      · refine ⟨by omega, ?_⟩
        intro z19 ez19
        have vz19 := hI.aI 43 40 0 79 (by decide) (by decide) rfl rfl rfl (i := x3.1.toInt) (by omega) ez19
        have wz19 : z19.toInt = (sI σ (L 43) x3.1.toInt.toNat).toInt := by rw [ez19]
        refine ⟨fun c4 => ?_, fun c4 => ?_⟩
        · (try dsimp only)
          intro z18 ez18
          try have hz18 := i_add ez18 (by omega) (by omega)
          have rg_z18 := i_range z18
          exact hK5 (z18, x3.2) σ ⟨rfl, (by (try dsimp only); omega)⟩ (by (try dsimp only); omega)
        · refine ⟨by omega, ?_⟩
          intro z20 ez20
          have vz20 := hI.aI 44 40 (-2147483648) 2147483647 (by decide) (by decide) rfl rfl rfl (i := x3.1.toInt) (by omega) ez20
          have wz20 : z20.toInt = (sI σ (L 44) x3.1.toInt.toNat).toInt := by rw [ez20]
          refine s_X12_wants hI z20  (fun z22 pz22 => ?_)
          have rg_z22 := i_range z22
          refine jn_dup ?_
          refine jn_dup ?_
          refine ⟨fun c5 => ?_, fun c5 => ?_⟩
          · (try dsimp only)
            (try dsimp only)
            (try dsimp only)
            intro z18 ez18
            try have hz18 := i_add ez18 (by omega) (by omega)
            have rg_z18 := i_range z18
            exact hK5 (z18, 0) σ ⟨rfl, (by (try dsimp only); omega)⟩ (by (try dsimp only); omega)
          · refine jn_dup ?_
            refine ⟨fun c6 => ?_, fun c6 => ?_⟩
            · (try dsimp only)
              (try dsimp only)
              (try dsimp only)
              intro z18 ez18
              try have hz18 := i_add ez18 (by omega) (by omega)
              have rg_z18 := i_range z18
              exact hK5 (z18, 1) σ ⟨rfl, (by (try dsimp only); omega)⟩ (by (try dsimp only); omega)
            · refine ⟨by omega, ?_⟩
              intro z38 ez38
              have vz38 := hI.aI 45 40 0 7 (by decide) (by decide) rfl rfl rfl (i := x3.1.toInt) (by omega) ez38
              have wz38 : z38.toInt = (sI σ (L 45) x3.1.toInt.toNat).toInt := by rw [ez38]
              intro z39 ez39
              have rg_z39 := i_range z39
              intro z40 ez40
              try have hz40 := i_and ez40 (by omega)
              have rg_z40 := i_range z40
              refine ⟨fun c7 => ?_, fun c7 => ?_⟩
              · (try dsimp only)
                (try dsimp only)
                (try dsimp only)
                intro z18 ez18
                try have hz18 := i_add ez18 (by omega) (by omega)
                have rg_z18 := i_range z18
                exact hK5 (z18, 0) σ ⟨rfl, (by (try dsimp only); omega)⟩ (by (try dsimp only); omega)
              · intro z41 ez41
                have rg_z41 := i_range z41
                intro z42 ez42
                try have hz42 := i_and ez42 (by omega)
                have rg_z42 := i_range z42
                refine ⟨fun c8 => ?_, fun c8 => ?_⟩
                · (try dsimp only)
                  (try dsimp only)
                  (try dsimp only)
                  intro z18 ez18
                  try have hz18 := i_add ez18 (by omega) (by omega)
                  have rg_z18 := i_range z18
                  exact hK5 (z18, 0) σ ⟨rfl, (by (try dsimp only); omega)⟩ (by (try dsimp only); omega)
                · (try dsimp only)
                  (try dsimp only)
                  (try dsimp only)
                  intro z18 ez18
                  try have hz18 := i_add ez18 (by omega) (by omega)
                  have rg_z18 := i_range z18
                  exact hK5 (z18, 1) σ ⟨rfl, (by (try dsimp only); omega)⟩ (by (try dsimp only); omega)
set_option maxRecDepth 100000 in
set_option maxHeartbeats 4000000 in
theorem s_X12_room {h0 : Nat} {L : Nat → Nat} {σ : HS} (hI : OKM h0 L σ) (a1 : Int32) (hz : 0 ≤ a1.toInt ∧ a1.toInt < 160) {post : Int32 → HS → Prop} (kk : ∀ (r : Int32) (_ : 0 ≤ r.toInt ∧ r.toInt ≤ 5000), post r σ) : F_X12_room h0 L a1 post σ := by
  unfold F_X12_room
  have k_0 : (0 : Int32).toInt = 0 := rfl
  have k_511 : (511 : Int32).toInt = 511 := rfl
  have k_512 : (512 : Int32).toInt = 512 := rfl
  have rg_a1 := i_range a1
  refine ⟨by omega, ?_⟩
  intro z1 ez1
  have vz1 := hI.aI 3 160 0 1 (by decide) (by decide) rfl rfl rfl (i := a1.toInt) (by omega) ez1
  have wz1 : z1.toInt = (sI σ (L 3) a1.toInt.toNat).toInt := by rw [ez1]
  refine jn_dup ?_
  refine ⟨fun c1 => ?_, fun c1 => ?_⟩
  · refine ⟨by omega, ?_⟩
    intro z7 ez7
    have vz7 := hI.aI 8 160 0 4096 (by decide) (by decide) rfl rfl rfl (i := a1.toInt) (by omega) ez7
    have wz7 : z7.toInt = (sI σ (L 8) a1.toInt.toNat).toInt := by rw [ez7]
    intro z8 ez8
    try have hz8 := i_add ez8 (by omega) (by omega)
    have rg_z8 := i_range z8
    intro z9 ez9
    try have hz9 := i_div 512 rfl ez9 (by omega) (by omega)
    have rg_z9 := i_range z9
    intro z10 ez10
    try have hz10 := i_mulr 512 rfl ez10 (by omega) (by omega)
    have rg_z10 := i_range z10
    (try dsimp only)
    exact kk z10 (by (try dsimp only); omega)
  · (try dsimp only)
    exact kk 0 (by (try dsimp only); omega)
set_option maxRecDepth 100000 in
set_option maxHeartbeats 4000000 in
theorem s_X12_shown {h0 : Nat} {L : Nat → Nat} {σ : HS} (hI : OKM h0 L σ) (a1 : Int32) (hz : 0 ≤ a1.toInt ∧ a1.toInt < 160) {post : Int32 → HS → Prop} (kk : ∀ (r : Int32) (_ : True), post r σ) : F_X12_shown h0 L a1 post σ := by
  unfold F_X12_shown
  have k_0 : (0 : Int32).toInt = 0 := rfl
  have k_16 : (16 : Int32).toInt = 16 := rfl
  have k_128 : (128 : Int32).toInt = 128 := rfl
  have rg_a1 := i_range a1
  refine ⟨by omega, ?_⟩
  intro z1 ez1
  have vz1 := hI.aI 6 160 (-2147483648) 2147483647 (by decide) (by decide) rfl rfl rfl (i := a1.toInt) (by omega) ez1
  have wz1 : z1.toInt = (sI σ (L 6) a1.toInt.toNat).toInt := by rw [ez1]
  refine ⟨by omega, ?_⟩
  intro z2 ez2
  have vz2 := hI.aI 3 160 0 1 (by decide) (by decide) rfl rfl rfl (i := a1.toInt) (by omega) ez2
  have wz2 : z2.toInt = (sI σ (L 3) a1.toInt.toNat).toInt := by rw [ez2]
  refine jn_dup ?_
  refine ⟨fun c1 => ?_, fun c1 => ?_⟩
  · (try dsimp only)
    intro z8 ez8
    try have hz8 := i_orm ez8 (by omega) (by omega)
    try have h2z8 := i_or ez8 (by omega) (by omega)
    have rg_z8 := i_range z8
    refine jn_dup ?_
    refine ⟨fun c2 => ?_, fun c2 => ?_⟩
    · (try dsimp only)
      exact kk z8 trivial
    · (try dsimp only)
      exact kk 128 trivial
  · (try dsimp only)
    intro z8 ez8
    try have hz8 := i_orm ez8 (by omega) (by omega)
    try have h2z8 := i_or ez8 (by omega) (by omega)
    have rg_z8 := i_range z8
    refine jn_dup ?_
    refine ⟨fun c3 => ?_, fun c3 => ?_⟩
    · (try dsimp only)
      exact kk z8 trivial
    · (try dsimp only)
      exact kk 128 trivial
set_option maxRecDepth 100000 in
set_option maxHeartbeats 4000000 in
theorem s_X12_setTimes {h0 : Nat} {L : Nat → Nat} {σ : HS} (hI : OKM h0 L σ) (a1 : Int32) (a2 : Int32) (hz : 0 ≤ a1.toInt ∧ a1.toInt ≤ 4900 ∧ 0 ≤ a2.toInt ∧ a2.toInt < 160) {post : HS → Prop} (kk : ∀ (σ' : HS), OKM h0 L σ' → Fr h0 L [] [76] σ σ' → (True) → post σ') : F_X12_setTimes h0 L a1 a2 post σ := by
  unfold F_X12_setTimes
  have k_0 : (0 : Int32).toInt = 0 := rfl
  have k_1 : (1 : Int32).toInt = 1 := rfl
  have k_4 : (4 : Int32).toInt = 4 := rfl
  have k_8 : (8 : Int32).toInt = 8 := rfl
  have rg_a1 := i_range a1
  have rg_a2 := i_range a2
  have hfr : Fr h0 L [] [76] σ σ := Fr.rf
  refine lw_in (fun (x : Int32) (σ' : HS) => OKM h0 L σ' ∧ Fr h0 L [] [76] σ σ' ∧ ((0 ≤ x.toInt ∧ x.toInt ≤ 4))) (fun (x : Int32) (σ' : HS) => (4 - x.toInt).toNat) ⟨hI, hfr, (by (try dsimp only); omega)⟩ (fun x1 σ2 hJ K3 hK3 => ?_)
  obtain ⟨hI, hfr, hv⟩ := hJ
  (try dsimp only at hv)
  have rg_x1 := i_range x1
  refine ⟨fun c1 => ?_, fun c1 => ?_⟩
  · exact kk σ2 hI hfr trivial
  · intro z5 ez5
    try have hz5 := i_mulk 8 rfl ez5 (by omega) (by omega)
    have rg_z5 := i_range z5
    intro z6 ez6
    try have hz6 := i_add ez6 (by omega) (by omega)
    have rg_z6 := i_range z6
    intro z7 ez7
    try have hz7 := i_mulk 4 rfl ez7 (by omega) (by omega)
    have rg_z7 := i_range z7
    intro z8 ez8
    try have hz8 := i_add ez8 (by omega) (by omega)
    have rg_z8 := i_range z8
    refine ⟨by omega, ?_⟩
    intro z9 ez9
    have wz9 : z9.toInt = (sJ σ2 (L 7) z8.toInt.toNat).toInt := by rw [ez9]
    refine s_X12_set hI z6 8 z9 (by omega) (fun σ10 hI fz11 pz11 => ?_)
    have hfr := hfr.tr fz11 (by decide) (by decide)
    intro z12 ez12
    try have hz12 := i_add ez12 (by omega) (by omega)
    have rg_z12 := i_range z12
    exact hK3 z12 σ10 ⟨hI, hfr, (by (try dsimp only); omega)⟩ (by (try dsimp only); omega)
set_option maxRecDepth 100000 in
set_option maxHeartbeats 4000000 in
theorem s_X12_fileOf {h0 : Nat} {L : Nat → Nat} {σ : HS} (hI : OKM h0 L σ) (a0 : Int32)  {post : Int32 → HS → Prop} (kk : ∀ (r : Int32) (_ : 0 ≤ r.toInt ∧ r.toInt ≤ 88 ∧ (r.toInt = 0 ∨ r.toInt = 72 ∨ r.toInt = 80 ∨ r.toInt = 88) ∧ (r.toInt = 88 → a0.toInt = 16) ∧ (r.toInt = 80 → a0.toInt = 8 ∨ a0.toInt = 9 ∨ a0.toInt = 17) ∧ (r.toInt = 72 → a0.toInt = 6 ∨ a0.toInt = 7 ∨ a0.toInt = 10 ∨ a0.toInt = 14 ∨ a0.toInt = 18)), post r σ) : F_X12_fileOf h0 L a0 post σ := by
  unfold F_X12_fileOf
  have k_0 : (0 : Int32).toInt = 0 := rfl
  have k_72 : (72 : Int32).toInt = 72 := rfl
  have k_80 : (80 : Int32).toInt = 80 := rfl
  have k_88 : (88 : Int32).toInt = 88 := rfl
  have rg_a0 := i_range a0
  refine jn_dup ?_
  refine jn_dup ?_
  refine jn_dup ?_
  refine ⟨fun c1 => ?_, fun c1 => ?_, fun c1 => ?_, fun c1 => ?_, fun c1 => ?_, fun c1 => ?_, fun c1 => ?_, fun c1 => ?_, fun c1 => ?_, fun c1 => ?_, fun c1 => ?_, fun c1 => ?_, fun c1 => ?_, fun c1 => ?_⟩
  · (try dsimp only)
    exact kk 0 (by (try dsimp only); omega)
  · (try dsimp only)
    exact kk 72 (by (try dsimp only); omega)
  · (try dsimp only)
    exact kk 72 (by (try dsimp only); omega)
  · (try dsimp only)
    exact kk 80 (by (try dsimp only); omega)
  · (try dsimp only)
    exact kk 80 (by (try dsimp only); omega)
  · (try dsimp only)
    exact kk 72 (by (try dsimp only); omega)
  · (try dsimp only)
    exact kk 0 (by (try dsimp only); omega)
  · (try dsimp only)
    exact kk 0 (by (try dsimp only); omega)
  · (try dsimp only)
    exact kk 0 (by (try dsimp only); omega)
  · (try dsimp only)
    exact kk 72 (by (try dsimp only); omega)
  · (try dsimp only)
    exact kk 0 (by (try dsimp only); omega)
  · exact kk 88 (by (try dsimp only); omega)
  · (try dsimp only)
    exact kk 80 (by (try dsimp only); omega)
  · (try dsimp only)
    exact kk 72 (by (try dsimp only); omega)
set_option maxRecDepth 100000 in
set_option maxHeartbeats 4000000 in
theorem s_X12_bodyOf {h0 : Nat} {L : Nat → Nat} {σ : HS} (hI : OKM h0 L σ) (a0 : Int32)  {post : Int32 → HS → Prop} (kk : ∀ (r : Int32) (_ : (4 ≤ r.toInt ∧ r.toInt ≤ 57) ∧ (a0.toInt = 0 → r.toInt = 36) ∧ (a0.toInt = 1 → r.toInt = 25) ∧ (a0.toInt = 3 → r.toInt = 9) ∧ (a0.toInt = 5 → r.toInt = 57) ∧ (a0.toInt = 6 ∨ a0.toInt = 7 ∨ a0.toInt = 18 → r.toInt = 24) ∧ (a0.toInt = 8 ∨ a0.toInt = 9 → r.toInt = 49) ∧ (a0.toInt = 10 → r.toInt = 48) ∧ (a0.toInt = 14 ∨ a0.toInt = 17 → r.toInt = 33) ∧ (a0.toInt = 16 → r.toInt = 41)), post r σ) : F_X12_bodyOf h0 L a0 post σ := by
  unfold F_X12_bodyOf
  have k_0 : (0 : Int32).toInt = 0 := rfl
  have k_4 : (4 : Int32).toInt = 4 := rfl
  have k_9 : (9 : Int32).toInt = 9 := rfl
  have k_24 : (24 : Int32).toInt = 24 := rfl
  have k_25 : (25 : Int32).toInt = 25 := rfl
  have k_33 : (33 : Int32).toInt = 33 := rfl
  have k_36 : (36 : Int32).toInt = 36 := rfl
  have k_41 : (41 : Int32).toInt = 41 := rfl
  have k_48 : (48 : Int32).toInt = 48 := rfl
  have k_49 : (49 : Int32).toInt = 49 := rfl
  have k_57 : (57 : Int32).toInt = 57 := rfl
  have rg_a0 := i_range a0
  refine jn_dup ?_
  refine jn_dup ?_
  refine jn_dup ?_
  refine jn_dup ?_
  refine ⟨fun c1 => ?_, fun c1 => ?_, fun c1 => ?_, fun c1 => ?_, fun c1 => ?_, fun c1 => ?_, fun c1 => ?_, fun c1 => ?_, fun c1 => ?_, fun c1 => ?_, fun c1 => ?_, fun c1 => ?_, fun c1 => ?_, fun c1 => ?_, fun c1 => ?_, fun c1 => ?_, fun c1 => ?_, fun c1 => ?_, fun c1 => ?_, fun c1 => ?_⟩
  · (try dsimp only)
    exact kk 4 (by (try dsimp only); omega)
  · exact kk 36 (by (try dsimp only); omega)
  · exact kk 25 (by (try dsimp only); omega)
  · (try dsimp only)
    exact kk 4 (by (try dsimp only); omega)
  · exact kk 9 (by (try dsimp only); omega)
  · (try dsimp only)
    exact kk 4 (by (try dsimp only); omega)
  · exact kk 57 (by (try dsimp only); omega)
  · (try dsimp only)
    exact kk 24 (by (try dsimp only); omega)
  · (try dsimp only)
    exact kk 24 (by (try dsimp only); omega)
  · (try dsimp only)
    exact kk 49 (by (try dsimp only); omega)
  · (try dsimp only)
    exact kk 49 (by (try dsimp only); omega)
  · exact kk 48 (by (try dsimp only); omega)
  · (try dsimp only)
    exact kk 4 (by (try dsimp only); omega)
  · (try dsimp only)
    exact kk 4 (by (try dsimp only); omega)
  · (try dsimp only)
    exact kk 4 (by (try dsimp only); omega)
  · (try dsimp only)
    exact kk 33 (by (try dsimp only); omega)
  · (try dsimp only)
    exact kk 4 (by (try dsimp only); omega)
  · exact kk 41 (by (try dsimp only); omega)
  · (try dsimp only)
    exact kk 33 (by (try dsimp only); omega)
  · (try dsimp only)
    exact kk 24 (by (try dsimp only); omega)
set_option maxRecDepth 100000 in
set_option maxHeartbeats 4000000 in
theorem s_X12_lies {h0 : Nat} {L : Nat → Nat} {σ : HS} (hI : OKM h0 L σ) (a1 : Int64) (a3 : Int64) (hz : 0 ≤ a1.toInt ∧ a1.toInt < 8589934592 ∧ 0 ≤ a3.toInt ∧ a3.toInt < 8589934592) {post : Int32 → HS → Prop} (kk : ∀ (r : Int32) (_ : (0 ≤ r.toInt ∧ r.toInt ≤ 1) ∧ (r.toInt ≠ 0 → a3.toInt = 0 ∨ (64 ≤ a1.toInt ∧ a1.toInt + a3.toInt ≤ (sI σ h0 87).toInt))), post r σ) : F_X12_lies h0 L a1 a3 post σ := by
  unfold F_X12_lies
  have k_0 : (0 : Int32).toInt = 0 := rfl
  have k_1 : (1 : Int32).toInt = 1 := rfl
  have kl_0 : (0 : Int64).toInt = 0 := rfl
  have kl_64 : (64 : Int64).toInt = 64 := rfl
  have rg_a1 := l_range a1
  have rg_a3 := l_range a3
  refine jn_dup ?_
  refine jn_dup ?_
  refine ⟨fun c1 => ?_, fun c1 => ?_⟩
  · (try dsimp only)
    (try dsimp only)
    refine ⟨by omega, ?_⟩
    exact kk 1 (by (try dsimp only); omega)
  · refine jn_dup ?_
    refine ⟨fun c2 => ?_, fun c2 => ?_⟩
    · (try dsimp only)
      (try dsimp only)
      refine ⟨by omega, ?_⟩
      exact kk 0 (by (try dsimp only); omega)
    · intro z16 ez16
      try have hz16 := l_add ez16 (by omega) (by omega)
      have rg_z16 := l_range z16
      intro z17 ez17
      have vz17 := hI.fI 87 0 4000 (by decide) rfl rfl rfl ez17
      have wz17 : z17.toInt = (sI σ h0 87).toInt := by rw [ez17]
      intro z18 ez18
      have hz18 := i_tol ez18
      have rg_z18 := l_range z18
      refine ⟨fun c3 => ?_, fun c3 => ?_⟩
      · (try dsimp only)
        (try dsimp only)
        refine ⟨by omega, ?_⟩
        exact kk 0 (by (try dsimp only); omega)
      · (try dsimp only)
        (try dsimp only)
        refine ⟨by omega, ?_⟩
        exact kk 1 (by (try dsimp only); omega)
/-- what a body that was found good holds -/
def Bd (h0 : Nat) (L : Nat → Nat) (σ : HS) : Prop := 68 ≤ (sI σ h0 87).toInt ∧ ((sI σ h0 93).toInt = 0 → 100 ≤ (sI σ h0 87).toInt) ∧ ((sI σ h0 93).toInt = 1 → 88 ≤ (sI σ h0 87).toInt) ∧ ((sI σ h0 93).toInt = 3 → 72 ≤ (sI σ h0 87).toInt) ∧ ((sI σ h0 93).toInt = 5 → 120 ≤ (sI σ h0 87).toInt) ∧ ((sI σ h0 93).toInt = 6 ∨ (sI σ h0 93).toInt = 7 ∨ (sI σ h0 93).toInt = 18 → 88 ≤ (sI σ h0 87).toInt) ∧ ((sI σ h0 93).toInt = 8 ∨ (sI σ h0 93).toInt = 9 → 112 ≤ (sI σ h0 87).toInt) ∧ ((sI σ h0 93).toInt = 10 → 112 ≤ (sI σ h0 87).toInt) ∧ ((sI σ h0 93).toInt = 14 ∨ (sI σ h0 93).toInt = 17 → 96 ≤ (sI σ h0 87).toInt) ∧ ((sI σ h0 93).toInt = 16 → 104 ≤ (sI σ h0 87).toInt) ∧ ((sI σ h0 93).toInt = 0 → 0 < (NUM h0 L σ 66 2 : Int) ∧ 100 + 2 * (NUM h0 L σ 66 2 : Int) ≤ (sI σ h0 87).toInt) ∧ ((sI σ h0 93).toInt = 1 → ((NUM h0 L σ 78 2 : Int) = 0 ∨ (64 ≤ (NUM h0 L σ 76 2 : Int) ∧ (NUM h0 L σ 76 2 : Int) + (NUM h0 L σ 78 2 : Int) ≤ (sI σ h0 87).toInt))) ∧ ((sI σ h0 93).toInt = 3 → ((NUM h0 L σ 70 2 : Int) = 0 ∨ (64 ≤ (NUM h0 L σ 68 2 : Int) ∧ (NUM h0 L σ 68 2 : Int) + (NUM h0 L σ 70 2 : Int) ≤ (sI σ h0 87).toInt))) ∧ ((sI σ h0 93).toInt = 5 → ((NUM h0 L σ 110 2 : Int) = 0 ∨ (64 ≤ (NUM h0 L σ 108 2 : Int) ∧ (NUM h0 L σ 108 2 : Int) + (NUM h0 L σ 110 2 : Int) ≤ (sI σ h0 87).toInt))) ∧ ((sI σ h0 93).toInt = 9 → (NUM h0 L σ 68 4 : Int) ≤ 1024 ∧ ((NUM h0 L σ 68 4 : Int) = 0 ∨ (64 ≤ (NUM h0 L σ 66 2 : Int) ∧ (NUM h0 L σ 66 2 : Int) + (NUM h0 L σ 68 4 : Int) ≤ (sI σ h0 87).toInt))) ∧ ((sI σ h0 93).toInt = 14 → ((NUM h0 L σ 90 2 : Int) = 0 ∨ (64 ≤ (NUM h0 L σ 88 2 : Int) ∧ (NUM h0 L σ 88 2 : Int) + (NUM h0 L σ 90 2 : Int) ≤ (sI σ h0 87).toInt))) ∧ ((sI σ h0 93).toInt = 17 → ((NUM h0 L σ 68 4 : Int) = 0 ∨ (64 ≤ (NUM h0 L σ 72 2 : Int) ∧ (NUM h0 L σ 72 2 : Int) + (NUM h0 L σ 68 4 : Int) ≤ (sI σ h0 87).toInt)))
set_option maxRecDepth 100000 in
set_option maxHeartbeats 4000000 in
theorem s_X12_headerGood {h0 : Nat} {L : Nat → Nat} {σ : HS} (hI : OKM h0 L σ) (a1 : Int32) (hN : InM h0 L σ (sI σ h0 87).toInt) (hz : 64 ≤ (sI σ h0 87).toInt) {post : Int32 → HS → Prop} (kk : ∀ (r : Int32) (_ : 0 ≤ r.toInt ∧ r.toInt ≤ 1), post r σ) : F_X12_headerGood h0 L a1 post σ := by
  unfold F_X12_headerGood
  have k_0 : (0 : Int32).toInt = 0 := rfl
  have k_1 : (1 : Int32).toInt = 1 := rfl
  have k_4 : (4 : Int32).toInt = 4 := rfl
  have k_8 : (8 : Int32).toInt = 8 := rfl
  have k_16 : (16 : Int32).toInt = 16 := rfl
  have k_20 : (20 : Int32).toInt = 20 := rfl
  have k_64 : (64 : Int32).toInt = 64 := rfl
  have kl_0 : (0 : Int64).toInt = 0 := rfl
  have kl_1 : (1 : Int64).toInt = 1 := rfl
  have kl_8 : (8 : Int64).toInt = 8 := rfl
  have kl_64 : (64 : Int64).toInt = 64 := rfl
  have kl_1112364030 : (1112364030 : Int64).toInt = 1112364030 := rfl
  have rg_a1 := i_range a1
  refine s_X12_number hI 20 4 (by omega) (hN.le (by omega)) (fun z2 pz2 => ?_)
  have tz2 : z2.toInt = (NUM h0 L σ 20 4 : Int) ∧ z2.toInt < 4294967296 := num_t (n := 4) (K := 4294967296) pz2 rfl (by decide)
  refine s_X12_number hI 0 4 (by omega) (hN.le (by omega)) (fun z4 pz4 => ?_)
  have tz4 : z4.toInt = (NUM h0 L σ 0 4 : Int) ∧ z4.toInt < 4294967296 := num_t (n := 4) (K := 4294967296) pz4 rfl (by decide)
  refine jn_in (fun (x : Int32) (σ' : HS) => σ = σ' ∧ ((0 ≤ x.toInt ∧ x.toInt ≤ 1))) (fun x5 σ6 hJ => ?_) (fun K7 hK7 => ?_)
  · obtain ⟨hsg, hv⟩ := hJ
    subst hsg
    (try dsimp only at hv)
    have rg_x5 := i_range x5
    refine jn_dup ?_
    refine jn_dup ?_
    refine ⟨fun c1 => ?_, fun c1 => ?_⟩
    · (try dsimp only)
      (try dsimp only)
      refine ⟨by omega, ?_⟩
      exact kk 0 (by (try dsimp only); omega)
    · refine jn_dup ?_
      refine ⟨fun c2 => ?_, fun c2 => ?_⟩
      · (try dsimp only)
        (try dsimp only)
        refine ⟨by omega, ?_⟩
        exact kk 1 (by (try dsimp only); omega)
      · refine ⟨fun c3 => ?_, fun c3 => ?_⟩
        · (try dsimp only)
          (try dsimp only)
          refine ⟨by omega, ?_⟩
          exact kk 0 (by (try dsimp only); omega)
        · intro z25 ez25
          try have hz25 := l_rem 8 rfl ez25 (by omega) (by omega)
          have rg_z25 := l_range z25
          refine ⟨fun c4 => ?_, fun c4 => ?_⟩
          · (try dsimp only)
            (try dsimp only)
            refine ⟨by omega, ?_⟩
            exact kk 0 (by (try dsimp only); omega)
          · intro z26 ez26
            have hz26 := i_tol ez26
            have rg_z26 := l_range z26
            intro z27 ez27
            try have hz27 := l_sub ez27 (by omega) (by omega)
            have rg_z27 := l_range z27
            refine ⟨fun c5 => ?_, fun c5 => ?_⟩
            · (try dsimp only)
              (try dsimp only)
              refine ⟨by omega, ?_⟩
              exact kk 0 (by (try dsimp only); omega)
            · (try dsimp only)
              (try dsimp only)
              refine ⟨by omega, ?_⟩
              exact kk 1 (by (try dsimp only); omega)
  · skip
    refine jn_dup ?_
    refine ⟨fun c6 => ?_, fun c6 => ?_⟩
    · (try dsimp only)
      exact hK7 0 σ ⟨rfl, (by (try dsimp only); omega)⟩
    · refine s_X12_number2 hI 4 (by omega) (hN.le (by omega)) (fun z34 pz34 => ?_)
      have tz34 : z34.toInt = (NUM h0 L σ 4 2 : Int) := pz34.1
      have rg_z34 := i_range z34
      refine ⟨fun c7 => ?_, fun c7 => ?_⟩
      · (try dsimp only)
        exact hK7 0 σ ⟨rfl, (by (try dsimp only); omega)⟩
      · refine s_X12_number hI 16 4 (by omega) (hN.le (by omega)) (fun z36 pz36 => ?_)
        have tz36 : z36.toInt = (NUM h0 L σ 16 4 : Int) ∧ z36.toInt < 4294967296 := num_t (n := 4) (K := 4294967296) pz36 rfl (by decide)
        intro z37 ez37
        try have hz37 := l_and ez37 (by omega)
        have rg_z37 := l_range z37
        refine ⟨fun c8 => ?_, fun c8 => ?_⟩
        · (try dsimp only)
          exact hK7 0 σ ⟨rfl, (by (try dsimp only); omega)⟩
        · exact hK7 1 σ ⟨rfl, (by (try dsimp only); omega)⟩
set_option maxRecDepth 100000 in
set_option maxHeartbeats 4000000 in
theorem s_X12_isBody {h0 : Nat} {L : Nat → Nat} {σ : HS} (hI : OKM h0 L σ)  (hN : InM h0 L σ (sI σ h0 87).toInt)  {post : Int32 → HS → Prop} (kk : ∀ (r : Int32) (_ : (0 ≤ r.toInt ∧ r.toInt ≤ 1) ∧ (r.toInt ≠ 0 → 68 ≤ (sI σ h0 87).toInt ∧ ((sI σ h0 93).toInt = 0 → 100 ≤ (sI σ h0 87).toInt) ∧ ((sI σ h0 93).toInt = 1 → 88 ≤ (sI σ h0 87).toInt) ∧ ((sI σ h0 93).toInt = 3 → 72 ≤ (sI σ h0 87).toInt) ∧ ((sI σ h0 93).toInt = 5 → 120 ≤ (sI σ h0 87).toInt) ∧ ((sI σ h0 93).toInt = 6 ∨ (sI σ h0 93).toInt = 7 ∨ (sI σ h0 93).toInt = 18 → 88 ≤ (sI σ h0 87).toInt) ∧ ((sI σ h0 93).toInt = 8 ∨ (sI σ h0 93).toInt = 9 → 112 ≤ (sI σ h0 87).toInt) ∧ ((sI σ h0 93).toInt = 10 → 112 ≤ (sI σ h0 87).toInt) ∧ ((sI σ h0 93).toInt = 14 ∨ (sI σ h0 93).toInt = 17 → 96 ≤ (sI σ h0 87).toInt) ∧ ((sI σ h0 93).toInt = 16 → 104 ≤ (sI σ h0 87).toInt) ∧ ((sI σ h0 93).toInt = 0 → 0 < (NUM h0 L σ 66 2 : Int) ∧ 100 + 2 * (NUM h0 L σ 66 2 : Int) ≤ (sI σ h0 87).toInt) ∧ ((sI σ h0 93).toInt = 1 → ((NUM h0 L σ 78 2 : Int) = 0 ∨ (64 ≤ (NUM h0 L σ 76 2 : Int) ∧ (NUM h0 L σ 76 2 : Int) + (NUM h0 L σ 78 2 : Int) ≤ (sI σ h0 87).toInt))) ∧ ((sI σ h0 93).toInt = 3 → ((NUM h0 L σ 70 2 : Int) = 0 ∨ (64 ≤ (NUM h0 L σ 68 2 : Int) ∧ (NUM h0 L σ 68 2 : Int) + (NUM h0 L σ 70 2 : Int) ≤ (sI σ h0 87).toInt))) ∧ ((sI σ h0 93).toInt = 5 → ((NUM h0 L σ 110 2 : Int) = 0 ∨ (64 ≤ (NUM h0 L σ 108 2 : Int) ∧ (NUM h0 L σ 108 2 : Int) + (NUM h0 L σ 110 2 : Int) ≤ (sI σ h0 87).toInt))) ∧ ((sI σ h0 93).toInt = 9 → (NUM h0 L σ 68 4 : Int) ≤ 1024 ∧ ((NUM h0 L σ 68 4 : Int) = 0 ∨ (64 ≤ (NUM h0 L σ 66 2 : Int) ∧ (NUM h0 L σ 66 2 : Int) + (NUM h0 L σ 68 4 : Int) ≤ (sI σ h0 87).toInt))) ∧ ((sI σ h0 93).toInt = 14 → ((NUM h0 L σ 90 2 : Int) = 0 ∨ (64 ≤ (NUM h0 L σ 88 2 : Int) ∧ (NUM h0 L σ 88 2 : Int) + (NUM h0 L σ 90 2 : Int) ≤ (sI σ h0 87).toInt))) ∧ ((sI σ h0 93).toInt = 17 → ((NUM h0 L σ 68 4 : Int) = 0 ∨ (64 ≤ (NUM h0 L σ 72 2 : Int) ∧ (NUM h0 L σ 72 2 : Int) + (NUM h0 L σ 68 4 : Int) ≤ (sI σ h0 87).toInt))))), post r σ) : F_X12_isBody h0 L  post σ := by
  unfold F_X12_isBody
  have k_0 : (0 : Int32).toInt = 0 := rfl
  have k_1 : (1 : Int32).toInt = 1 := rfl
  have k_2 : (2 : Int32).toInt = 2 := rfl
  have k_4 : (4 : Int32).toInt = 4 := rfl
  have k_64 : (64 : Int32).toInt = 64 := rfl
  have k_66 : (66 : Int32).toInt = 66 := rfl
  have k_68 : (68 : Int32).toInt = 68 := rfl
  have k_70 : (70 : Int32).toInt = 70 := rfl
  have k_72 : (72 : Int32).toInt = 72 := rfl
  have k_76 : (76 : Int32).toInt = 76 := rfl
  have k_78 : (78 : Int32).toInt = 78 := rfl
  have k_88 : (88 : Int32).toInt = 88 := rfl
  have k_90 : (90 : Int32).toInt = 90 := rfl
  have k_100 : (100 : Int32).toInt = 100 := rfl
  have k_108 : (108 : Int32).toInt = 108 := rfl
  have k_110 : (110 : Int32).toInt = 110 := rfl
  have kl_1024 : (1024 : Int64).toInt = 1024 := rfl
  have e_66 : (66 : Int32).toInt = 66 := rfl
  have e_68 : (68 : Int32).toInt = 68 := rfl
  have e_70 : (70 : Int32).toInt = 70 := rfl
  have e_72 : (72 : Int32).toInt = 72 := rfl
  have e_76 : (76 : Int32).toInt = 76 := rfl
  have e_78 : (78 : Int32).toInt = 78 := rfl
  have e_88 : (88 : Int32).toInt = 88 := rfl
  have e_90 : (90 : Int32).toInt = 90 := rfl
  have e_108 : (108 : Int32).toInt = 108 := rfl
  have e_110 : (110 : Int32).toInt = 110 := rfl
  intro z1 ez1
  have vz1 := hI.fI 93 0 65535 (by decide) rfl rfl rfl ez1
  have wz1 : z1.toInt = (sI σ h0 93).toInt := by rw [ez1]
  refine s_X12_bodyOf hI z1  (fun z3 pz3 => ?_)
  have rg_z3 := i_range z3
  intro z4 ez4
  have vz4 := hI.fI 87 0 4000 (by decide) rfl rfl rfl ez4
  have wz4 : z4.toInt = (sI σ h0 87).toInt := by rw [ez4]
  intro z5 ez5
  try have hz5 := i_add ez5 (by omega) (by omega)
  have rg_z5 := i_range z5
  intro z6 ez6
  try have hz6 := i_and1 ez6 (by omega)
  have rg_z6 := i_range z6
  intro z7 ez7
  try have hz7 := i_sub ez7 (by omega) (by omega)
  have rg_z7 := i_range z7
  refine jn_dup ?_
  refine ⟨fun c1 => ?_, fun c1 => ?_⟩
  · (try dsimp only)
    refine ⟨by omega, ?_⟩
    exact kk 0 (by (try dsimp only); omega)
  · refine s_X12_number2 hI 64 (by omega) (hN.le (by omega)) (fun z14 pz14 => ?_)
    have tz14 : z14.toInt = (NUM h0 L σ 64 2 : Int) := pz14.1
    have rg_z14 := i_range z14
    refine ⟨fun c2 => ?_, fun c2 => ?_⟩
    · intro z15 ez15
      have vz15 := hI.fI 93 0 65535 (by decide) rfl rfl rfl ez15
      have wz15 : z15.toInt = (sI σ h0 93).toInt := by rw [ez15]
      refine jn_dup ?_
      refine ⟨fun c3 => ?_, fun c3 => ?_, fun c3 => ?_, fun c3 => ?_, fun c3 => ?_, fun c3 => ?_, fun c3 => ?_, fun c3 => ?_, fun c3 => ?_, fun c3 => ?_, fun c3 => ?_, fun c3 => ?_, fun c3 => ?_, fun c3 => ?_, fun c3 => ?_, fun c3 => ?_, fun c3 => ?_, fun c3 => ?_, fun c3 => ?_⟩
      · (try dsimp only)
        refine ⟨by omega, ?_⟩
        exact kk 1 (by (try dsimp only); omega)
      · refine s_X12_number2 hI 66 (by omega) (hN.le (by omega)) (fun z22 pz22 => ?_)
        have tz22 : z22.toInt = (NUM h0 L σ 66 2 : Int) := pz22.1
        have rg_z22 := i_range z22
        refine jn_dup ?_
        refine jn_dup ?_
        refine ⟨fun c4 => ?_, fun c4 => ?_⟩
        · (try dsimp only)
          (try dsimp only)
          refine ⟨by omega, ?_⟩
          exact kk 0 (by (try dsimp only); omega)
        · refine s_X12_number2 hI 66 (by omega) (hN.le (by omega)) (fun z34 pz34 => ?_)
          have tz34 : z34.toInt = (NUM h0 L σ 66 2 : Int) := pz34.1
          have rg_z34 := i_range z34
          intro z35 ez35
          try have hz35 := i_mulk 2 rfl ez35 (by omega) (by omega)
          have rg_z35 := i_range z35
          intro z36 ez36
          try have hz36 := i_add ez36 (by omega) (by omega)
          have rg_z36 := i_range z36
          intro z37 ez37
          have vz37 := hI.fI 87 0 4000 (by decide) rfl rfl rfl ez37
          have wz37 : z37.toInt = (sI σ h0 87).toInt := by rw [ez37]
          refine ⟨fun c5 => ?_, fun c5 => ?_⟩
          · (try dsimp only)
            (try dsimp only)
            refine ⟨by omega, ?_⟩
            exact kk 0 (by (try dsimp only); omega)
          · (try dsimp only)
            refine ⟨by omega, ?_⟩
            exact kk 1 (by (try dsimp only); omega)
      · refine s_X12_number2 hI 76 (by omega) (hN.le (by omega)) (fun z39 pz39 => ?_)
        have tz39 : z39.toInt = (NUM h0 L σ 76 2 : Int) := pz39.1
        have rg_z39 := i_range z39
        intro z40 ez40
        have hz40 := i_tol ez40
        have rg_z40 := l_range z40
        refine s_X12_number2 hI 78 (by omega) (hN.le (by omega)) (fun z42 pz42 => ?_)
        have tz42 : z42.toInt = (NUM h0 L σ 78 2 : Int) := pz42.1
        have rg_z42 := i_range z42
        intro z43 ez43
        have hz43 := i_tol ez43
        have rg_z43 := l_range z43
        refine s_X12_lies hI z40 z43 (by omega) (fun z45 pz45 => ?_)
        have rg_z45 := i_range z45
        refine ⟨by omega, ?_⟩
        exact kk z45 (by (try dsimp only); omega)
      · (try dsimp only)
        refine ⟨by omega, ?_⟩
        exact kk 1 (by (try dsimp only); omega)
      · refine s_X12_number2 hI 68 (by omega) (hN.le (by omega)) (fun z47 pz47 => ?_)
        have tz47 : z47.toInt = (NUM h0 L σ 68 2 : Int) := pz47.1
        have rg_z47 := i_range z47
        intro z48 ez48
        have hz48 := i_tol ez48
        have rg_z48 := l_range z48
        refine s_X12_number2 hI 70 (by omega) (hN.le (by omega)) (fun z50 pz50 => ?_)
        have tz50 : z50.toInt = (NUM h0 L σ 70 2 : Int) := pz50.1
        have rg_z50 := i_range z50
        intro z51 ez51
        have hz51 := i_tol ez51
        have rg_z51 := l_range z51
        refine s_X12_lies hI z48 z51 (by omega) (fun z53 pz53 => ?_)
        have rg_z53 := i_range z53
        refine ⟨by omega, ?_⟩
        exact kk z53 (by (try dsimp only); omega)
      · (try dsimp only)
        refine ⟨by omega, ?_⟩
        exact kk 1 (by (try dsimp only); omega)
      · refine s_X12_number2 hI 108 (by omega) (hN.le (by omega)) (fun z55 pz55 => ?_)
        have tz55 : z55.toInt = (NUM h0 L σ 108 2 : Int) := pz55.1
        have rg_z55 := i_range z55
        intro z56 ez56
        have hz56 := i_tol ez56
        have rg_z56 := l_range z56
        refine s_X12_number2 hI 110 (by omega) (hN.le (by omega)) (fun z58 pz58 => ?_)
        have tz58 : z58.toInt = (NUM h0 L σ 110 2 : Int) := pz58.1
        have rg_z58 := i_range z58
        intro z59 ez59
        have hz59 := i_tol ez59
        have rg_z59 := l_range z59
        refine s_X12_lies hI z56 z59 (by omega) (fun z61 pz61 => ?_)
        have rg_z61 := i_range z61
        refine ⟨by omega, ?_⟩
        exact kk z61 (by (try dsimp only); omega)
      · (try dsimp only)
        refine ⟨by omega, ?_⟩
        exact kk 1 (by (try dsimp only); omega)
      · (try dsimp only)
        refine ⟨by omega, ?_⟩
        exact kk 1 (by (try dsimp only); omega)
      · (try dsimp only)
        refine ⟨by omega, ?_⟩
        exact kk 1 (by (try dsimp only); omega)
      · refine s_X12_number hI 68 4 (by omega) (hN.le (by omega)) (fun z63 pz63 => ?_)
        have tz63 : z63.toInt = (NUM h0 L σ 68 4 : Int) ∧ z63.toInt < 4294967296 := num_t (n := 4) (K := 4294967296) pz63 rfl (by decide)
        refine jn_dup ?_
        refine jn_dup ?_
        refine ⟨fun c6 => ?_, fun c6 => ?_⟩
        · (try dsimp only)
          (try dsimp only)
          refine ⟨by omega, ?_⟩
          exact kk 0 (by (try dsimp only); omega)
        · refine s_X12_number2 hI 66 (by omega) (hN.le (by omega)) (fun z75 pz75 => ?_)
          have tz75 : z75.toInt = (NUM h0 L σ 66 2 : Int) := pz75.1
          have rg_z75 := i_range z75
          intro z76 ez76
          have hz76 := i_tol ez76
          have rg_z76 := l_range z76
          refine s_X12_number hI 68 4 (by omega) (hN.le (by omega)) (fun z78 pz78 => ?_)
          have tz78 : z78.toInt = (NUM h0 L σ 68 4 : Int) ∧ z78.toInt < 4294967296 := num_t (n := 4) (K := 4294967296) pz78 rfl (by decide)
          refine s_X12_lies hI z76 z78 (by omega) (fun z80 pz80 => ?_)
          have rg_z80 := i_range z80
          refine ⟨fun c7 => ?_, fun c7 => ?_⟩
          · (try dsimp only)
            (try dsimp only)
            refine ⟨by omega, ?_⟩
            exact kk 0 (by (try dsimp only); omega)
          · (try dsimp only)
            refine ⟨by omega, ?_⟩
            exact kk 1 (by (try dsimp only); omega)
      · (try dsimp only)
        refine ⟨by omega, ?_⟩
        exact kk 1 (by (try dsimp only); omega)
      · (try dsimp only)
        refine ⟨by omega, ?_⟩
        exact kk 1 (by (try dsimp only); omega)
      · (try dsimp only)
        refine ⟨by omega, ?_⟩
        exact kk 1 (by (try dsimp only); omega)
      · (try dsimp only)
        refine ⟨by omega, ?_⟩
        exact kk 1 (by (try dsimp only); omega)
      · refine s_X12_number2 hI 88 (by omega) (hN.le (by omega)) (fun z82 pz82 => ?_)
        have tz82 : z82.toInt = (NUM h0 L σ 88 2 : Int) := pz82.1
        have rg_z82 := i_range z82
        intro z83 ez83
        have hz83 := i_tol ez83
        have rg_z83 := l_range z83
        refine s_X12_number2 hI 90 (by omega) (hN.le (by omega)) (fun z85 pz85 => ?_)
        have tz85 : z85.toInt = (NUM h0 L σ 90 2 : Int) := pz85.1
        have rg_z85 := i_range z85
        intro z86 ez86
        have hz86 := i_tol ez86
        have rg_z86 := l_range z86
        refine s_X12_lies hI z83 z86 (by omega) (fun z88 pz88 => ?_)
        have rg_z88 := i_range z88
        refine ⟨by omega, ?_⟩
        exact kk z88 (by (try dsimp only); omega)
      · (try dsimp only)
        refine ⟨by omega, ?_⟩
        exact kk 1 (by (try dsimp only); omega)
      · (try dsimp only)
        refine ⟨by omega, ?_⟩
        exact kk 1 (by (try dsimp only); omega)
      · refine s_X12_number2 hI 72 (by omega) (hN.le (by omega)) (fun z90 pz90 => ?_)
        have tz90 : z90.toInt = (NUM h0 L σ 72 2 : Int) := pz90.1
        have rg_z90 := i_range z90
        intro z91 ez91
        have hz91 := i_tol ez91
        have rg_z91 := l_range z91
        refine s_X12_number hI 68 4 (by omega) (hN.le (by omega)) (fun z93 pz93 => ?_)
        have tz93 : z93.toInt = (NUM h0 L σ 68 4 : Int) ∧ z93.toInt < 4294967296 := num_t (n := 4) (K := 4294967296) pz93 rfl (by decide)
        refine s_X12_lies hI z91 z93 (by omega) (fun z95 pz95 => ?_)
        have rg_z95 := i_range z95
        refine ⟨by omega, ?_⟩
        exact kk z95 (by (try dsimp only); omega)
    · (try dsimp only)
      refine ⟨by omega, ?_⟩
      exact kk 0 (by (try dsimp only); omega)
set_option maxRecDepth 100000 in
set_option maxHeartbeats 4000000 in
theorem s_X12_isOpen {h0 : Nat} {L : Nat → Nat} {σ : HS} (hI : OKM h0 L σ) (a1 : Int32)  {post : Int32 → HS → Prop} (kk : ∀ (r : Int32) (_ : 0 ≤ r.toInt ∧ r.toInt ≤ 1), post r σ) : F_X12_isOpen h0 L a1 post σ := by
  unfold F_X12_isOpen
  have k_0 : (0 : Int32).toInt = 0 := rfl
  have k_1 : (1 : Int32).toInt = 1 := rfl
  have rg_a1 := i_range a1
  refine s_X12_isLine hI a1  (fun z2 pz2 => ?_)
  have rg_z2 := i_range z2
  refine jn_dup ?_
  refine jn_dup ?_
  refine ⟨fun c1 => ?_, fun c1 => ?_⟩
  · (try dsimp only)
    (try dsimp only)
    refine ⟨by omega, ?_⟩
    exact kk 0 (by (try dsimp only); omega)
  · refine ⟨by omega, ?_⟩
    intro z13 ez13
    have vz13 := hI.aI 25 6 0 1 (by decide) (by decide) rfl rfl rfl (i := a1.toInt) (by omega) ez13
    have wz13 : z13.toInt = (sI σ (L 25) a1.toInt.toNat).toInt := by rw [ez13]
    refine ⟨fun c2 => ?_, fun c2 => ?_⟩
    · (try dsimp only)
      (try dsimp only)
      refine ⟨by omega, ?_⟩
      exact kk 0 (by (try dsimp only); omega)
    · (try dsimp only)
      refine ⟨by omega, ?_⟩
      exact kk 1 (by (try dsimp only); omega)
set_option maxRecDepth 100000 in
set_option maxHeartbeats 4000000 in
theorem s_X12_outs {h0 : Nat} {L : Nat → Nat} {σ : HS} (hI : OKM h0 L σ) (a1 : Int32)  {post : Int32 → HS → Prop} (kk : ∀ (r : Int32) (_ : True), post r σ) : F_X12_outs h0 L a1 post σ := by
  unfold F_X12_outs
  have k_m1 : ((-1) : Int32).toInt = (-1) := rfl
  have k_0 : (0 : Int32).toInt = 0 := rfl
  have rg_a1 := i_range a1
  refine s_X12_isLine hI a1  (fun z2 pz2 => ?_)
  have rg_z2 := i_range z2
  refine jn_dup ?_
  refine ⟨fun c1 => ?_, fun c1 => ?_⟩
  · (try dsimp only)
    exact kk (-1) trivial
  · refine ⟨by omega, ?_⟩
    intro z8 ez8
    have vz8 := hI.aI 28 6 0 16000 (by decide) (by decide) rfl rfl rfl (i := a1.toInt) (by omega) ez8
    have wz8 : z8.toInt = (sI σ (L 28) a1.toInt.toNat).toInt := by rw [ez8]
    (try dsimp only)
    exact kk z8 trivial
set_option maxRecDepth 100000 in
set_option maxHeartbeats 4000000 in
theorem s_X12_out {h0 : Nat} {L : Nat → Nat} {σ : HS} (hI : OKM h0 L σ) (a1 : Int32) (a2 : Int32)  {post : Int32 → HS → Prop} (kk : ∀ (r : Int32) (_ : True), post r σ) : F_X12_out h0 L a1 a2 post σ := by
  unfold F_X12_out
  have k_m1 : ((-1) : Int32).toInt = (-1) := rfl
  have k_0 : (0 : Int32).toInt = 0 := rfl
  have k_255 : (255 : Int32).toInt = 255 := rfl
  have k_16000 : (16000 : Int32).toInt = 16000 := rfl
  have rg_a1 := i_range a1
  have rg_a2 := i_range a2
  refine s_X12_isLine hI a1  (fun z2 pz2 => ?_)
  have rg_z2 := i_range z2
  refine jn_dup ?_
  refine jn_dup ?_
  refine ⟨fun c1 => ?_, fun c1 => ?_⟩
  · (try dsimp only)
    (try dsimp only)
    exact kk (-1) trivial
  · refine ⟨fun c2 => ?_, fun c2 => ?_⟩
    · (try dsimp only)
      (try dsimp only)
      exact kk (-1) trivial
    · refine ⟨by omega, ?_⟩
      intro z13 ez13
      have vz13 := hI.aI 28 6 0 16000 (by decide) (by decide) rfl rfl rfl (i := a1.toInt) (by omega) ez13
      have wz13 : z13.toInt = (sI σ (L 28) a1.toInt.toNat).toInt := by rw [ez13]
      refine ⟨fun c3 => ?_, fun c3 => ?_⟩
      · (try dsimp only)
        (try dsimp only)
        exact kk (-1) trivial
      · intro z14 ez14
        try have hz14 := i_mulk 16000 rfl ez14 (by omega) (by omega)
        have rg_z14 := i_range z14
        intro z15 ez15
        try have hz15 := i_add ez15 (by omega) (by omega)
        have rg_z15 := i_range z15
        refine ⟨by omega, ?_⟩
        intro z16 ez16
        have vz16 := hI.aI 27 96000 (-128) 127 (by decide) (by decide) rfl rfl rfl (i := z15.toInt) (by omega) ez16
        have wz16 : z16.toInt = (sI σ (L 27) z15.toInt.toNat).toInt := by rw [ez16]
        intro z17 ez17
        try have hz17 := i_and ez17 (by omega)
        have rg_z17 := i_range z17
        (try dsimp only)
        exact kk z17 trivial
set_option maxRecDepth 100000 in
set_option maxHeartbeats 4000000 in
theorem s_X12_drop {h0 : Nat} {L : Nat → Nat} {σ : HS} (hI : OKM h0 L σ) (a1 : Int32)  {post : Int32 → HS → Prop} (kk : ∀ (r : Int32) (σ' : HS), OKM h0 L σ' → Fr h0 L [] [28] σ σ' → (True) → post r σ') : F_X12_drop h0 L a1 post σ := by
  unfold F_X12_drop
  have k_m1 : ((-1) : Int32).toInt = (-1) := rfl
  have k_0 : (0 : Int32).toInt = 0 := rfl
  have rg_a1 := i_range a1
  have hfr : Fr h0 L [] [28] σ σ := Fr.rf
  refine s_X12_isLine hI a1  (fun z2 pz2 => ?_)
  have rg_z2 := i_range z2
  refine ⟨fun c1 => ?_, fun c1 => ?_⟩
  · refine ⟨by omega, ?_⟩
    intro z3 ez3
    have vz3 := hI.aI 28 6 0 16000 (by decide) (by decide) rfl rfl rfl (i := a1.toInt) (by omega) ez3
    have wz3 : z3.toInt = (sI σ (L 28) a1.toInt.toNat).toInt := by rw [ez3]
    refine ⟨by omega, ?_⟩
    intro σ4 eσ4
    have hMp := hI.2
    have hI := hI.pA 28 0 16000 (by decide) (by decide) rfl rfl (by omega) eσ4
    have hfr := hfr.aI hMp (by decide) eσ4 (by decide)
    exact kk z3 σ4 hI hfr trivial
  · exact kk (-1) σ hI hfr trivial
set_option maxRecDepth 100000 in
set_option maxHeartbeats 4000000 in
theorem s_X12_told {h0 : Nat} {L : Nat → Nat} {σ : HS} (hI : OKM h0 L σ) (a1 : Int32)  {post : Int32 → HS → Prop} (kk : ∀ (r : Int32) (_ : True), post r σ) : F_X12_told h0 L a1 post σ := by
  unfold F_X12_told
  have k_m1 : ((-1) : Int32).toInt = (-1) := rfl
  have k_0 : (0 : Int32).toInt = 0 := rfl
  have k_80 : (80 : Int32).toInt = 80 := rfl
  have rg_a1 := i_range a1
  refine ⟨fun c1 => ?_, fun c1 => ?_, fun c1 => ?_, fun c1 => ?_, fun c1 => ?_, fun c1 => ?_, fun c1 => ?_, fun c1 => ?_, fun c1 => ?_, fun c1 => ?_⟩
  · exact kk (-1) trivial
  · intro z1 ez1
    have wz1 : z1.toInt = (sJ σ h0 2).toInt := by rw [ez1]
    have vz1 := l_range z1
    intro z2 ez2
    try have hz2 := l_toi ez2 (by omega) (by omega)
    have rg_z2 := i_range z2
    exact kk z2 trivial
  · intro z3 ez3
    have vz3 := hI.fI 16 0 8 (by decide) rfl rfl rfl ez3
    have wz3 : z3.toInt = (sI σ h0 16).toInt := by rw [ez3]
    exact kk z3 trivial
  · refine s_X12_nodes hI 0 (by omega) (fun z5 pz5 => ?_)
    have rg_z5 := i_range z5
    exact kk z5 trivial
  · refine s_X12_count hI 41 40 (by decide) rfl rfl (by decide)  (fun z7 pz7 => ?_)
    have rg_z7 := i_range z7
    exact kk z7 trivial
  · intro z8 ez8
    have vz8 := hI.fI 63 0 80 (by decide) rfl rfl rfl ez8
    have wz8 : z8.toInt = (sI σ h0 63).toInt := by rw [ez8]
    exact kk z8 trivial
  · intro z9 ez9
    have vz9 := hI.fI 69 0 16 (by decide) rfl rfl rfl ez9
    have wz9 : z9.toInt = (sI σ h0 69).toInt := by rw [ez9]
    exact kk z9 trivial
  · refine s_X12_count hI 34 8 (by decide) rfl rfl (by decide)  (fun z11 pz11 => ?_)
    have rg_z11 := i_range z11
    exact kk z11 trivial
  · refine s_X12_count hI 38 16 (by decide) rfl rfl (by decide)  (fun z13 pz13 => ?_)
    have rg_z13 := i_range z13
    exact kk z13 trivial
  · refine s_X12_nodes hI 80 (by omega) (fun z15 pz15 => ?_)
    have rg_z15 := i_range z15
    exact kk z15 trivial

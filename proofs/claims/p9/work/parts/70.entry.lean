/-! entries, names, who begins to wait -/
theorem EqW.uI {h0 : Nat} {L : Nat → Nat} {σ σ' : HS} {j n w : Nat} {v : Int32} (e : σ' = h_uI σ (L j) n v) (hM : MdI h0 L σ) (hj : j < 75) (hw : w ≠ n) : EqW L σ σ' w w := by
  subst e
  refine ⟨fun j' _ _ => ⟨fun _ => rfl, fun _ => ?_⟩, fun i _ _ => ?_⟩
  · show u2 (sI σ) (L j) n v (L j') w = _
    rw [u2_pl hw]
  · show u2 (sI σ) (L j) n v (L 75) _ = _
    rw [u2_addr (fun e => by have := hM.inj (by omega) (by omega) e; omega)]
theorem EqW.uJ {L : Nat → Nat} {σ σ' : HS} {a n w : Nat} {v : Int64} (e : σ' = h_uJ σ a n v) (hw : w ≠ n) : EqW L σ σ' w w := by
  subst e
  refine ⟨fun j' _ _ => ⟨fun _ => ?_, fun _ => rfl⟩, fun i _ _ => rfl⟩
  show u2 (sJ σ) a n v (L j') w = _
  rw [u2_pl hw]
set_option maxRecDepth 100000 in
set_option maxHeartbeats 4000000 in
theorem s_X12_standard {h0 : Nat} {L : Nat → Nat} {σ : HS} (hI : OKM h0 L σ) (a1 : Int32) (a2 : Int32) (hz : 0 ≤ a1.toInt ∧ a1.toInt ≤ 4900 ∧ 0 ≤ a2.toInt ∧ a2.toInt < 80) {post : HS → Prop} (kk : ∀ (σ' : HS), OKM h0 L σ' → Fr h0 L [] [76] σ σ' → (True) → post σ') : F_X12_standard h0 L a1 a2 post σ := by
  unfold F_X12_standard
  have k_0 : (0 : Int32).toInt = 0 := rfl
  have k_1 : (1 : Int32).toInt = 1 := rfl
  have k_4 : (4 : Int32).toInt = 4 := rfl
  have k_8 : (8 : Int32).toInt = 8 := rfl
  have k_16 : (16 : Int32).toInt = 16 := rfl
  have k_20 : (20 : Int32).toInt = 20 := rfl
  have k_21 : (21 : Int32).toInt = 21 := rfl
  have kl_0 : (0 : Int64).toInt = 0 := rfl
  have kl_1 : (1 : Int64).toInt = 1 := rfl
  have rg_a1 := i_range a1
  have rg_a2 := i_range a2
  have hfr : Fr h0 L [] [76] σ σ := Fr.rf
  refine s_X12_room hI a2 (by omega) (fun z2 pz2 => ?_)
  have rg_z2 := i_range z2
  intro z3 ez3
  have hz3 := i_tol ez3
  have rg_z3 := l_range z3
  refine s_X12_set hI a1 8 z3 (by omega) (fun σ4 hI fz5 pz5 => ?_)
  have hfr := hfr.tr fz5 (by decide) (by decide)
  intro z6 ez6
  try have hz6 := i_add ez6 (by omega) (by omega)
  have rg_z6 := i_range z6
  refine ⟨by omega, ?_⟩
  intro z7 ez7
  have vz7 := hI.aI 8 160 0 4096 (by decide) (by decide) rfl rfl rfl (i := a2.toInt) (by omega) ez7
  have wz7 : z7.toInt = (sI σ4 (L 8) a2.toInt.toNat).toInt := by rw [ez7]
  intro z8 ez8
  have hz8 := i_tol ez8
  have rg_z8 := l_range z8
  refine s_X12_set hI z6 8 z8 (by omega) (fun σ9 hI fz10 pz10 => ?_)
  have hfr := hfr.tr fz10 (by decide) (by decide)
  intro z11 ez11
  try have hz11 := i_add ez11 (by omega) (by omega)
  have rg_z11 := i_range z11
  refine ⟨by omega, ?_⟩
  intro z12 ez12
  have vz12 := hI.aI 10 80 0 1 (by decide) (by decide) rfl rfl rfl (i := a2.toInt) (by omega) ez12
  have wz12 : z12.toInt = (sI σ9 (L 10) a2.toInt.toNat).toInt := by rw [ez12]
  refine jn_in (fun (x : Int64) (σ' : HS) => OKM h0 L σ' ∧ Fr h0 L [] [76] σ σ' ∧ ((0 ≤ x.toInt ∧ x.toInt ≤ 1))) (fun x13 σ14 hJ => ?_) (fun K15 hK15 => ?_)
  · obtain ⟨hI, hfr, hv⟩ := hJ
    (try dsimp only at hv)
    have rg_x13 := l_range x13
    refine s_X12_set hI z11 4 x13 (by omega) (fun σ18 hI fz19 pz19 => ?_)
    have hfr := hfr.tr fz19 (by decide) (by decide)
    intro z20 ez20
    try have hz20 := i_add ez20 (by omega) (by omega)
    have rg_z20 := i_range z20
    refine ⟨by omega, ?_⟩
    intro z21 ez21
    have vz21 := hI.aI 10 80 0 1 (by decide) (by decide) rfl rfl rfl (i := a2.toInt) (by omega) ez21
    have wz21 : z21.toInt = (sI σ18 (L 10) a2.toInt.toNat).toInt := by rw [ez21]
    refine jn_in (fun (x : Int64) (σ' : HS) => OKM h0 L σ' ∧ Fr h0 L [] [76] σ σ' ∧ ((0 ≤ x.toInt ∧ x.toInt ≤ 1))) (fun x22 σ23 hJ => ?_) (fun K24 hK24 => ?_)
    · obtain ⟨hI, hfr, hv⟩ := hJ
      (try dsimp only at hv)
      have rg_x22 := l_range x22
      refine s_X12_set hI z20 1 x22 (by omega) (fun σ27 hI fz28 pz28 => ?_)
      have hfr := hfr.tr fz28 (by decide) (by decide)
      intro z29 ez29
      try have hz29 := i_add ez29 (by omega) (by omega)
      have rg_z29 := i_range z29
      refine ⟨by omega, ?_⟩
      intro z30 ez30
      have vz30 := hI.aI 3 160 0 1 (by decide) (by decide) rfl rfl rfl (i := a2.toInt) (by omega) ez30
      have wz30 : z30.toInt = (sI σ27 (L 3) a2.toInt.toNat).toInt := by rw [ez30]
      refine jn_dup ?_
      refine ⟨fun c1 => ?_, fun c1 => ?_⟩
      · (try dsimp only)
        refine s_X12_set hI z29 1 0 (by omega) (fun σ36 hI fz37 pz37 => ?_)
        have hfr := hfr.tr fz37 (by decide) (by decide)
        exact kk σ36 hI hfr trivial
      · (try dsimp only)
        refine s_X12_set hI z29 1 1 (by omega) (fun σ36 hI fz37 pz37 => ?_)
        have hfr := hfr.tr fz37 (by decide) (by decide)
        exact kk σ36 hI hfr trivial
    · skip
      refine ⟨fun c2 => ?_, fun c2 => ?_⟩
      · exact hK24 0 σ18 ⟨hI, hfr, (by (try dsimp only); omega)⟩
      · exact hK24 1 σ18 ⟨hI, hfr, (by (try dsimp only); omega)⟩
  · skip
    refine ⟨fun c3 => ?_, fun c3 => ?_⟩
    · exact hK15 1 σ9 ⟨hI, hfr, (by (try dsimp only); omega)⟩
    · exact hK15 0 σ9 ⟨hI, hfr, (by (try dsimp only); omega)⟩
set_option maxRecDepth 100000 in
set_option maxHeartbeats 4000000 in
theorem s_X12_basic {h0 : Nat} {L : Nat → Nat} {σ : HS} (hI : OKM h0 L σ) (a1 : Int32) (a2 : Int32) (hz : 0 ≤ a1.toInt ∧ a1.toInt ≤ 4900 ∧ 0 ≤ a2.toInt ∧ a2.toInt < 160) {post : HS → Prop} (kk : ∀ (σ' : HS), OKM h0 L σ' → Fr h0 L [] [76] σ σ' → (True) → post σ') : F_X12_basic h0 L a1 a2 post σ := by
  unfold F_X12_basic
  have k_0 : (0 : Int32).toInt = 0 := rfl
  have k_4 : (4 : Int32).toInt = 4 := rfl
  have k_32 : (32 : Int32).toInt = 32 := rfl
  have rg_a1 := i_range a1
  have rg_a2 := i_range a2
  have hfr : Fr h0 L [] [76] σ σ := Fr.rf
  refine s_X12_setTimes hI a1 a2 (by omega) (fun σ1 hI fz2 pz2 => ?_)
  have hfr := hfr.tr fz2 (by decide) (by decide)
  intro z3 ez3
  try have hz3 := i_add ez3 (by omega) (by omega)
  have rg_z3 := i_range z3
  refine s_X12_shown hI a2 (by omega) (fun z5 pz5 => ?_)
  have rg_z5 := i_range z5
  intro z6 ez6
  have hz6 := i_tol ez6
  have rg_z6 := l_range z6
  refine s_X12_set hI z3 4 z6 (by omega) (fun σ7 hI fz8 pz8 => ?_)
  have hfr := hfr.tr fz8 (by decide) (by decide)
  exact kk σ7 hI hfr trivial
set_option maxRecDepth 100000 in
set_option maxHeartbeats 4000000 in
theorem s_X12_entryAt {h0 : Nat} {L : Nat → Nat} {σ : HS} (hI : OKM h0 L σ) (a1 : Int32) (a2 : Int32) (a3 : Int32) (hz : 0 ≤ a1.toInt ∧ a1.toInt ≤ 4800 ∧ 0 ≤ a3.toInt ∧ a3.toInt ≤ 12 ∧ 0 ≤ (sI σ h0 119).toInt) {post : HS → Prop} (kk : ∀ (σ' : HS), OKM h0 L σ' → Fr h0 L [] [76] σ σ' → (True) → post σ') : F_X12_entryAt h0 L a1 a2 a3 post σ := by
  unfold F_X12_entryAt
  have k_0 : (0 : Int32).toInt = 0 := rfl
  have k_1 : (1 : Int32).toInt = 1 := rfl
  have k_2 : (2 : Int32).toInt = 2 := rfl
  have k_3 : (3 : Int32).toInt = 3 := rfl
  have k_4 : (4 : Int32).toInt = 4 := rfl
  have k_8 : (8 : Int32).toInt = 8 := rfl
  have k_12 : (12 : Int32).toInt = 12 := rfl
  have k_40 : (40 : Int32).toInt = 40 := rfl
  have k_48 : (48 : Int32).toInt = 48 := rfl
  have k_56 : (56 : Int32).toInt = 56 := rfl
  have k_60 : (60 : Int32).toInt = 60 := rfl
  have k_64 : (64 : Int32).toInt = 64 := rfl
  have kl_0 : (0 : Int64).toInt = 0 := rfl
  have kl_46 : (46 : Int64).toInt = 46 := rfl
  have rg_a1 := i_range a1
  have rg_a2 := i_range a2
  have rg_a3 := i_range a3
  have hfr : Fr h0 L [] [76] σ σ := Fr.rf
  intro z1 ez1
  have vz1 := hI.fI 119 (-1) 79 (by decide) rfl rfl rfl ez1
  have wz1 : z1.toInt = (sI σ h0 119).toInt := by rw [ez1, (hfr.1 119 (by decide)).1]
  refine lw_in (fun (x : Int32) (σ' : HS) => OKM h0 L σ' ∧ Fr h0 L [] [76] σ σ' ∧ ((0 ≤ x.toInt ∧ x.toInt ≤ 4864) ∧ (x.toInt ≤ a1.toInt + 64) ∧ (a1.toInt ≤ x.toInt))) (fun (x : Int32) (σ' : HS) => (a1.toInt + 64 - x.toInt).toNat) ⟨hI, hfr, (by (try dsimp only); omega)⟩ (fun x2 σ3 hJ K4 hK4 => ?_)
  obtain ⟨hI, hfr, hv⟩ := hJ
  (try dsimp only at hv)
  have rg_x2 := i_range x2
  refine jn_in (fun (x : Int32) (σ' : HS) => OKM h0 L σ' ∧ Fr h0 L [] [76] σ σ' ∧ ((12 ≤ x.toInt ∧ x.toInt ≤ 64))) (fun x6 σ7 hJ => ?_) (fun K8 hK8 => ?_)
  · obtain ⟨hI, hfr, hv⟩ := hJ
    (try dsimp only at hv)
    have rg_x6 := i_range x6
    intro z11 ez11
    try have hz11 := i_add ez11 (by omega) (by omega)
    have rg_z11 := i_range z11
    refine ⟨fun c1 => ?_, fun c1 => ?_⟩
    · intro z12 ez12
      try have hz12 := i_add ez12 (by omega) (by omega)
      have rg_z12 := i_range z12
      refine jn_in (fun (x : Int32) (σ' : HS) => OKM h0 L σ' ∧ Fr h0 L [] [76] σ σ' ∧ ((12 ≤ x.toInt ∧ x.toInt ≤ 4864) ∧ (0 ≤ x.toInt) ∧ (x.toInt ≤ a1.toInt + 64))) (fun x13 σ14 hJ => ?_) (fun K15 hK15 => ?_)
      · obtain ⟨hI, hfr, hv⟩ := hJ
        (try dsimp only at hv)
        have rg_x13 := i_range x13
        refine lw_in (fun (x : Int32) (σ' : HS) => OKM h0 L σ' ∧ Fr h0 L [] [76] σ σ' ∧ ((0 ≤ x.toInt ∧ x.toInt ≤ 12) ∧ (0 ≤ x.toInt ∧ x.toInt ≤ 12))) (fun (x : Int32) (σ' : HS) => (12 - x.toInt).toNat) ⟨hI, hfr, (by (try dsimp only); omega)⟩ (fun x18 σ19 hJ K20 hK20 => ?_)
        obtain ⟨hI, hfr, hv⟩ := hJ
        (try dsimp only at hv)
        have rg_x18 := i_range x18
        refine ⟨fun c2 => ?_, fun c2 => ?_⟩
        · exact kk σ19 hI hfr trivial
        · intro z22 ez22
          try have hz22 := i_mulk 2 rfl ez22 (by omega) (by omega)
          have rg_z22 := i_range z22
          intro z23 ez23
          try have hz23 := i_add ez23 (by omega) (by omega)
          have rg_z23 := i_range z23
          intro z24 ez24
          have vz24 := hI.fI 118 0 3 (by decide) rfl rfl rfl ez24
          have wz24 : z24.toInt = (sI σ h0 118).toInt := by rw [ez24, (hfr.1 118 (by decide)).1]
          refine jn_dup ?_
          refine ⟨fun c3 => ?_, fun c3 => ?_⟩
          · intro z33 ez33
            try have hz33 := i_mulk 12 rfl ez33 (by omega) (by omega)
            have rg_z33 := i_range z33
            intro z34 ez34
            try have hz34 := i_add ez34 (by omega) (by omega)
            have rg_z34 := i_range z34
            refine ⟨by omega, ?_⟩
            intro z35 ez35
            have vz35 := hI.aI 4 1920 (-128) 127 (by decide) (by decide) rfl rfl rfl (i := z34.toInt) (by omega) ez35
            have wz35 : z35.toInt = (sI σ (L 4) z34.toInt.toNat).toInt := by rw [ez35, (hfr.2.1 4 (by decide) (by decide) _).1]
            intro z36 ez36
            have hz36 := i_tol ez36
            have rg_z36 := l_range z36
            (try dsimp only)
            refine s_X12_set hI z23 2 z36 (by omega) (fun σ30 hI fz31 pz31 => ?_)
            have hfr := hfr.tr fz31 (by decide) (by decide)
            intro z32 ez32
            try have hz32 := i_add ez32 (by omega) (by omega)
            have rg_z32 := i_range z32
            exact hK20 z32 σ30 ⟨hI, hfr, (by (try dsimp only); omega)⟩ (by (try dsimp only); omega)
          · (try dsimp only)
            refine s_X12_set hI z23 2 46 (by omega) (fun σ30 hI fz31 pz31 => ?_)
            have hfr := hfr.tr fz31 (by decide) (by decide)
            intro z32 ez32
            try have hz32 := i_add ez32 (by omega) (by omega)
            have rg_z32 := i_range z32
            exact hK20 z32 σ30 ⟨hI, hfr, (by (try dsimp only); omega)⟩ (by (try dsimp only); omega)
      · skip
        refine ⟨fun c4 => ?_, fun c4 => ?_⟩
        · intro z37 ez37
          try have hz37 := i_add ez37 (by omega) (by omega)
          have rg_z37 := i_range z37
          intro z38 ez38
          try have hz38 := i_mulk 2 rfl ez38 (by omega) (by omega)
          have rg_z38 := i_range z38
          intro z39 ez39
          have hz39 := i_tol ez39
          have rg_z39 := l_range z39
          refine s_X12_set hI z37 4 z39 (by omega) (fun σ40 hI fz41 pz41 => ?_)
          have hfr := hfr.tr fz41 (by decide) (by decide)
          exact hK15 z12 σ40 ⟨hI, hfr, (by (try dsimp only); omega)⟩
        · intro z42 ez42
          try have hz42 := i_add ez42 (by omega) (by omega)
          have rg_z42 := i_range z42
          refine s_X12_setTimes hI z42 z1 (by omega) (fun σ43 hI fz44 pz44 => ?_)
          have hfr := hfr.tr fz44 (by decide) (by decide)
          intro z45 ez45
          try have hz45 := i_add ez45 (by omega) (by omega)
          have rg_z45 := i_range z45
          refine ⟨by omega, ?_⟩
          intro z46 ez46
          have vz46 := hI.aI 8 160 0 4096 (by decide) (by decide) rfl rfl rfl (i := z1.toInt) (by omega) ez46
          have wz46 : z46.toInt = (sI σ (L 8) z1.toInt.toNat).toInt := by rw [ez46, (hfr.2.1 8 (by decide) (by decide) _).1]
          intro z47 ez47
          have hz47 := i_tol ez47
          have rg_z47 := l_range z47
          refine s_X12_set hI z45 8 z47 (by omega) (fun σ48 hI fz49 pz49 => ?_)
          have hfr := hfr.tr fz49 (by decide) (by decide)
          intro z50 ez50
          try have hz50 := i_add ez50 (by omega) (by omega)
          have rg_z50 := i_range z50
          refine s_X12_room hI z1 (by omega) (fun z52 pz52 => ?_)
          have rg_z52 := i_range z52
          intro z53 ez53
          have hz53 := i_tol ez53
          have rg_z53 := l_range z53
          refine s_X12_set hI z50 8 z53 (by omega) (fun σ54 hI fz55 pz55 => ?_)
          have hfr := hfr.tr fz55 (by decide) (by decide)
          intro z56 ez56
          try have hz56 := i_add ez56 (by omega) (by omega)
          have rg_z56 := i_range z56
          refine s_X12_shown hI z1 (by omega) (fun z58 pz58 => ?_)
          have rg_z58 := i_range z58
          intro z59 ez59
          have hz59 := i_tol ez59
          have rg_z59 := l_range z59
          refine s_X12_set hI z56 4 z59 (by omega) (fun σ60 hI fz61 pz61 => ?_)
          have hfr := hfr.tr fz61 (by decide) (by decide)
          intro z62 ez62
          try have hz62 := i_add ez62 (by omega) (by omega)
          have rg_z62 := i_range z62
          intro z63 ez63
          try have hz63 := i_mulk 2 rfl ez63 (by omega) (by omega)
          have rg_z63 := i_range z63
          intro z64 ez64
          have hz64 := i_tol ez64
          have rg_z64 := l_range z64
          refine s_X12_set hI z62 4 z64 (by omega) (fun σ65 hI fz66 pz66 => ?_)
          have hfr := hfr.tr fz66 (by decide) (by decide)
          intro z67 ez67
          try have hz67 := i_add ez67 (by omega) (by omega)
          have rg_z67 := i_range z67
          exact hK15 z67 σ65 ⟨hI, hfr, (by (try dsimp only); omega)⟩
    · refine s_X12_set hI x2 1 0 (by omega) (fun σ68 hI fz69 pz69 => ?_)
      have hfr := hfr.tr fz69 (by decide) (by decide)
      intro z70 ez70
      try have hz70 := i_add ez70 (by omega) (by omega)
      have rg_z70 := i_range z70
      exact hK4 z70 σ68 ⟨hI, hfr, (by (try dsimp only); omega)⟩ (by (try dsimp only); omega)
  · skip
    refine ⟨fun c5 => ?_, fun c5 => ?_⟩
    · exact hK8 12 σ3 ⟨hI, hfr, (by (try dsimp only); omega)⟩
    · exact hK8 64 σ3 ⟨hI, hfr, (by (try dsimp only); omega)⟩
set_option maxRecDepth 100000 in
set_option maxHeartbeats 4000000 in
theorem s_X12_nameIt {h0 : Nat} {L : Nat → Nat} {σ : HS} (hI : OKM h0 L σ) (a1 : Int32) (a2 : Int32) (hz : 0 ≤ a1.toInt ∧ a1.toInt < 9 ∧ 0 ≤ a2.toInt ∧ a2.toInt < 130 ∧ (sI σ (L 79) a2.toInt.toNat).toInt ≤ 12 ∧ (sI σ (L 78) a2.toInt.toNat).toInt + (sI σ (L 79) a2.toInt.toNat).toInt ≤ 130) {post : HS → Prop} (kk : ∀ (σ' : HS), OKM h0 L σ' → Fr h0 L [] [18, 19] σ σ' → (True) → post σ') : F_X12_nameIt h0 L a1 a2 post σ := by
  unfold F_X12_nameIt
  have k_0 : (0 : Int32).toInt = 0 := rfl
  have k_1 : (1 : Int32).toInt = 1 := rfl
  have k_12 : (12 : Int32).toInt = 12 := rfl
  have rg_a1 := i_range a1
  have rg_a2 := i_range a2
  have hfr : Fr h0 L [] [18, 19] σ σ := Fr.rf
  refine ⟨by omega, ?_⟩
  intro z1 ez1
  have vz1 := hI.aI 79 130 0 120 (by decide) (by decide) rfl rfl rfl (i := a2.toInt) (by omega) ez1
  have wz1 : z1.toInt = (sI σ (L 79) a2.toInt.toNat).toInt := by rw [ez1, (hfr.2.1 79 (by decide) (by decide) _).1]
  refine ⟨by omega, ?_⟩
  intro σ2 eσ2
  have hMp := hI.2
  have hI := hI.pA 19 0 12 (by decide) (by decide) rfl rfl (by omega) eσ2
  have hfr := hfr.aI hMp (by decide) eσ2 (by decide)
  refine lw_in (fun (x : Int32) (σ' : HS) => OKM h0 L σ' ∧ Fr h0 L [] [18, 19] σ σ' ∧ ((0 ≤ x.toInt ∧ x.toInt ≤ 12))) (fun (x : Int32) (σ' : HS) => (130 - x.toInt).toNat) ⟨hI, hfr, (by (try dsimp only); omega)⟩ (fun x3 σ4 hJ K5 hK5 => ?_)
  obtain ⟨hI, hfr, hv⟩ := hJ
  (try dsimp only at hv)
  have rg_x3 := i_range x3
  refine ⟨by omega, ?_⟩
  intro z7 ez7
  have vz7 := hI.aI 79 130 0 120 (by decide) (by decide) rfl rfl rfl (i := a2.toInt) (by omega) ez7
  have wz7 : z7.toInt = (sI σ (L 79) a2.toInt.toNat).toInt := by rw [ez7, (hfr.2.1 79 (by decide) (by decide) _).1]
  refine ⟨fun c1 => ?_, fun c1 => ?_⟩
  · exact kk σ4 hI hfr trivial
  · intro z8 ez8
    try have hz8 := i_mulk 12 rfl ez8 (by omega) (by omega)
    have rg_z8 := i_range z8
    intro z9 ez9
    try have hz9 := i_add ez9 (by omega) (by omega)
    have rg_z9 := i_range z9
    refine ⟨by omega, ?_⟩
    intro z10 ez10
    have vz10 := hI.aI 78 130 0 121 (by decide) (by decide) rfl rfl rfl (i := a2.toInt) (by omega) ez10
    have wz10 : z10.toInt = (sI σ (L 78) a2.toInt.toNat).toInt := by rw [ez10, (hfr.2.1 78 (by decide) (by decide) _).1]
    intro z11 ez11
    try have hz11 := i_add ez11 (by omega) (by omega)
    have rg_z11 := i_range z11
    refine ⟨by omega, ?_⟩
    intro z12 ez12
    have vz12 := hI.aI 77 130 0 65535 (by decide) (by decide) rfl rfl rfl (i := z11.toInt) (by omega) ez12
    have wz12 : z12.toInt = (sI σ (L 77) z11.toInt.toNat).toInt := by rw [ez12, (hfr.2.1 77 (by decide) (by decide) _).1]
    intro z13 ez13
    have hz13 := i_b8 ez13
    have rg_z13 := i_range z13
    refine ⟨by omega, ?_⟩
    intro σ14 eσ14
    have hMp := hI.2
    have hI := hI.pA 18 (-128) 127 (by decide) (by decide) rfl rfl (i_byte _) eσ14
    have hfr := hfr.aI hMp (by decide) eσ14 (by decide)
    intro z15 ez15
    try have hz15 := i_add ez15 (by omega) (by omega)
    have rg_z15 := i_range z15
    exact hK5 z15 σ14 ⟨hI, hfr, (by (try dsimp only); omega)⟩ (by (try dsimp only); omega)
set_option maxRecDepth 100000 in
set_option maxHeartbeats 4000000 in
theorem s_X12_negotiate {h0 : Nat} {L : Nat → Nat} {σ : HS} (hI : OKM h0 L σ)  (hN : InM h0 L σ (sI σ h0 87).toInt) (hz : 100 + 2 * (NUM h0 L σ 66 2 : Int) ≤ (sI σ h0 87).toInt) {post : Int64 → HS → Prop} (kk : ∀ (r : Int64) (σ' : HS), OKM h0 L σ' → Fr h0 L [91] [26, 76] σ σ' → (True) → post r σ') : F_X12_negotiate h0 L  post σ := by
  unfold F_X12_negotiate
  have k_0 : (0 : Int32).toInt = 0 := rfl
  have k_1 : (1 : Int32).toInt = 1 := rfl
  have k_2 : (2 : Int32).toInt = 2 := rfl
  have k_4 : (4 : Int32).toInt = 4 := rfl
  have k_8 : (8 : Int32).toInt = 8 := rfl
  have k_64 : (64 : Int32).toInt = 64 := rfl
  have k_65 : (65 : Int32).toInt = 65 := rfl
  have k_66 : (66 : Int32).toInt = 66 := rfl
  have k_68 : (68 : Int32).toInt = 68 := rfl
  have k_92 : (92 : Int32).toInt = 92 := rfl
  have k_96 : (96 : Int32).toInt = 96 := rfl
  have k_100 : (100 : Int32).toInt = 100 := rfl
  have k_104 : (104 : Int32).toInt = 104 := rfl
  have k_120 : (120 : Int32).toInt = 120 := rfl
  have k_514 : (514 : Int32).toInt = 514 := rfl
  have kl_0 : (0 : Int64).toInt = 0 := rfl
  have kl_1 : (1 : Int64).toInt = 1 := rfl
  have kl_65 : (65 : Int64).toInt = 65 := rfl
  have kl_128 : (128 : Int64).toInt = 128 := rfl
  have kl_514 : (514 : Int64).toInt = 514 := rfl
  have kl_1024 : (1024 : Int64).toInt = 1024 := rfl
  have kl_3221225659 : (3221225659 : Int64).toInt = 3221225659 := rfl
  have hfr : Fr h0 L [91] [26, 76] σ σ := Fr.rf
  have h87 : (0 : Int) ≤ (sI σ h0 87).toInt ∧ (sI σ h0 87).toInt ≤ 4000 := hI.fI 87 0 4000 (by decide) rfl rfl rfl rfl
  refine s_X12_number2 hI 66 (by omega) ((hN.fr hfr (by decide) (by decide)).le (by omega)) (fun z2 pz2 => ?_)
  have tz2 : z2.toInt = (NUM h0 L σ 66 2 : Int) := pz2.1
  have rg_z2 := i_range z2
  refine lw_in (fun (x : Int32 × Int32) (σ' : HS) => OKM h0 L σ' ∧ Fr h0 L [91] [26, 76] σ σ' ∧ ((0 ≤ x.1.toInt) ∧ (0 ≤ x.1.toInt ∧ x.1.toInt ≤ z2.toInt) ∧ (0 ≤ x.2.toInt ∧ x.2.toInt ≤ 1))) (fun (x : Int32 × Int32) (σ' : HS) => (z2.toInt - x.1.toInt).toNat) ⟨hI, hfr, (by (try dsimp only); omega)⟩ (fun x3 σ4 hJ K5 hK5 => ?_)
  obtain ⟨hI, hfr, hv⟩ := hJ
  (try dsimp only at hv)
  have rg_x3_1 := i_range x3.1
  have rg_x3_2 := i_range x3.2
  refine ⟨fun c1 => ?_, fun c1 => ?_⟩
  · refine ⟨fun c2 => ?_, fun c2 => ?_⟩
    · intro z7 ez7
      have vz7 := hI.fI 88 0 5 (by decide) rfl rfl rfl ez7
      have wz7 : z7.toInt = (sI σ h0 88).toInt := by rw [ez7, (hfr.1 88 (by decide)).1]
      refine ⟨by omega, ?_⟩
      intro σ8 eσ8
      have hMp := hI.2
      have hI := hI.pA 26 0 1 (by decide) (by decide) rfl rfl (i_bool _) eσ8
      have hfr := hfr.aI hMp (by decide) eσ8 (by decide)
      refine s_X12_body hI 65 (by omega) (fun σ9 hI fz10 pz10 => ?_)
      have hfr := hfr.tr fz10 (by decide) (by decide)
      refine s_X12_set hI 64 2 65 (by omega) (fun σ11 hI fz12 pz12 => ?_)
      have hfr := hfr.tr fz12 (by decide) (by decide)
      refine s_X12_set hI 66 2 1 (by omega) (fun σ13 hI fz14 pz14 => ?_)
      have hfr := hfr.tr fz14 (by decide) (by decide)
      refine s_X12_set hI 68 2 514 (by omega) (fun σ15 hI fz16 pz16 => ?_)
      have hfr := hfr.tr fz16 (by decide) (by decide)
      refine s_X12_set hI 92 4 1024 (by omega) (fun σ17 hI fz18 pz18 => ?_)
      have hfr := hfr.tr fz18 (by decide) (by decide)
      refine s_X12_set hI 96 4 1024 (by omega) (fun σ19 hI fz20 pz20 => ?_)
      have hfr := hfr.tr fz20 (by decide) (by decide)
      refine s_X12_set hI 100 4 1024 (by omega) (fun σ21 hI fz22 pz22 => ?_)
      have hfr := hfr.tr fz22 (by decide) (by decide)
      intro z23 ez23
      have wz23 : z23.toInt = (sJ σ21 h0 2).toInt := by rw [ez23]
      have vz23 := l_range z23
      refine s_X12_set hI 104 8 z23 (by omega) (fun σ24 hI fz25 pz25 => ?_)
      have hfr := hfr.tr fz25 (by decide) (by decide)
      refine s_X12_set hI 120 2 128 (by omega) (fun σ26 hI fz27 pz27 => ?_)
      have hfr := hfr.tr fz27 (by decide) (by decide)
      exact kk 0 σ26 hI hfr trivial
    · exact kk 3221225659 σ4 hI hfr trivial
  · intro z28 ez28
    try have hz28 := i_mulk 2 rfl ez28 (by omega) (by omega)
    have rg_z28 := i_range z28
    intro z29 ez29
    try have hz29 := i_add ez29 (by omega) (by omega)
    have rg_z29 := i_range z29
    refine s_X12_number2 hI z29 (by omega) ((hN.fr hfr (by decide) (by decide)).le (by omega)) (fun z31 pz31 => ?_)
    have rg_z31 := i_range z31
    refine jn_dup ?_
    refine ⟨fun c3 => ?_, fun c3 => ?_⟩
    · (try dsimp only)
      intro z37 ez37
      try have hz37 := i_orm ez37 (by omega) (by omega)
      try have h2z37 := i_or ez37 (by omega) (by omega)
      have rg_z37 := i_range z37
      intro z38 ez38
      try have hz38 := i_add ez38 (by omega) (by omega)
      have rg_z38 := i_range z38
      exact hK5 (z38, z37) σ4 ⟨hI, hfr, (by (try dsimp only); omega)⟩ (by (try dsimp only); omega)
    · (try dsimp only)
      intro z37 ez37
      try have hz37 := i_orm ez37 (by omega) (by omega)
      try have h2z37 := i_or ez37 (by omega) (by omega)
      have rg_z37 := i_range z37
      intro z38 ez38
      try have hz38 := i_add ez38 (by omega) (by omega)
      have rg_z38 := i_range z38
      exact hK5 (z38, z37) σ4 ⟨hI, hfr, (by (try dsimp only); omega)⟩ (by (try dsimp only); omega)
set_option maxRecDepth 100000 in
set_option maxHeartbeats 4000000 in
theorem s_X12_cancel {h0 : Nat} {L : Nat → Nat} {σ : HS} (hI : OKM h0 L σ) (a1 : Int32) (a2 : Int64) (hN : InM h0 L σ (sI σ h0 87).toInt) (hz : 64 ≤ (sI σ h0 87).toInt) {post : HS → Prop} (kk : ∀ (σ' : HS), OKM h0 L σ' → Fr h0 L [69] [27, 28, 61, 62, 63, 64, 65, 66, 67, 68, 69, 70, 71, 72, 73, 74, 75, 76] σ σ' → (Sub h0 L σ σ') → post σ') : F_X12_cancel h0 L a1 a2 post σ := by
  unfold F_X12_cancel
  have k_0 : (0 : Int32).toInt = 0 := rfl
  have k_1 : (1 : Int32).toInt = 1 := rfl
  have k_2 : (2 : Int32).toInt = 2 := rfl
  have k_4 : (4 : Int32).toInt = 4 := rfl
  have k_8 : (8 : Int32).toInt = 8 := rfl
  have k_16 : (16 : Int32).toInt = 16 := rfl
  have k_32 : (32 : Int32).toInt = 32 := rfl
  have k_64 : (64 : Int32).toInt = 64 := rfl
  have k_68 : (68 : Int32).toInt = 68 := rfl
  have kl_0 : (0 : Int64).toInt = 0 := rfl
  have kl_2 : (2 : Int64).toInt = 2 := rfl
  have kl_3221225760 : (3221225760 : Int64).toInt = 3221225760 := rfl
  have rg_a1 := i_range a1
  have rg_a2 := l_range a2
  have hfr : Fr h0 L [69] [27, 28, 61, 62, 63, 64, 65, 66, 67, 68, 69, 70, 71, 72, 73, 74, 75, 76] σ σ := Fr.rf
  intro z1 ez1
  have vz1 := hI.fI 87 0 4000 (by decide) rfl rfl rfl ez1
  have wz1 : z1.toInt = (sI σ h0 87).toInt := by rw [ez1, (hfr.1 87 (by decide)).1]
  refine jn_dup ?_
  refine ⟨fun c1 => ?_, fun c1 => ?_⟩
  · (try dsimp only)
    exact kk σ hI hfr (by first | exact Sub.rf | exact hS | exact hS.tr pz40.sub)
  · refine s_X12_number2 hI 64 (by omega) ((hN.fr hfr (by decide) (by decide)).le (by omega)) (fun z8 pz8 => ?_)
    have tz8 : z8.toInt = (NUM h0 L σ 64 2 : Int) := pz8.1
    have rg_z8 := i_range z8
    refine ⟨fun c2 => ?_, fun c2 => ?_⟩
    · refine s_X12_number hI 16 4 (by omega) ((hN.fr hfr (by decide) (by decide)).le (by omega)) (fun z10 pz10 => ?_)
      have tz10 : z10.toInt = (NUM h0 L σ 16 4 : Int) ∧ z10.toInt < 4294967296 := num_t (n := 4) (K := 4294967296) pz10 rfl (by decide)
      intro z11 ez11
      try have hz11 := l_and ez11 (by omega)
      have rg_z11 := l_range z11
      refine jn_in (fun (x : Int32) (σ' : HS) => OKM h0 L σ' ∧ Fr h0 L [69] [27, 28, 61, 62, 63, 64, 65, 66, 67, 68, 69, 70, 71, 72, 73, 74, 75, 76] σ σ' ∧ ((0 ≤ x.toInt ∧ x.toInt ≤ 1)) ∧ (Sub h0 L σ σ')) (fun x12 σ13 hJ => ?_) (fun K14 hK14 => ?_)
      · obtain ⟨hI, hfr, hv, hS⟩ := hJ
        (try dsimp only at hv)
        have rg_x12 := i_range x12
        refine jn_in (fun (x : Int64) (σ' : HS) => OKM h0 L σ' ∧ Fr h0 L [69] [27, 28, 61, 62, 63, 64, 65, 66, 67, 68, 69, 70, 71, 72, 73, 74, 75, 76] σ σ' ∧ (True) ∧ (Sub h0 L σ σ')) (fun x17 σ18 hJ => ?_) (fun K19 hK19 => ?_)
        · obtain ⟨hI, hfr, hv, hS⟩ := hJ
          (try dsimp only at hv)
          have rg_x17 := l_range x17
          refine lw_in (fun (x : Int32) (σ' : HS) => OKM h0 L σ' ∧ Fr h0 L [69] [27, 28, 61, 62, 63, 64, 65, 66, 67, 68, 69, 70, 71, 72, 73, 74, 75, 76] σ σ' ∧ ((0 ≤ x.toInt ∧ x.toInt ≤ 16)) ∧ (Sub h0 L σ σ')) (fun (x : Int32) (σ' : HS) => (17 - x.toInt).toNat) ⟨hI, hfr, (by (try dsimp only); omega), (by first | exact Sub.rf | exact hS)⟩ (fun x22 σ23 hJ K24 hK24 => ?_)
          obtain ⟨hI, hfr, hv, hS⟩ := hJ
          (try dsimp only at hv)
          have rg_x22 := i_range x22
          intro z26 ez26
          have vz26 := hI.fI 69 0 16 (by decide) rfl rfl rfl ez26
          have wz26 : z26.toInt = (sI σ23 h0 69).toInt := by rw [ez26]
          refine ⟨fun c3 => ?_, fun c3 => ?_⟩
          · exact kk σ23 hI hfr (by first | exact Sub.rf | exact hS | exact hS.tr pz40.sub)
          · refine ⟨by omega, ?_⟩
            intro z27 ez27
            have vz27 := hI.aI 61 16 0 5 (by decide) (by decide) rfl rfl rfl (i := x22.toInt) (by omega) ez27
            have wz27 : z27.toInt = (sI σ23 (L 61) x22.toInt.toNat).toInt := by rw [ez27]
            refine jn_dup ?_
            refine ⟨fun c4 => ?_, fun c4 => ?_⟩
            · (try dsimp only)
              intro z33 ez33
              try have hz33 := i_add ez33 (by omega) (by omega)
              have rg_z33 := i_range z33
              exact hK24 z33 σ23 ⟨hI, hfr, (by (try dsimp only); omega), (by first | exact Sub.rf | exact hS)⟩ (by (try dsimp only); omega)
            · refine jn_dup ?_
              refine ⟨fun c5 => ?_, fun c5 => ?_⟩
              · refine ⟨by omega, ?_⟩
                intro z41 ez41
                have wz41 : z41.toInt = (sJ σ23 (L 65) x22.toInt.toNat).toInt := by rw [ez41]
                (try dsimp only)
                refine ⟨fun c6 => ?_, fun c6 => ?_⟩
                · (try dsimp only)
                  intro z33 ez33
                  try have hz33 := i_add ez33 (by omega) (by omega)
                  have rg_z33 := i_range z33
                  exact hK24 z33 σ23 ⟨hI, hfr, (by (try dsimp only); omega), (by first | exact Sub.rf | exact hS)⟩ (by (try dsimp only); omega)
                · refine s_X12_give hI x22 3221225760 (by omega) (fun σ39 hI fz40 pz40 => ?_)
                  have hfr := hfr.tr fz40 (by decide) (by decide)
                  exact kk σ39 hI hfr (by first | exact Sub.rf | exact hS | exact hS.tr pz40.sub)
              · refine ⟨by omega, ?_⟩
                intro z42 ez42
                have wz42 : z42.toInt = (sJ σ23 (L 66) x22.toInt.toNat).toInt := by rw [ez42]
                (try dsimp only)
                refine ⟨fun c7 => ?_, fun c7 => ?_⟩
                · (try dsimp only)
                  intro z33 ez33
                  try have hz33 := i_add ez33 (by omega) (by omega)
                  have rg_z33 := i_range z33
                  exact hK24 z33 σ23 ⟨hI, hfr, (by (try dsimp only); omega), (by first | exact Sub.rf | exact hS)⟩ (by (try dsimp only); omega)
                · refine s_X12_give hI x22 3221225760 (by omega) (fun σ39 hI fz40 pz40 => ?_)
                  have hfr := hfr.tr fz40 (by decide) (by decide)
                  exact kk σ39 hI hfr (by first | exact Sub.rf | exact hS | exact hS.tr pz40.sub)
        · skip
          refine ⟨fun c8 => ?_, fun c8 => ?_⟩
          · exact hK19 a2 σ13 ⟨hI, hfr, trivial, (by first | exact Sub.rf | exact hS)⟩
          · refine s_X12_number hI 32 8 (by omega) ((hN.fr hfr (by decide) (by decide)).le (by omega)) (fun z44 pz44 => ?_)
            exact hK19 z44 σ13 ⟨hI, hfr, trivial, (by first | exact Sub.rf | exact hS)⟩
      · skip
        refine ⟨fun c9 => ?_, fun c9 => ?_⟩
        · exact hK14 0 σ ⟨hI, hfr, (by (try dsimp only); omega), (by first | exact Sub.rf | exact hS)⟩
        · exact hK14 1 σ ⟨hI, hfr, (by (try dsimp only); omega), (by first | exact Sub.rf | exact hS)⟩
    · (try dsimp only)
      exact kk σ hI hfr (by first | exact Sub.rf | exact hS | exact hS.tr pz40.sub)
set_option maxRecDepth 100000 in
set_option maxHeartbeats 4000000 in
theorem s_X12_setToGo {h0 : Nat} {L : Nat → Nat} {σ : HS} (hI : OKM h0 L σ) (a1 : Int32) (a2 : Int32) (hN : InM h0 L σ (sI σ h0 87).toInt) (hz : 0 ≤ a1.toInt ∧ a1.toInt < 80 ∧ 0 ≤ a2.toInt ∧ a2.toInt + 1 ≤ (sI σ h0 87).toInt) {post : Int64 → HS → Prop} (kk : ∀ (r : Int64) (σ' : HS), OKM h0 L σ' → Fr h0 L [] [10] σ σ' → (True) → post r σ') : F_X12_setToGo h0 L a1 a2 post σ := by
  unfold F_X12_setToGo
  have k_0 : (0 : Int32).toInt = 0 := rfl
  have k_1 : (1 : Int32).toInt = 1 := rfl
  have kl_0 : (0 : Int64).toInt = 0 := rfl
  have kl_3221225729 : (3221225729 : Int64).toInt = 3221225729 := rfl
  have kl_3221225761 : (3221225761 : Int64).toInt = 3221225761 := rfl
  have rg_a1 := i_range a1
  have rg_a2 := i_range a2
  have hfr : Fr h0 L [] [10] σ σ := Fr.rf
  have h87 : (0 : Int) ≤ (sI σ h0 87).toInt ∧ (sI σ h0 87).toInt ≤ 4000 := hI.fI 87 0 4000 (by decide) rfl rfl rfl rfl
  refine s_X12_number1 hI a2 (by omega) ((hN.fr hfr (by decide) (by decide)).le (by omega)) (fun z2 pz2 => ?_)
  have rg_z2 := i_range z2
  refine ⟨fun c1 => ?_, fun c1 => ?_⟩
  · refine ⟨by omega, ?_⟩
    intro z3 ez3
    have vz3 := hI.aI 6 160 (-2147483648) 2147483647 (by decide) (by decide) rfl rfl rfl (i := a1.toInt) (by omega) ez3
    have wz3 : z3.toInt = (sI σ (L 6) a1.toInt.toNat).toInt := by rw [ez3]
    intro z4 ez4
    try have hz4 := i_and1 ez4 (by omega)
    have rg_z4 := i_range z4
    refine jn_dup ?_
    refine ⟨fun c2 => ?_, fun c2 => ?_⟩
    · (try dsimp only)
      exact kk 3221225761 σ hI hfr trivial
    · refine ⟨by omega, ?_⟩
      intro z10 ez10
      have vz10 := hI.aI 2 160 (-1) 79 (by decide) (by decide) rfl rfl rfl (i := a1.toInt) (by omega) ez10
      have wz10 : z10.toInt = (sI σ (L 2) a1.toInt.toNat).toInt := by rw [ez10]
      refine ⟨fun c3 => ?_, fun c3 => ?_⟩
      · refine ⟨by omega, ?_⟩
        intro z11 ez11
        have vz11 := hI.aI 3 160 0 1 (by decide) (by decide) rfl rfl rfl (i := a1.toInt) (by omega) ez11
        have wz11 : z11.toInt = (sI σ (L 3) a1.toInt.toNat).toInt := by rw [ez11]
        refine jn_dup ?_
        refine ⟨fun c4 => ?_, fun c4 => ?_⟩
        · (try dsimp only)
          refine ⟨by omega, ?_⟩
          intro σ17 eσ17
          have hMp := hI.2
          have hI := hI.pA 10 0 1 (by decide) (by decide) rfl rfl (i_bool _) eσ17
          have hfr := hfr.aI hMp (by decide) eσ17 (by decide)
          exact kk 0 σ17 hI hfr trivial
        · refine s_X12_isEmpty hI a1  (fun z19 pz19 => ?_)
          have rg_z19 := i_range z19
          refine ⟨fun c5 => ?_, fun c5 => ?_⟩
          · (try dsimp only)
            refine ⟨by omega, ?_⟩
            intro σ17 eσ17
            have hMp := hI.2
            have hI := hI.pA 10 0 1 (by decide) (by decide) rfl rfl (i_bool _) eσ17
            have hfr := hfr.aI hMp (by decide) eσ17 (by decide)
            exact kk 0 σ17 hI hfr trivial
          · exact kk 3221225729 σ hI hfr trivial
      · (try dsimp only)
        exact kk 3221225761 σ hI hfr trivial
  · refine ⟨by omega, ?_⟩
    intro σ20 eσ20
    have hMp := hI.2
    have hI := hI.pA 10 0 1 (by decide) (by decide) rfl rfl (i_bool _) eσ20
    have hfr := hfr.aI hMp (by decide) eσ20 (by decide)
    exact kk 0 σ20 hI hfr trivial
set_option maxRecDepth 100000 in
set_option maxHeartbeats 4000000 in
theorem s_X12_begin {h0 : Nat} {L : Nat → Nat} {σ : HS} (hI : OKM h0 L σ)   {post : HS → Prop} (kk : ∀ (σ' : HS), OKM h0 L σ' → Fr h0 L [16, 59, 60, 61, 62, 63, 69] [1, 2, 3, 4, 5, 6, 7, 8, 9, 10, 25, 28, 34, 38, 41] σ σ' → (True) → post σ') : F_X12_begin h0 L  post σ := by
  unfold F_X12_begin
  have k_0 : (0 : Int32).toInt = 0 := rfl
  have k_1 : (1 : Int32).toInt = 1 := rfl
  have k_6 : (6 : Int32).toInt = 6 := rfl
  have k_8 : (8 : Int32).toInt = 8 := rfl
  have k_16 : (16 : Int32).toInt = 16 := rfl
  have k_40 : (40 : Int32).toInt = 40 := rfl
  have k_80 : (80 : Int32).toInt = 80 := rfl
  have hfr : Fr h0 L [16, 59, 60, 61, 62, 63, 69] [1, 2, 3, 4, 5, 6, 7, 8, 9, 10, 25, 28, 34, 38, 41] σ σ := Fr.rf
  refine lw_in (fun (x : Int32) (σ' : HS) => OKM h0 L σ' ∧ Fr h0 L [16, 59, 60, 61, 62, 63, 69] [1, 2, 3, 4, 5, 6, 7, 8, 9, 10, 25, 28, 34, 38, 41] σ σ' ∧ ((0 ≤ x.toInt ∧ x.toInt ≤ 6))) (fun (x : Int32) (σ' : HS) => (6 - x.toInt).toNat) ⟨hI, hfr, (by (try dsimp only); omega)⟩ (fun x1 σ2 hJ K3 hK3 => ?_)
  obtain ⟨hI, hfr, hv⟩ := hJ
  (try dsimp only at hv)
  have rg_x1 := i_range x1
  refine ⟨fun c1 => ?_, fun c1 => ?_⟩
  · refine lw_in (fun (x : Int32) (σ' : HS) => OKM h0 L σ' ∧ Fr h0 L [16, 59, 60, 61, 62, 63, 69] [1, 2, 3, 4, 5, 6, 7, 8, 9, 10, 25, 28, 34, 38, 41] σ σ' ∧ ((0 ≤ x.toInt ∧ x.toInt ≤ 8))) (fun (x : Int32) (σ' : HS) => (8 - x.toInt).toNat) ⟨hI, hfr, (by (try dsimp only); omega)⟩ (fun x5 σ6 hJ K7 hK7 => ?_)
    obtain ⟨hI, hfr, hv⟩ := hJ
    (try dsimp only at hv)
    have rg_x5 := i_range x5
    refine ⟨fun c2 => ?_, fun c2 => ?_⟩
    · refine lw_in (fun (x : Int32) (σ' : HS) => OKM h0 L σ' ∧ Fr h0 L [16, 59, 60, 61, 62, 63, 69] [1, 2, 3, 4, 5, 6, 7, 8, 9, 10, 25, 28, 34, 38, 41] σ σ' ∧ ((0 ≤ x.toInt ∧ x.toInt ≤ 16))) (fun (x : Int32) (σ' : HS) => (16 - x.toInt).toNat) ⟨hI, hfr, (by (try dsimp only); omega)⟩ (fun x9 σ10 hJ K11 hK11 => ?_)
      obtain ⟨hI, hfr, hv⟩ := hJ
      (try dsimp only at hv)
      have rg_x9 := i_range x9
      refine ⟨fun c3 => ?_, fun c3 => ?_⟩
      · refine lw_in (fun (x : Int32) (σ' : HS) => OKM h0 L σ' ∧ Fr h0 L [16, 59, 60, 61, 62, 63, 69] [1, 2, 3, 4, 5, 6, 7, 8, 9, 10, 25, 28, 34, 38, 41] σ σ' ∧ ((0 ≤ x.toInt ∧ x.toInt ≤ 40))) (fun (x : Int32) (σ' : HS) => (40 - x.toInt).toNat) ⟨hI, hfr, (by (try dsimp only); omega)⟩ (fun x13 σ14 hJ K15 hK15 => ?_)
        obtain ⟨hI, hfr, hv⟩ := hJ
        (try dsimp only at hv)
        have rg_x13 := i_range x13
        refine ⟨fun c4 => ?_, fun c4 => ?_⟩
        · intro σ17 eσ17
          have hMp := hI.2
          have hI := hI.pF 63 0 80 rfl rfl (by omega) eσ17
          have hfr := hfr.fI hMp eσ17 (by decide) rfl
          have uσ17 : (sI σ17 h0 63).toInt = (0 : Int32).toInt := by rw [eσ17]; exact congrArg Int32.toInt u2_same
          intro σ18 eσ18
          have hMp := hI.2
          have hI := hI.pF 69 0 16 rfl rfl (by omega) eσ18
          have hfr := hfr.fI hMp eσ18 (by decide) rfl
          have uσ18 : (sI σ18 h0 69).toInt = (0 : Int32).toInt := by rw [eσ18]; exact congrArg Int32.toInt u2_same
          intro σ19 eσ19
          have hMp := hI.2
          have hI := hI.pF 16 0 8 rfl rfl (by omega) eσ19
          have hfr := hfr.fI hMp eσ19 (by decide) rfl
          have uσ19 : (sI σ19 h0 16).toInt = (0 : Int32).toInt := by rw [eσ19]; exact congrArg Int32.toInt u2_same
          intro σ20 eσ20
          have hMp := hI.2
          have hI := hI.pJ eσ20
          have hfr := hfr.fJ hMp eσ20 (by decide) rfl
          intro σ21 eσ21
          have hMp := hI.2
          have hI := hI.pJ eσ21
          have hfr := hfr.fJ hMp eσ21 (by decide) rfl
          intro σ22 eσ22
          have hMp := hI.2
          have hI := hI.pJ eσ22
          have hfr := hfr.fJ hMp eσ22 (by decide) rfl
          intro σ23 eσ23
          have hMp := hI.2
          have hI := hI.pJ eσ23
          have hfr := hfr.fJ hMp eσ23 (by decide) rfl
          refine lw_in (fun (x : Int32) (σ' : HS) => OKM h0 L σ' ∧ Fr h0 L [16, 59, 60, 61, 62, 63, 69] [1, 2, 3, 4, 5, 6, 7, 8, 9, 10, 25, 28, 34, 38, 41] σ σ' ∧ ((0 ≤ x.toInt ∧ x.toInt ≤ 80))) (fun (x : Int32) (σ' : HS) => (80 - x.toInt).toNat) ⟨hI, hfr, (by (try dsimp only); omega)⟩ (fun x24 σ25 hJ K26 hK26 => ?_)
          obtain ⟨hI, hfr, hv⟩ := hJ
          (try dsimp only at hv)
          have rg_x24 := i_range x24
          refine ⟨fun c5 => ?_, fun c5 => ?_⟩
          · exact kk σ25 hI hfr trivial
          · intro z28 ez28
            try have hz28 := i_add ez28 (by omega) (by omega)
            have rg_z28 := i_range z28
            refine s_X12_copyNode hI z28 x24 (by omega) (fun σ29 hI fz30 pz30 => ?_)
            have hfr := hfr.tr fz30 (by decide) (by decide)
            refine ⟨by omega, ?_⟩
            intro σ31 eσ31
            have hMp := hI.2
            have hI := hI.pA 10 0 1 (by decide) (by decide) rfl rfl (i_bool _) eσ31
            have hfr := hfr.aI hMp (by decide) eσ31 (by decide)
            intro z32 ez32
            try have hz32 := i_add ez32 (by omega) (by omega)
            have rg_z32 := i_range z32
            exact hK26 z32 σ31 ⟨hI, hfr, (by (try dsimp only); omega)⟩ (by (try dsimp only); omega)
        · refine ⟨by omega, ?_⟩
          intro σ33 eσ33
          have hMp := hI.2
          have hI := hI.pJ eσ33
          have hfr := hfr.aJ hMp (by decide) eσ33 (by decide)
          intro z34 ez34
          try have hz34 := i_add ez34 (by omega) (by omega)
          have rg_z34 := i_range z34
          exact hK15 z34 σ33 ⟨hI, hfr, (by (try dsimp only); omega)⟩ (by (try dsimp only); omega)
      · refine ⟨by omega, ?_⟩
        intro σ35 eσ35
        have hMp := hI.2
        have hI := hI.pJ eσ35
        have hfr := hfr.aJ hMp (by decide) eσ35 (by decide)
        intro z36 ez36
        try have hz36 := i_add ez36 (by omega) (by omega)
        have rg_z36 := i_range z36
        exact hK11 z36 σ35 ⟨hI, hfr, (by (try dsimp only); omega)⟩ (by (try dsimp only); omega)
    · refine ⟨by omega, ?_⟩
      intro σ37 eσ37
      have hMp := hI.2
      have hI := hI.pJ eσ37
      have hfr := hfr.aJ hMp (by decide) eσ37 (by decide)
      intro z38 ez38
      try have hz38 := i_add ez38 (by omega) (by omega)
      have rg_z38 := i_range z38
      exact hK7 z38 σ37 ⟨hI, hfr, (by (try dsimp only); omega)⟩ (by (try dsimp only); omega)
  · refine ⟨by omega, ?_⟩
    intro σ39 eσ39
    have hMp := hI.2
    have hI := hI.pA 25 0 1 (by decide) (by decide) rfl rfl (i_bool _) eσ39
    have hfr := hfr.aI hMp (by decide) eσ39 (by decide)
    refine ⟨by omega, ?_⟩
    intro σ40 eσ40
    have hMp := hI.2
    have hI := hI.pA 28 0 16000 (by decide) (by decide) rfl rfl (by omega) eσ40
    have hfr := hfr.aI hMp (by decide) eσ40 (by decide)
    intro z41 ez41
    try have hz41 := i_add ez41 (by omega) (by omega)
    have rg_z41 := i_range z41
    exact hK3 z41 σ40 ⟨hI, hfr, (by (try dsimp only); omega)⟩ (by (try dsimp only); omega)
set_option maxRecDepth 100000 in
set_option maxHeartbeats 4000000 in
theorem s_X12_waitFor {h0 : Nat} {L : Nat → Nat} {σ : HS} (hI : OKM h0 L σ) (a1 : Int32) (a2 : Int64) (hN : InM h0 L σ (sI σ h0 87).toInt) (hz : 64 ≤ (sI σ h0 87).toInt ∧ 0 ≤ (sI σ h0 98).toInt ∧ 0 ≤ (sI σ h0 99).toInt ∧ (sI σ h0 69).toInt < 16 ∧ 0 ≤ a1.toInt ∧ a1.toInt ≤ 79) {post : Int32 → HS → Prop} (kk : ∀ (r : Int32) (σ' : HS), OKM h0 L σ' → Fr h0 L [62, 69, 109] [61, 62, 63, 64, 65, 66, 67, 68, 69, 70, 74] σ σ' → (r.toInt = (sI σ h0 69).toInt ∧ (sI σ' h0 69).toInt = (sI σ h0 69).toInt + 1 ∧ (∀ w : Nat, w ≠ r.toInt.toNat → EqW L σ σ' w w) ∧ (sI σ' (L 62) r.toInt.toNat).toInt = (sI σ h0 93).toInt ∧ (sI σ' (L 68) r.toInt.toNat).toInt = (sI σ h0 99).toInt ∧ (sI σ' (L 74) r.toInt.toNat).toInt = 0) → post r σ') : F_X12_waitFor h0 L a1 a2 post σ := by
  unfold F_X12_waitFor
  have k_0 : (0 : Int32).toInt = 0 := rfl
  have k_1 : (1 : Int32).toInt = 1 := rfl
  have k_6 : (6 : Int32).toInt = 6 := rfl
  have k_8 : (8 : Int32).toInt = 8 := rfl
  have k_24 : (24 : Int32).toInt = 24 := rfl
  have kl_1 : (1 : Int64).toInt = 1 := rfl
  have rg_a1 := i_range a1
  have rg_a2 := l_range a2
  have hfr : Fr h0 L [62, 69, 109] [61, 62, 63, 64, 65, 66, 67, 68, 69, 70, 74] σ σ := Fr.rf
  have h87 : (0 : Int) ≤ (sI σ h0 87).toInt ∧ (sI σ h0 87).toInt ≤ 4000 := hI.fI 87 0 4000 (by decide) rfl rfl rfl rfl
  intro z1 ez1
  have vz1 := hI.fI 69 0 16 (by decide) rfl rfl rfl ez1
  have wz1 : z1.toInt = (sI σ h0 69).toInt := by rw [ez1]
  intro z2 ez2
  have vz2 := hI.fI 69 0 16 (by decide) rfl rfl rfl ez2
  have wz2 : z2.toInt = (sI σ h0 69).toInt := by rw [ez2]
  intro z3 ez3
  try have hz3 := i_add ez3 (by omega) (by omega)
  have rg_z3 := i_range z3
  intro σ4 eσ4
  have hMp := hI.2
  have hI := hI.pF 69 0 16 rfl rfl (by omega) eσ4
  have hfr := hfr.fI hMp eσ4 (by decide) rfl
  have uσ4 : (sI σ4 h0 69).toInt = z3.toInt := by rw [eσ4]; exact congrArg Int32.toInt u2_same
  have f1σ4 : Fr h0 L [69] [] σ σ4 := Fr.rf.fI hMp eσ4 (by decide) rfl
  have tk2 : (sI σ4 (L 62) z1.toInt.toNat).toInt = (sI σ (L 62) z1.toInt.toNat).toInt := by rw [(f1σ4.2.1 62 (by decide) (by decide) _).1]
  have tk3 : (sI σ4 (L 68) z1.toInt.toNat).toInt = (sI σ (L 68) z1.toInt.toNat).toInt := by rw [(f1σ4.2.1 68 (by decide) (by decide) _).1]
  have tk4 : (sI σ4 (L 74) z1.toInt.toNat).toInt = (sI σ (L 74) z1.toInt.toNat).toInt := by rw [(f1σ4.2.1 74 (by decide) (by decide) _).1]
  have hE := fun (w : Nat) (hw : w ≠ z1.toInt.toNat) => (EqW.fr f1σ4 (by decide) : EqW L σ σ4 w w)
  intro z5 ez5
  have wz5 : z5.toInt = (sJ σ4 h0 62).toInt := by rw [ez5]
  have vz5 := l_range z5
  intro z6 ez6
  try have hz6 := l_add ez6 (by omega) (by omega)
  have rg_z6 := l_range z6
  intro σ7 eσ7
  have hMp := hI.2
  have hI := hI.pJ eσ7
  have hfr := hfr.fJ hMp eσ7 (by decide) rfl
  have f1σ7 : Fr h0 L [62] [] σ4 σ7 := Fr.rf.fJ hMp eσ7 (by decide) rfl
  have tk5 : (sI σ7 h0 69).toInt = (sI σ4 h0 69).toInt := by rw [(f1σ7.1 69 (by decide)).1]
  have tk6 : (sI σ7 (L 62) z1.toInt.toNat).toInt = (sI σ4 (L 62) z1.toInt.toNat).toInt := by rw [(f1σ7.2.1 62 (by decide) (by decide) _).1]
  have tk7 : (sI σ7 (L 68) z1.toInt.toNat).toInt = (sI σ4 (L 68) z1.toInt.toNat).toInt := by rw [(f1σ7.2.1 68 (by decide) (by decide) _).1]
  have tk8 : (sI σ7 (L 74) z1.toInt.toNat).toInt = (sI σ4 (L 74) z1.toInt.toNat).toInt := by rw [(f1σ7.2.1 74 (by decide) (by decide) _).1]
  have hE := fun (w : Nat) (hw : w ≠ z1.toInt.toNat) => (hE w hw).tr (EqW.fr f1σ7 (by decide))
  intro z8 ez8
  have vz8 := hI.fI 88 0 5 (by decide) rfl rfl rfl ez8
  have wz8 : z8.toInt = (sI σ h0 88).toInt := by rw [ez8, (hfr.1 88 (by decide)).1]
  refine ⟨by omega, ?_⟩
  intro σ9 eσ9
  have hMp := hI.2
  have hI := hI.pA 61 0 5 (by decide) (by decide) rfl rfl (by omega) eσ9
  have hfr := hfr.aI hMp (by decide) eσ9 (by decide)
  have f1σ9 : Fr h0 L [] [61] σ7 σ9 := Fr.rf.aI hMp (by decide) eσ9 (by decide)
  have tk9 : (sI σ9 h0 69).toInt = (sI σ7 h0 69).toInt := by rw [(f1σ9.1 69 (by decide)).1]
  have tk10 : (sI σ9 (L 62) z1.toInt.toNat).toInt = (sI σ7 (L 62) z1.toInt.toNat).toInt := by rw [(f1σ9.2.1 62 (by decide) (by decide) _).1]
  have tk11 : (sI σ9 (L 68) z1.toInt.toNat).toInt = (sI σ7 (L 68) z1.toInt.toNat).toInt := by rw [(f1σ9.2.1 68 (by decide) (by decide) _).1]
  have tk12 : (sI σ9 (L 74) z1.toInt.toNat).toInt = (sI σ7 (L 74) z1.toInt.toNat).toInt := by rw [(f1σ9.2.1 74 (by decide) (by decide) _).1]
  have hE := fun (w : Nat) (hw : w ≠ z1.toInt.toNat) => (hE w hw).tr (EqW.uI eσ9 hMp (by decide) hw)
  intro z10 ez10
  have vz10 := hI.fI 93 0 65535 (by decide) rfl rfl rfl ez10
  have wz10 : z10.toInt = (sI σ h0 93).toInt := by rw [ez10, (hfr.1 93 (by decide)).1]
  refine ⟨by omega, ?_⟩
  intro σ11 eσ11
  have hMp := hI.2
  have hI := hI.pA 62 0 65535 (by decide) (by decide) rfl rfl (by omega) eσ11
  have hfr := hfr.aI hMp (by decide) eσ11 (by decide)
  have f1σ11 : Fr h0 L [] [62] σ9 σ11 := Fr.rf.aI hMp (by decide) eσ11 (by decide)
  have tk13 : (sI σ11 h0 69).toInt = (sI σ9 h0 69).toInt := by rw [(f1σ11.1 69 (by decide)).1]
  have tk14 := atI eσ11 z1.toInt.toNat
  have tk15 : (sI σ11 (L 68) z1.toInt.toNat).toInt = (sI σ9 (L 68) z1.toInt.toNat).toInt := by rw [(f1σ11.2.1 68 (by decide) (by decide) _).1]
  have tk16 : (sI σ11 (L 74) z1.toInt.toNat).toInt = (sI σ9 (L 74) z1.toInt.toNat).toInt := by rw [(f1σ11.2.1 74 (by decide) (by decide) _).1]
  have hE := fun (w : Nat) (hw : w ≠ z1.toInt.toNat) => (hE w hw).tr (EqW.uI eσ11 hMp (by decide) hw)
  refine s_X12_number2 hI 6 (by omega) ((hN.fr hfr (by decide) (by decide)).le (by omega)) (fun z13 pz13 => ?_)
  have tz13 : z13.toInt = (NUM h0 L σ11 6 2 : Int) := pz13.1
  have rg_z13 := i_range z13
  refine ⟨by omega, ?_⟩
  intro σ14 eσ14
  have hMp := hI.2
  have hI := hI.pA 63 0 65535 (by decide) (by decide) rfl rfl (by omega) eσ14
  have hfr := hfr.aI hMp (by decide) eσ14 (by decide)
  have f1σ14 : Fr h0 L [] [63] σ11 σ14 := Fr.rf.aI hMp (by decide) eσ14 (by decide)
  have tk17 : (sI σ14 h0 69).toInt = (sI σ11 h0 69).toInt := by rw [(f1σ14.1 69 (by decide)).1]
  have tk18 : (sI σ14 (L 62) z1.toInt.toNat).toInt = (sI σ11 (L 62) z1.toInt.toNat).toInt := by rw [(f1σ14.2.1 62 (by decide) (by decide) _).1]
  have tk19 : (sI σ14 (L 68) z1.toInt.toNat).toInt = (sI σ11 (L 68) z1.toInt.toNat).toInt := by rw [(f1σ14.2.1 68 (by decide) (by decide) _).1]
  have tk20 : (sI σ14 (L 74) z1.toInt.toNat).toInt = (sI σ11 (L 74) z1.toInt.toNat).toInt := by rw [(f1σ14.2.1 74 (by decide) (by decide) _).1]
  have hE := fun (w : Nat) (hw : w ≠ z1.toInt.toNat) => (hE w hw).tr (EqW.uI eσ14 hMp (by decide) hw)
  intro z15 ez15
  have vz15 := hI.fI 94 0 1 (by decide) rfl rfl rfl ez15
  have wz15 : z15.toInt = (sI σ h0 94).toInt := by rw [ez15, (hfr.1 94 (by decide)).1]
  refine ⟨by omega, ?_⟩
  intro σ16 eσ16
  have hMp := hI.2
  have hI := hI.pA 64 0 1 (by decide) (by decide) rfl rfl (i_bool _) eσ16
  have hfr := hfr.aI hMp (by decide) eσ16 (by decide)
  have f1σ16 : Fr h0 L [] [64] σ14 σ16 := Fr.rf.aI hMp (by decide) eσ16 (by decide)
  have tk21 : (sI σ16 h0 69).toInt = (sI σ14 h0 69).toInt := by rw [(f1σ16.1 69 (by decide)).1]
  have tk22 : (sI σ16 (L 62) z1.toInt.toNat).toInt = (sI σ14 (L 62) z1.toInt.toNat).toInt := by rw [(f1σ16.2.1 62 (by decide) (by decide) _).1]
  have tk23 : (sI σ16 (L 68) z1.toInt.toNat).toInt = (sI σ14 (L 68) z1.toInt.toNat).toInt := by rw [(f1σ16.2.1 68 (by decide) (by decide) _).1]
  have tk24 : (sI σ16 (L 74) z1.toInt.toNat).toInt = (sI σ14 (L 74) z1.toInt.toNat).toInt := by rw [(f1σ16.2.1 74 (by decide) (by decide) _).1]
  have hE := fun (w : Nat) (hw : w ≠ z1.toInt.toNat) => (hE w hw).tr (EqW.uI eσ16 hMp (by decide) hw)
  refine s_X12_number hI 24 8 (by omega) ((hN.fr hfr (by decide) (by decide)).le (by omega)) (fun z18 pz18 => ?_)
  refine ⟨by omega, ?_⟩
  intro σ19 eσ19
  have hMp := hI.2
  have hI := hI.pJ eσ19
  have hfr := hfr.aJ hMp (by decide) eσ19 (by decide)
  have f1σ19 : Fr h0 L [] [65] σ16 σ19 := Fr.rf.aJ hMp (by decide) eσ19 (by decide)
  have tk25 : (sI σ19 h0 69).toInt = (sI σ16 h0 69).toInt := by rw [(f1σ19.1 69 (by decide)).1]
  have tk26 : (sI σ19 (L 62) z1.toInt.toNat).toInt = (sI σ16 (L 62) z1.toInt.toNat).toInt := by rw [(f1σ19.2.1 62 (by decide) (by decide) _).1]
  have tk27 : (sI σ19 (L 68) z1.toInt.toNat).toInt = (sI σ16 (L 68) z1.toInt.toNat).toInt := by rw [(f1σ19.2.1 68 (by decide) (by decide) _).1]
  have tk28 : (sI σ19 (L 74) z1.toInt.toNat).toInt = (sI σ16 (L 74) z1.toInt.toNat).toInt := by rw [(f1σ19.2.1 74 (by decide) (by decide) _).1]
  have hE := fun (w : Nat) (hw : w ≠ z1.toInt.toNat) => (hE w hw).tr (EqW.uJ eσ19 hw)
  intro z20 ez20
  have wz20 : z20.toInt = (sJ σ19 h0 62).toInt := by rw [ez20]
  have vz20 := l_range z20
  refine ⟨by omega, ?_⟩
  intro σ21 eσ21
  have hMp := hI.2
  have hI := hI.pJ eσ21
  have hfr := hfr.aJ hMp (by decide) eσ21 (by decide)
  have f1σ21 : Fr h0 L [] [66] σ19 σ21 := Fr.rf.aJ hMp (by decide) eσ21 (by decide)
  have tk29 : (sI σ21 h0 69).toInt = (sI σ19 h0 69).toInt := by rw [(f1σ21.1 69 (by decide)).1]
  have tk30 : (sI σ21 (L 62) z1.toInt.toNat).toInt = (sI σ19 (L 62) z1.toInt.toNat).toInt := by rw [(f1σ21.2.1 62 (by decide) (by decide) _).1]
  have tk31 : (sI σ21 (L 68) z1.toInt.toNat).toInt = (sI σ19 (L 68) z1.toInt.toNat).toInt := by rw [(f1σ21.2.1 68 (by decide) (by decide) _).1]
  have tk32 : (sI σ21 (L 74) z1.toInt.toNat).toInt = (sI σ19 (L 74) z1.toInt.toNat).toInt := by rw [(f1σ21.2.1 74 (by decide) (by decide) _).1]
  have hE := fun (w : Nat) (hw : w ≠ z1.toInt.toNat) => (hE w hw).tr (EqW.uJ eσ21 hw)
  intro z22 ez22
  have vz22 := hI.fI 98 (-1) 7 (by decide) rfl rfl rfl ez22
  have wz22 : z22.toInt = (sI σ h0 98).toInt := by rw [ez22, (hfr.1 98 (by decide)).1]
  refine ⟨by omega, ?_⟩
  intro σ23 eσ23
  have hMp := hI.2
  have hI := hI.pA 67 0 7 (by decide) (by decide) rfl rfl (by omega) eσ23
  have hfr := hfr.aI hMp (by decide) eσ23 (by decide)
  have f1σ23 : Fr h0 L [] [67] σ21 σ23 := Fr.rf.aI hMp (by decide) eσ23 (by decide)
  have tk33 : (sI σ23 h0 69).toInt = (sI σ21 h0 69).toInt := by rw [(f1σ23.1 69 (by decide)).1]
  have tk34 : (sI σ23 (L 62) z1.toInt.toNat).toInt = (sI σ21 (L 62) z1.toInt.toNat).toInt := by rw [(f1σ23.2.1 62 (by decide) (by decide) _).1]
  have tk35 : (sI σ23 (L 68) z1.toInt.toNat).toInt = (sI σ21 (L 68) z1.toInt.toNat).toInt := by rw [(f1σ23.2.1 68 (by decide) (by decide) _).1]
  have tk36 : (sI σ23 (L 74) z1.toInt.toNat).toInt = (sI σ21 (L 74) z1.toInt.toNat).toInt := by rw [(f1σ23.2.1 74 (by decide) (by decide) _).1]
  have hE := fun (w : Nat) (hw : w ≠ z1.toInt.toNat) => (hE w hw).tr (EqW.uI eσ23 hMp (by decide) hw)
  intro z24 ez24
  have vz24 := hI.fI 99 (-1) 15 (by decide) rfl rfl rfl ez24
  have wz24 : z24.toInt = (sI σ h0 99).toInt := by rw [ez24, (hfr.1 99 (by decide)).1]
  refine ⟨by omega, ?_⟩
  intro σ25 eσ25
  have hMp := hI.2
  have hI := hI.pA 68 0 15 (by decide) (by decide) rfl rfl (by omega) eσ25
  have hfr := hfr.aI hMp (by decide) eσ25 (by decide)
  have f1σ25 : Fr h0 L [] [68] σ23 σ25 := Fr.rf.aI hMp (by decide) eσ25 (by decide)
  have tk37 : (sI σ25 h0 69).toInt = (sI σ23 h0 69).toInt := by rw [(f1σ25.1 69 (by decide)).1]
  have tk38 : (sI σ25 (L 62) z1.toInt.toNat).toInt = (sI σ23 (L 62) z1.toInt.toNat).toInt := by rw [(f1σ25.2.1 62 (by decide) (by decide) _).1]
  have tk39 := atI eσ25 z1.toInt.toNat
  have tk40 : (sI σ25 (L 74) z1.toInt.toNat).toInt = (sI σ23 (L 74) z1.toInt.toNat).toInt := by rw [(f1σ25.2.1 74 (by decide) (by decide) _).1]
  have hE := fun (w : Nat) (hw : w ≠ z1.toInt.toNat) => (hE w hw).tr (EqW.uI eσ25 hMp (by decide) hw)
  refine ⟨by omega, ?_⟩
  intro σ26 eσ26
  have hMp := hI.2
  have hI := hI.pJ eσ26
  have hfr := hfr.aJ hMp (by decide) eσ26 (by decide)
  have f1σ26 : Fr h0 L [] [69] σ25 σ26 := Fr.rf.aJ hMp (by decide) eσ26 (by decide)
  have tk41 : (sI σ26 h0 69).toInt = (sI σ25 h0 69).toInt := by rw [(f1σ26.1 69 (by decide)).1]
  have tk42 : (sI σ26 (L 62) z1.toInt.toNat).toInt = (sI σ25 (L 62) z1.toInt.toNat).toInt := by rw [(f1σ26.2.1 62 (by decide) (by decide) _).1]
  have tk43 : (sI σ26 (L 68) z1.toInt.toNat).toInt = (sI σ25 (L 68) z1.toInt.toNat).toInt := by rw [(f1σ26.2.1 68 (by decide) (by decide) _).1]
  have tk44 : (sI σ26 (L 74) z1.toInt.toNat).toInt = (sI σ25 (L 74) z1.toInt.toNat).toInt := by rw [(f1σ26.2.1 74 (by decide) (by decide) _).1]
  have hE := fun (w : Nat) (hw : w ≠ z1.toInt.toNat) => (hE w hw).tr (EqW.uJ eσ26 hw)
  refine ⟨by omega, ?_⟩
  intro σ27 eσ27
  have hMp := hI.2
  have hI := hI.pA 70 0 79 (by decide) (by decide) rfl rfl (by omega) eσ27
  have hfr := hfr.aI hMp (by decide) eσ27 (by decide)
  have f1σ27 : Fr h0 L [] [70] σ26 σ27 := Fr.rf.aI hMp (by decide) eσ27 (by decide)
  have tk45 : (sI σ27 h0 69).toInt = (sI σ26 h0 69).toInt := by rw [(f1σ27.1 69 (by decide)).1]
  have tk46 : (sI σ27 (L 62) z1.toInt.toNat).toInt = (sI σ26 (L 62) z1.toInt.toNat).toInt := by rw [(f1σ27.2.1 62 (by decide) (by decide) _).1]
  have tk47 : (sI σ27 (L 68) z1.toInt.toNat).toInt = (sI σ26 (L 68) z1.toInt.toNat).toInt := by rw [(f1σ27.2.1 68 (by decide) (by decide) _).1]
  have tk48 : (sI σ27 (L 74) z1.toInt.toNat).toInt = (sI σ26 (L 74) z1.toInt.toNat).toInt := by rw [(f1σ27.2.1 74 (by decide) (by decide) _).1]
  have hE := fun (w : Nat) (hw : w ≠ z1.toInt.toNat) => (hE w hw).tr (EqW.uI eσ27 hMp (by decide) hw)
  refine ⟨by omega, ?_⟩
  intro σ28 eσ28
  have hMp := hI.2
  have hI := hI.pA 74 0 4000 (by decide) (by decide) rfl rfl (by omega) eσ28
  have hfr := hfr.aI hMp (by decide) eσ28 (by decide)
  have f1σ28 : Fr h0 L [] [74] σ27 σ28 := Fr.rf.aI hMp (by decide) eσ28 (by decide)
  have tk49 : (sI σ28 h0 69).toInt = (sI σ27 h0 69).toInt := by rw [(f1σ28.1 69 (by decide)).1]
  have tk50 : (sI σ28 (L 62) z1.toInt.toNat).toInt = (sI σ27 (L 62) z1.toInt.toNat).toInt := by rw [(f1σ28.2.1 62 (by decide) (by decide) _).1]
  have tk51 : (sI σ28 (L 68) z1.toInt.toNat).toInt = (sI σ27 (L 68) z1.toInt.toNat).toInt := by rw [(f1σ28.2.1 68 (by decide) (by decide) _).1]
  have tk52 := atI eσ28 z1.toInt.toNat
  have hE := fun (w : Nat) (hw : w ≠ z1.toInt.toNat) => (hE w hw).tr (EqW.uI eσ28 hMp (by decide) hw)
  refine ⟨by omega, ?_⟩
  intro σ29 eσ29
  have hMp := hI.2
  have hI := hI.pF 109 0 1 rfl rfl (by omega) eσ29
  have hfr := hfr.fI hMp eσ29 (by decide) rfl
  have uσ29 : (sI σ29 h0 109).toInt = (1 : Int32).toInt := by rw [eσ29]; exact congrArg Int32.toInt u2_same
  have f1σ29 : Fr h0 L [109] [] σ28 σ29 := Fr.rf.fI hMp eσ29 (by decide) rfl
  have tk53 : (sI σ29 h0 69).toInt = (sI σ28 h0 69).toInt := by rw [(f1σ29.1 69 (by decide)).1]
  have tk54 : (sI σ29 (L 62) z1.toInt.toNat).toInt = (sI σ28 (L 62) z1.toInt.toNat).toInt := by rw [(f1σ29.2.1 62 (by decide) (by decide) _).1]
  have tk55 : (sI σ29 (L 68) z1.toInt.toNat).toInt = (sI σ28 (L 68) z1.toInt.toNat).toInt := by rw [(f1σ29.2.1 68 (by decide) (by decide) _).1]
  have tk56 : (sI σ29 (L 74) z1.toInt.toNat).toInt = (sI σ28 (L 74) z1.toInt.toNat).toInt := by rw [(f1σ29.2.1 74 (by decide) (by decide) _).1]
  have hE := fun (w : Nat) (hw : w ≠ z1.toInt.toNat) => (hE w hw).tr (EqW.fr f1σ29 (by decide))
  exact kk z1 σ29 hI hfr ⟨by omega, by omega, hE, by omega, by omega, by omega⟩
set_option maxRecDepth 100000 in
set_option maxHeartbeats 4000000 in
theorem s_X12_goes {h0 : Nat} {L : Nat → Nat} {σ : HS} (hI : OKM h0 L σ) (a1 : Int32) (hP : ∀ o : Nat, (o : Int) < (sI σ h0 115).toInt → (1 ≤ (sI σ (L 79) o).toInt ∧ (sI σ (L 79) o).toInt ≤ 12) ∧ (sI σ (L 78) o).toInt + (sI σ (L 79) o).toInt ≤ 120) (hz : 0 ≤ a1.toInt ∧ a1.toInt < 80) {post : Int32 → HS → Prop} (kk : ∀ (r : Int32) (σ' : HS), OKM h0 L σ' → Fr h0 L [116, 117] [] σ σ' → ((0 ≤ r.toInt ∧ r.toInt ≤ 1)) → post r σ') : F_X12_goes h0 L a1 post σ := by
  unfold F_X12_goes
  have k_m1 : ((-1) : Int32).toInt = (-1) := rfl
  have k_0 : (0 : Int32).toInt = 0 := rfl
  have k_1 : (1 : Int32).toInt = 1 := rfl
  have rg_a1 := i_range a1
  have hfr : Fr h0 L [116, 117] [] σ σ := Fr.rf
  intro σ1 eσ1
  have hMp := hI.2
  have hI := hI.pF 116 (-1) 79 rfl rfl (by omega) eσ1
  have hfr := hfr.fI hMp eσ1 (by decide) rfl
  have uσ1 : (sI σ1 h0 116).toInt = ((-1) : Int32).toInt := by rw [eσ1]; exact congrArg Int32.toInt u2_same
  have f1σ1 : Fr h0 L [116] [] σ σ1 := Fr.rf.fI hMp eσ1 (by decide) rfl
  have tk2 : (sI σ1 h0 117).toInt = (sI σ h0 117).toInt := by rw [(f1σ1.1 117 (by decide)).1]
  intro σ2 eσ2
  have hMp := hI.2
  have hI := hI.pF 117 (-1) 79 rfl rfl (by omega) eσ2
  have hfr := hfr.fI hMp eσ2 (by decide) rfl
  have uσ2 : (sI σ2 h0 117).toInt = a1.toInt := by rw [eσ2]; exact congrArg Int32.toInt u2_same
  have f1σ2 : Fr h0 L [117] [] σ1 σ2 := Fr.rf.fI hMp eσ2 (by decide) rfl
  have tk3 : (sI σ2 h0 116).toInt = (sI σ1 h0 116).toInt := by rw [(f1σ2.1 116 (by decide)).1]
  refine lw_in (fun (x : Int32) (σ' : HS) => OKM h0 L σ' ∧ Fr h0 L [116, 117] [] σ σ' ∧ ((0 ≤ x.toInt ∧ x.toInt ≤ 121))) (fun (x : Int32) (σ' : HS) => (122 - x.toInt).toNat) ⟨hI, hfr, (by (try dsimp only); omega)⟩ (fun x3 σ4 hJ K5 hK5 => ?_)
  obtain ⟨hI, hfr, hv⟩ := hJ
  (try dsimp only at hv)
  have rg_x3 := i_range x3
  intro z7 ez7
  have vz7 := hI.fI 115 0 121 (by decide) rfl rfl rfl ez7
  have wz7 : z7.toInt = (sI σ h0 115).toInt := by rw [ez7, (hfr.1 115 (by decide)).1]
  refine ⟨fun c1 => ?_, fun c1 => ?_⟩
  · refine ⟨by omega, ?_⟩
    exact kk 1 σ4 hI hfr (by (try dsimp only); omega)
  · intro z8 ez8
    have vz8 := hI.fI 117 (-1) 79 (by decide) rfl rfl rfl ez8
    have wz8 : z8.toInt = (sI σ4 h0 117).toInt := by rw [ez8]
    refine jn_dup ?_
    refine ⟨fun c2 => ?_, fun c2 => ?_⟩
    · (try dsimp only)
      refine ⟨by omega, ?_⟩
      exact kk 0 σ4 hI hfr (by (try dsimp only); omega)
    · intro z14 ez14
      have vz14 := hI.fI 117 (-1) 79 (by decide) rfl rfl rfl ez14
      have wz14 : z14.toInt = (sI σ4 h0 117).toInt := by rw [ez14]
      refine ⟨by omega, ?_⟩
      intro z15 ez15
      have vz15 := hI.aI 3 160 0 1 (by decide) (by decide) rfl rfl rfl (i := z14.toInt) (by omega) ez15
      have wz15 : z15.toInt = (sI σ (L 3) z14.toInt.toNat).toInt := by rw [ez15, (hfr.2.1 3 (by decide) (by decide) _).1]
      refine ⟨fun c3 => ?_, fun c3 => ?_⟩
      · (try dsimp only)
        refine ⟨by omega, ?_⟩
        exact kk 0 σ4 hI hfr (by (try dsimp only); omega)
      · intro z16 ez16
        have vz16 := hI.fI 117 (-1) 79 (by decide) rfl rfl rfl ez16
        have wz16 : z16.toInt = (sI σ4 h0 117).toInt := by rw [ez16]
        refine ⟨by omega, ?_⟩
        intro z17 ez17
        have vz17 := hI.aI 10 80 0 1 (by decide) (by decide) rfl rfl rfl (i := z16.toInt) (by omega) ez17
        have wz17 : z17.toInt = (sI σ (L 10) z16.toInt.toNat).toInt := by rw [ez17, (hfr.2.1 10 (by decide) (by decide) _).1]
        refine ⟨fun c4 => ?_, fun c4 => ?_⟩
        · intro z18 ez18
          have vz18 := hI.fI 117 (-1) 79 (by decide) rfl rfl rfl ez18
          have wz18 : z18.toInt = (sI σ4 h0 117).toInt := by rw [ez18]
          intro σ19 eσ19
          have hMp := hI.2
          have hI := hI.pF 116 (-1) 79 rfl rfl (by omega) eσ19
          have hfr := hfr.fI hMp eσ19 (by decide) rfl
          have uσ19 : (sI σ19 h0 116).toInt = z18.toInt := by rw [eσ19]; exact congrArg Int32.toInt u2_same
          have f1σ19 : Fr h0 L [116] [] σ4 σ19 := Fr.rf.fI hMp eσ19 (by decide) rfl
          have tk6 : (sI σ19 h0 117).toInt = (sI σ4 h0 117).toInt := by rw [(f1σ19.1 117 (by decide)).1]
          intro z20 ez20
          have vz20 := hI.fI 116 (-1) 79 (by decide) rfl rfl rfl ez20
          have wz20 : z20.toInt = (sI σ19 h0 116).toInt := by rw [ez20]
          have hp := hP x3.toInt.toNat (by omega)
          have b78 := congrArg Int32.toInt (hfr.2.1 78 (by decide) (by decide) x3.toInt.toNat).1
          have b79 := congrArg Int32.toInt (hfr.2.1 79 (by decide) (by decide) x3.toInt.toNat).1
          refine s_X12_child hI z20 x3 (by omega) (fun z22 pz22 => ?_)
          have rg_z22 := i_range z22
          intro σ23 eσ23
          have hMp := hI.2
          have hI := hI.pF 117 (-1) 79 rfl rfl (by omega) eσ23
          have hfr := hfr.fI hMp eσ23 (by decide) rfl
          have uσ23 : (sI σ23 h0 117).toInt = z22.toInt := by rw [eσ23]; exact congrArg Int32.toInt u2_same
          have f1σ23 : Fr h0 L [117] [] σ19 σ23 := Fr.rf.fI hMp eσ23 (by decide) rfl
          have tk7 : (sI σ23 h0 116).toInt = (sI σ19 h0 116).toInt := by rw [(f1σ23.1 116 (by decide)).1]
          intro z24 ez24
          try have hz24 := i_add ez24 (by omega) (by omega)
          have rg_z24 := i_range z24
          exact hK5 z24 σ23 ⟨hI, hfr, (by (try dsimp only); omega)⟩ (by (try dsimp only); omega)
        · (try dsimp only)
          refine ⟨by omega, ?_⟩
          exact kk 0 σ4 hI hfr (by (try dsimp only); omega)

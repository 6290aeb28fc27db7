/-! begin, exactly -/
set_option maxRecDepth 100000 in
set_option maxHeartbeats 4000000 in
theorem s2_X12_copyNode {h0 : Nat} {L : Nat → Nat} {σ : HS} (hI : OKM h0 L σ) (a1 : Int32) (a2 : Int32) (hz : 0 ≤ a1.toInt ∧ a1.toInt < 160 ∧ 0 ≤ a2.toInt ∧ a2.toInt < 160) {post : HS → Prop} (kk : ∀ (σ' : HS), OKM h0 L σ' → Fr h0 L [] [1, 2, 3, 4, 5, 6, 7, 8, 9] σ σ' → (∀ o : Nat, ((o : Int) ≠ a2.toInt → (sI σ' (L 1) o).toInt = (sI σ (L 1) o).toInt) ∧ ((o : Int) = a2.toInt → (sI σ' (L 1) o).toInt = (sI σ (L 1) a1.toInt.toNat).toInt) ∧ ((o : Int) ≠ a2.toInt → (sI σ' (L 2) o).toInt = (sI σ (L 2) o).toInt) ∧ ((o : Int) = a2.toInt → (sI σ' (L 2) o).toInt = (sI σ (L 2) a1.toInt.toNat).toInt) ∧ ((o : Int) ≠ a2.toInt → (sI σ' (L 3) o).toInt = (sI σ (L 3) o).toInt) ∧ ((o : Int) = a2.toInt → (sI σ' (L 3) o).toInt = (sI σ (L 3) a1.toInt.toNat).toInt)) → post σ') : F_X12_copyNode h0 L a1 a2 post σ := by
  unfold F_X12_copyNode
  have k_0 : (0 : Int32).toInt = 0 := rfl
  have k_1 : (1 : Int32).toInt = 1 := rfl
  have k_4 : (4 : Int32).toInt = 4 := rfl
  have k_12 : (12 : Int32).toInt = 12 := rfl
  have k_4096 : (4096 : Int32).toInt = 4096 := rfl
  have rg_a1 := i_range a1
  have rg_a2 := i_range a2
  have hfr : Fr h0 L [] [1, 2, 3, 4, 5, 6, 7, 8, 9] σ σ := Fr.rf
  refine ⟨by omega, ?_⟩
  intro z1 ez1
  have vz1 := hI.aI 1 160 0 1 (by decide) (by decide) rfl rfl rfl (i := a1.toInt) (by omega) ez1
  have wz1 : z1.toInt = (sI σ (L 1) a1.toInt.toNat).toInt := by rw [ez1]
  refine ⟨by omega, ?_⟩
  intro σ2 eσ2
  have hMp := hI.2
  have hI := hI.pA 1 0 1 (by decide) (by decide) rfl rfl (i_bool _) eσ2
  have hfr := hfr.aI hMp (by decide) eσ2 (by decide)
  try have nrσ2 : (vp_nar .boolean z1).toInt = z1.toInt := by rw [nar_bool (by omega)]
  have f1σ2 : Fr h0 L [] [1] σ σ2 := Fr.rf.aI hMp (by decide) eσ2 (by decide)
  have tk1 : (sI σ2 (L 2) a1.toInt.toNat).toInt = (sI σ (L 2) a1.toInt.toNat).toInt := by rw [(f1σ2.2.1 2 (by decide) (by decide) _).1]
  have tk2 : (sI σ2 (L 3) a1.toInt.toNat).toInt = (sI σ (L 3) a1.toInt.toNat).toInt := by rw [(f1σ2.2.1 3 (by decide) (by decide) _).1]
  refine ⟨by omega, ?_⟩
  intro z3 ez3
  have vz3 := hI.aI 2 160 (-1) 79 (by decide) (by decide) rfl rfl rfl (i := a1.toInt) (by omega) ez3
  have wz3 : z3.toInt = (sI σ2 (L 2) a1.toInt.toNat).toInt := by rw [ez3]
  refine ⟨by omega, ?_⟩
  intro σ4 eσ4
  have hMp := hI.2
  have hI := hI.pA 2 (-1) 79 (by decide) (by decide) rfl rfl (by omega) eσ4
  have hfr := hfr.aI hMp (by decide) eσ4 (by decide)
  have f1σ4 : Fr h0 L [] [2] σ2 σ4 := Fr.rf.aI hMp (by decide) eσ4 (by decide)
  have tk3 := atI eσ4 a1.toInt.toNat
  have tk4 : (sI σ4 (L 3) a1.toInt.toNat).toInt = (sI σ2 (L 3) a1.toInt.toNat).toInt := by rw [(f1σ4.2.1 3 (by decide) (by decide) _).1]
  refine ⟨by omega, ?_⟩
  intro z5 ez5
  have vz5 := hI.aI 3 160 0 1 (by decide) (by decide) rfl rfl rfl (i := a1.toInt) (by omega) ez5
  have wz5 : z5.toInt = (sI σ4 (L 3) a1.toInt.toNat).toInt := by rw [ez5]
  refine ⟨by omega, ?_⟩
  intro σ6 eσ6
  have hMp := hI.2
  have hI := hI.pA 3 0 1 (by decide) (by decide) rfl rfl (i_bool _) eσ6
  have hfr := hfr.aI hMp (by decide) eσ6 (by decide)
  try have nrσ6 : (vp_nar .boolean z5).toInt = z5.toInt := by rw [nar_bool (by omega)]
  have f1σ6 : Fr h0 L [] [3] σ4 σ6 := Fr.rf.aI hMp (by decide) eσ6 (by decide)
  have tk5 : (sI σ6 (L 2) a1.toInt.toNat).toInt = (sI σ4 (L 2) a1.toInt.toNat).toInt := by rw [(f1σ6.2.1 2 (by decide) (by decide) _).1]
  have tk6 := atI eσ6 a1.toInt.toNat
  refine ⟨by omega, ?_⟩
  intro z7 ez7
  have vz7 := hI.aI 5 160 0 12 (by decide) (by decide) rfl rfl rfl (i := a1.toInt) (by omega) ez7
  have wz7 : z7.toInt = (sI σ6 (L 5) a1.toInt.toNat).toInt := by rw [ez7]
  refine ⟨by omega, ?_⟩
  intro σ8 eσ8
  have hMp := hI.2
  have hI := hI.pA 5 0 12 (by decide) (by decide) rfl rfl (by omega) eσ8
  have hfr := hfr.aI hMp (by decide) eσ8 (by decide)
  have f1σ8 : Fr h0 L [] [5] σ6 σ8 := Fr.rf.aI hMp (by decide) eσ8 (by decide)
  have tk7 : (sI σ8 (L 2) a1.toInt.toNat).toInt = (sI σ6 (L 2) a1.toInt.toNat).toInt := by rw [(f1σ8.2.1 2 (by decide) (by decide) _).1]
  have tk8 : (sI σ8 (L 3) a1.toInt.toNat).toInt = (sI σ6 (L 3) a1.toInt.toNat).toInt := by rw [(f1σ8.2.1 3 (by decide) (by decide) _).1]
  refine ⟨by omega, ?_⟩
  intro z9 ez9
  have vz9 := hI.aI 6 160 (-2147483648) 2147483647 (by decide) (by decide) rfl rfl rfl (i := a1.toInt) (by omega) ez9
  have wz9 : z9.toInt = (sI σ8 (L 6) a1.toInt.toNat).toInt := by rw [ez9]
  refine ⟨by omega, ?_⟩
  intro σ10 eσ10
  have hMp := hI.2
  have hI := hI.pA 6 (-2147483648) 2147483647 (by decide) (by decide) rfl rfl (by omega) eσ10
  have hfr := hfr.aI hMp (by decide) eσ10 (by decide)
  have f1σ10 : Fr h0 L [] [6] σ8 σ10 := Fr.rf.aI hMp (by decide) eσ10 (by decide)
  have tk9 : (sI σ10 (L 2) a1.toInt.toNat).toInt = (sI σ8 (L 2) a1.toInt.toNat).toInt := by rw [(f1σ10.2.1 2 (by decide) (by decide) _).1]
  have tk10 : (sI σ10 (L 3) a1.toInt.toNat).toInt = (sI σ8 (L 3) a1.toInt.toNat).toInt := by rw [(f1σ10.2.1 3 (by decide) (by decide) _).1]
  refine ⟨by omega, ?_⟩
  intro z11 ez11
  have vz11 := hI.aI 8 160 0 4096 (by decide) (by decide) rfl rfl rfl (i := a1.toInt) (by omega) ez11
  have wz11 : z11.toInt = (sI σ10 (L 8) a1.toInt.toNat).toInt := by rw [ez11]
  refine ⟨by omega, ?_⟩
  intro σ12 eσ12
  have hMp := hI.2
  have hI := hI.pA 8 0 4096 (by decide) (by decide) rfl rfl (by omega) eσ12
  have hfr := hfr.aI hMp (by decide) eσ12 (by decide)
  have f1σ12 : Fr h0 L [] [8] σ10 σ12 := Fr.rf.aI hMp (by decide) eσ12 (by decide)
  have tk11 : (sI σ12 (L 2) a1.toInt.toNat).toInt = (sI σ10 (L 2) a1.toInt.toNat).toInt := by rw [(f1σ12.2.1 2 (by decide) (by decide) _).1]
  have tk12 : (sI σ12 (L 3) a1.toInt.toNat).toInt = (sI σ10 (L 3) a1.toInt.toNat).toInt := by rw [(f1σ12.2.1 3 (by decide) (by decide) _).1]
  refine lw_in (fun (x : Int32) (σ' : HS) => OKM h0 L σ' ∧ Fr h0 L [] [1, 2, 3, 4, 5, 6, 7, 8, 9] σ σ' ∧ ((0 ≤ x.toInt ∧ x.toInt ≤ 12)) ∧ (∀ o : Nat, ((o : Int) ≠ a2.toInt → (sI σ' (L 1) o).toInt = (sI σ (L 1) o).toInt) ∧ ((o : Int) = a2.toInt → (sI σ' (L 1) o).toInt = (sI σ (L 1) a1.toInt.toNat).toInt) ∧ ((o : Int) ≠ a2.toInt → (sI σ' (L 2) o).toInt = (sI σ (L 2) o).toInt) ∧ ((o : Int) = a2.toInt → (sI σ' (L 2) o).toInt = (sI σ (L 2) a1.toInt.toNat).toInt) ∧ ((o : Int) ≠ a2.toInt → (sI σ' (L 3) o).toInt = (sI σ (L 3) o).toInt) ∧ ((o : Int) = a2.toInt → (sI σ' (L 3) o).toInt = (sI σ (L 3) a1.toInt.toNat).toInt))) (fun (x : Int32) (σ' : HS) => (12 - x.toInt).toNat) ⟨hI, hfr, (by (try dsimp only); omega), (fun o => by have tt_ := atI eσ2 o; have tt_ := congrArg Int32.toInt (f1σ2.2.1 2 (by decide) (by decide) o).1; have tt_ := congrArg Int32.toInt (f1σ2.2.1 3 (by decide) (by decide) o).1; have tt_ := congrArg Int32.toInt (f1σ4.2.1 1 (by decide) (by decide) o).1; have tt_ := atI eσ4 o; have tt_ := congrArg Int32.toInt (f1σ4.2.1 3 (by decide) (by decide) o).1; have tt_ := congrArg Int32.toInt (f1σ6.2.1 1 (by decide) (by decide) o).1; have tt_ := congrArg Int32.toInt (f1σ6.2.1 2 (by decide) (by decide) o).1; have tt_ := atI eσ6 o; have tt_ := congrArg Int32.toInt (f1σ8.2.1 1 (by decide) (by decide) o).1; have tt_ := congrArg Int32.toInt (f1σ8.2.1 2 (by decide) (by decide) o).1; have tt_ := congrArg Int32.toInt (f1σ8.2.1 3 (by decide) (by decide) o).1; have tt_ := congrArg Int32.toInt (f1σ10.2.1 1 (by decide) (by decide) o).1; have tt_ := congrArg Int32.toInt (f1σ10.2.1 2 (by decide) (by decide) o).1; have tt_ := congrArg Int32.toInt (f1σ10.2.1 3 (by decide) (by decide) o).1; have tt_ := congrArg Int32.toInt (f1σ12.2.1 1 (by decide) (by decide) o).1; have tt_ := congrArg Int32.toInt (f1σ12.2.1 2 (by decide) (by decide) o).1; have tt_ := congrArg Int32.toInt (f1σ12.2.1 3 (by decide) (by decide) o).1; (try have hA_ := hA o); omega)⟩ (fun x13 σ14 hJ K15 hK15 => ?_)
  obtain ⟨hI, hfr, hv, hA⟩ := hJ
  (try dsimp only at hv)
  have rg_x13 := i_range x13
  refine ⟨fun c1 => ?_, fun c1 => ?_⟩
  · refine lw_in (fun (x : Int32) (σ' : HS) => OKM h0 L σ' ∧ Fr h0 L [] [1, 2, 3, 4, 5, 6, 7, 8, 9] σ σ' ∧ ((0 ≤ x.toInt ∧ x.toInt ≤ 4)) ∧ (∀ o : Nat, ((o : Int) ≠ a2.toInt → (sI σ' (L 1) o).toInt = (sI σ (L 1) o).toInt) ∧ ((o : Int) = a2.toInt → (sI σ' (L 1) o).toInt = (sI σ (L 1) a1.toInt.toNat).toInt) ∧ ((o : Int) ≠ a2.toInt → (sI σ' (L 2) o).toInt = (sI σ (L 2) o).toInt) ∧ ((o : Int) = a2.toInt → (sI σ' (L 2) o).toInt = (sI σ (L 2) a1.toInt.toNat).toInt) ∧ ((o : Int) ≠ a2.toInt → (sI σ' (L 3) o).toInt = (sI σ (L 3) o).toInt) ∧ ((o : Int) = a2.toInt → (sI σ' (L 3) o).toInt = (sI σ (L 3) a1.toInt.toNat).toInt))) (fun (x : Int32) (σ' : HS) => (4 - x.toInt).toNat) ⟨hI, hfr, (by (try dsimp only); omega), (fun o => by (try have hA_ := hA o); omega)⟩ (fun x17 σ18 hJ K19 hK19 => ?_)
    obtain ⟨hI, hfr, hv, hA⟩ := hJ
    (try dsimp only at hv)
    have rg_x17 := i_range x17
    refine ⟨fun c2 => ?_, fun c2 => ?_⟩
    · refine lw_in (fun (x : Int32) (σ' : HS) => OKM h0 L σ' ∧ Fr h0 L [] [1, 2, 3, 4, 5, 6, 7, 8, 9] σ σ' ∧ ((0 ≤ x.toInt ∧ x.toInt ≤ 4096)) ∧ (∀ o : Nat, ((o : Int) ≠ a2.toInt → (sI σ' (L 1) o).toInt = (sI σ (L 1) o).toInt) ∧ ((o : Int) = a2.toInt → (sI σ' (L 1) o).toInt = (sI σ (L 1) a1.toInt.toNat).toInt) ∧ ((o : Int) ≠ a2.toInt → (sI σ' (L 2) o).toInt = (sI σ (L 2) o).toInt) ∧ ((o : Int) = a2.toInt → (sI σ' (L 2) o).toInt = (sI σ (L 2) a1.toInt.toNat).toInt) ∧ ((o : Int) ≠ a2.toInt → (sI σ' (L 3) o).toInt = (sI σ (L 3) o).toInt) ∧ ((o : Int) = a2.toInt → (sI σ' (L 3) o).toInt = (sI σ (L 3) a1.toInt.toNat).toInt))) (fun (x : Int32) (σ' : HS) => (4096 - x.toInt).toNat) ⟨hI, hfr, (by (try dsimp only); omega), (fun o => by (try have hA_ := hA o); omega)⟩ (fun x21 σ22 hJ K23 hK23 => ?_)
      obtain ⟨hI, hfr, hv, hA⟩ := hJ
      (try dsimp only at hv)
      have rg_x21 := i_range x21
      refine ⟨fun c3 => ?_, fun c3 => ?_⟩
      · exact kk σ22 hI hfr (fun o => by (try have hA_ := hA o); omega)
      · intro z25 ez25
        try have hz25 := i_mulk 4096 rfl ez25 (by omega) (by omega)
        have rg_z25 := i_range z25
        intro z26 ez26
        try have hz26 := i_add ez26 (by omega) (by omega)
        have rg_z26 := i_range z26
        intro z27 ez27
        try have hz27 := i_mulk 4096 rfl ez27 (by omega) (by omega)
        have rg_z27 := i_range z27
        intro z28 ez28
        try have hz28 := i_add ez28 (by omega) (by omega)
        have rg_z28 := i_range z28
        refine ⟨by omega, ?_⟩
        intro z29 ez29
        have vz29 := hI.aI 9 655360 (-128) 127 (by decide) (by decide) rfl rfl rfl (i := z28.toInt) (by omega) ez29
        have wz29 : z29.toInt = (sI σ22 (L 9) z28.toInt.toNat).toInt := by rw [ez29]
        refine ⟨by omega, ?_⟩
        intro σ30 eσ30
        have hMp := hI.2
        have hI := hI.pA 9 (-128) 127 (by decide) (by decide) rfl rfl (i_byte _) eσ30
        have hfr := hfr.aI hMp (by decide) eσ30 (by decide)
        try have nrσ30 : (vp_nar .byte z29).toInt = z29.toInt := by rw [nar_byte (by omega)]
        have f1σ30 : Fr h0 L [] [9] σ22 σ30 := Fr.rf.aI hMp (by decide) eσ30 (by decide)
        have tk13 : (sI σ30 (L 2) a1.toInt.toNat).toInt = (sI σ22 (L 2) a1.toInt.toNat).toInt := by rw [(f1σ30.2.1 2 (by decide) (by decide) _).1]
        have tk14 : (sI σ30 (L 3) a1.toInt.toNat).toInt = (sI σ22 (L 3) a1.toInt.toNat).toInt := by rw [(f1σ30.2.1 3 (by decide) (by decide) _).1]
        intro z31 ez31
        try have hz31 := i_add ez31 (by omega) (by omega)
        have rg_z31 := i_range z31
        exact hK23 z31 σ30 ⟨hI, hfr, (by (try dsimp only); omega), (fun o => by have tt_ := congrArg Int32.toInt (f1σ30.2.1 1 (by decide) (by decide) o).1; have tt_ := congrArg Int32.toInt (f1σ30.2.1 2 (by decide) (by decide) o).1; have tt_ := congrArg Int32.toInt (f1σ30.2.1 3 (by decide) (by decide) o).1; (try have hA_ := hA o); omega)⟩ (by (try dsimp only); omega)
    · intro z32 ez32
      try have hz32 := i_mulk 4 rfl ez32 (by omega) (by omega)
      have rg_z32 := i_range z32
      intro z33 ez33
      try have hz33 := i_add ez33 (by omega) (by omega)
      have rg_z33 := i_range z33
      intro z34 ez34
      try have hz34 := i_mulk 4 rfl ez34 (by omega) (by omega)
      have rg_z34 := i_range z34
      intro z35 ez35
      try have hz35 := i_add ez35 (by omega) (by omega)
      have rg_z35 := i_range z35
      refine ⟨by omega, ?_⟩
      intro z36 ez36
      have wz36 : z36.toInt = (sJ σ18 (L 7) z35.toInt.toNat).toInt := by rw [ez36]
      refine ⟨by omega, ?_⟩
      intro σ37 eσ37
      have hMp := hI.2
      have hI := hI.pJ eσ37
      have hfr := hfr.aJ hMp (by decide) eσ37 (by decide)
      have f1σ37 : Fr h0 L [] [7] σ18 σ37 := Fr.rf.aJ hMp (by decide) eσ37 (by decide)
      have tk15 : (sI σ37 (L 2) a1.toInt.toNat).toInt = (sI σ18 (L 2) a1.toInt.toNat).toInt := by rw [(f1σ37.2.1 2 (by decide) (by decide) _).1]
      have tk16 : (sI σ37 (L 3) a1.toInt.toNat).toInt = (sI σ18 (L 3) a1.toInt.toNat).toInt := by rw [(f1σ37.2.1 3 (by decide) (by decide) _).1]
      intro z38 ez38
      try have hz38 := i_add ez38 (by omega) (by omega)
      have rg_z38 := i_range z38
      exact hK19 z38 σ37 ⟨hI, hfr, (by (try dsimp only); omega), (fun o => by have tt_ := congrArg Int32.toInt (f1σ37.2.1 1 (by decide) (by decide) o).1; have tt_ := congrArg Int32.toInt (f1σ37.2.1 2 (by decide) (by decide) o).1; have tt_ := congrArg Int32.toInt (f1σ37.2.1 3 (by decide) (by decide) o).1; (try have hA_ := hA o); omega)⟩ (by (try dsimp only); omega)
  · intro z39 ez39
    try have hz39 := i_mulk 12 rfl ez39 (by omega) (by omega)
    have rg_z39 := i_range z39
    intro z40 ez40
    try have hz40 := i_add ez40 (by omega) (by omega)
    have rg_z40 := i_range z40
    intro z41 ez41
    try have hz41 := i_mulk 12 rfl ez41 (by omega) (by omega)
    have rg_z41 := i_range z41
    intro z42 ez42
    try have hz42 := i_add ez42 (by omega) (by omega)
    have rg_z42 := i_range z42
    refine ⟨by omega, ?_⟩
    intro z43 ez43
    have vz43 := hI.aI 4 1920 (-128) 127 (by decide) (by decide) rfl rfl rfl (i := z42.toInt) (by omega) ez43
    have wz43 : z43.toInt = (sI σ14 (L 4) z42.toInt.toNat).toInt := by rw [ez43]
    refine ⟨by omega, ?_⟩
    intro σ44 eσ44
    have hMp := hI.2
    have hI := hI.pA 4 (-128) 127 (by decide) (by decide) rfl rfl (i_byte _) eσ44
    have hfr := hfr.aI hMp (by decide) eσ44 (by decide)
    try have nrσ44 : (vp_nar .byte z43).toInt = z43.toInt := by rw [nar_byte (by omega)]
    have f1σ44 : Fr h0 L [] [4] σ14 σ44 := Fr.rf.aI hMp (by decide) eσ44 (by decide)
    have tk17 : (sI σ44 (L 2) a1.toInt.toNat).toInt = (sI σ14 (L 2) a1.toInt.toNat).toInt := by rw [(f1σ44.2.1 2 (by decide) (by decide) _).1]
    have tk18 : (sI σ44 (L 3) a1.toInt.toNat).toInt = (sI σ14 (L 3) a1.toInt.toNat).toInt := by rw [(f1σ44.2.1 3 (by decide) (by decide) _).1]
    intro z45 ez45
    try have hz45 := i_add ez45 (by omega) (by omega)
    have rg_z45 := i_range z45
    exact hK15 z45 σ44 ⟨hI, hfr, (by (try dsimp only); omega), (fun o => by have tt_ := congrArg Int32.toInt (f1σ44.2.1 1 (by decide) (by decide) o).1; have tt_ := congrArg Int32.toInt (f1σ44.2.1 2 (by decide) (by decide) o).1; have tt_ := congrArg Int32.toInt (f1σ44.2.1 3 (by decide) (by decide) o).1; (try have hA_ := hA o); omega)⟩ (by (try dsimp only); omega)

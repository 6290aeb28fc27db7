/-! a line is dropped, a head is read -/
set_option maxRecDepth 100000 in
set_option maxHeartbeats 4000000 in
theorem s2_X12_drops {h0 : Nat} {L : Nat → Nat} {σ : HS} (hI : OKM h0 L σ) (a1 : Int32) {B : Int} (hG : GI h0 L B σ) (hB : B < 4611686018427387904) (hz : 0 ≤ a1.toInt ∧ a1.toInt < 6) {post : HS → Prop} (kk : ∀ (σ' : HS), OKM h0 L σ' → Fr h0 L [16, 61, 62, 63, 69, 115, 116, 117] [1, 2, 3, 4, 5, 6, 7, 8, 9, 10, 14, 15, 16, 17, 18, 19, 20, 21, 22, 23, 25, 27, 28, 30, 34, 38, 41, 42, 43, 44, 45, 46, 47, 48, 49, 50, 51, 53, 56, 57, 58, 59, 60, 61, 62, 63, 64, 65, 66, 67, 68, 69, 70, 71, 72, 73, 74, 75, 76, 77, 78, 79] σ σ' → (GI h0 L B σ' ∧ ((∀ i : Nat, (i = a1.toInt.toNat → (sI σ' (L 25) i).toInt = 0 ∧ (sI σ' (L 30) i).toInt = 0) ∧ (i ≠ a1.toInt.toNat → (sI σ' (L 30) i).toInt = (sI σ (L 30) i).toInt)))) → post σ') : F_X12_drops h0 L a1 post σ := by
  unfold F_X12_drops
  have k_m1 : ((-1) : Int32).toInt = (-1) := rfl
  have k_0 : (0 : Int32).toInt = 0 := rfl
  have k_1 : (1 : Int32).toInt = 1 := rfl
  have rg_a1 := i_range a1
  have hfr : Fr h0 L [16, 61, 62, 63, 69, 115, 116, 117] [1, 2, 3, 4, 5, 6, 7, 8, 9, 10, 14, 15, 16, 17, 18, 19, 20, 21, 22, 23, 25, 27, 28, 30, 34, 38, 41, 42, 43, 44, 45, 46, 47, 48, 49, 50, 51, 53, 56, 57, 58, 59, 60, 61, 62, 63, 64, 65, 66, 67, 68, 69, 70, 71, 72, 73, 74, 75, 76, 77, 78, 79] σ σ := Fr.rf
  refine ⟨by omega, ?_⟩
  intro σ1 eσ1
  have hMp := hI.2
  have hI := hI.pA 25 0 1 (by decide) (by decide) rfl rfl (i_bool _) eσ1
  have hfr := hfr.aI hMp (by decide) eσ1 (by decide)
  try have nrσ1 : (vp_nar .boolean 0).toInt = (0 : Int32).toInt := by rw [nar_bool (by omega)]
  have f1σ1 : Fr h0 L [] [25] σ σ1 := Fr.rf.aI hMp (by decide) eσ1 (by decide)
  have tk1 : (sI σ1 h0 69).toInt = (sI σ h0 69).toInt := by rw [(f1σ1.1 69 (by decide)).1]
  have tk2 : (sI σ1 h0 16).toInt = (sI σ h0 16).toInt := by rw [(f1σ1.1 16 (by decide)).1]
  have hG := hG.fr f1σ1 (by decide) (by decide)
  refine ⟨by omega, ?_⟩
  intro σ2 eσ2
  have hMp := hI.2
  have hI := hI.pA 30 0 12003 (by decide) (by decide) rfl rfl (by omega) eσ2
  have hfr := hfr.aI hMp (by decide) eσ2 (by decide)
  have f1σ2 : Fr h0 L [] [30] σ1 σ2 := Fr.rf.aI hMp (by decide) eσ2 (by decide)
  have tk3 : (sI σ2 h0 69).toInt = (sI σ1 h0 69).toInt := by rw [(f1σ2.1 69 (by decide)).1]
  have tk4 : (sI σ2 h0 16).toInt = (sI σ1 h0 16).toInt := by rw [(f1σ2.1 16 (by decide)).1]
  have hG := hG.fr f1σ2 (by decide) (by decide)
  have h69 := hI.fI 69 0 16 (by decide) rfl rfl rfl rfl
  intro z3 ez3
  have vz3 := hI.fI 69 0 16 (by decide) rfl rfl rfl ez3
  have wz3 : z3.toInt = (sI σ2 h0 69).toInt := by rw [ez3]
  intro z4 ez4
  try have hz4 := i_sub ez4 (by omega) (by omega)
  have rg_z4 := i_range z4
  refine lw_in (fun (x : Int32) (σ' : HS) => OKM h0 L σ' ∧ Fr h0 L [16, 61, 62, 63, 69, 115, 116, 117] [1, 2, 3, 4, 5, 6, 7, 8, 9, 10, 14, 15, 16, 17, 18, 19, 20, 21, 22, 23, 25, 27, 28, 30, 34, 38, 41, 42, 43, 44, 45, 46, 47, 48, 49, 50, 51, 53, 56, 57, 58, 59, 60, 61, 62, 63, 64, 65, 66, 67, 68, 69, 70, 71, 72, 73, 74, 75, 76, 77, 78, 79] σ σ' ∧ ((-1 ≤ x.toInt ∧ x.toInt ≤ 15) ∧ (-1 ≤ x.toInt) ∧ (x.toInt < (sI σ' h0 69).toInt)) ∧ ((∀ i : Nat, (i = a1.toInt.toNat → (sI σ' (L 25) i).toInt = 0 ∧ (sI σ' (L 30) i).toInt = 0) ∧ (i ≠ a1.toInt.toNat → (sI σ' (L 30) i).toInt = (sI σ (L 30) i).toInt))) ∧ (GI h0 L B σ')) (fun (x : Int32) (σ' : HS) => (x.toInt + 1).toNat) ⟨hI, hfr, (by (try dsimp only); omega), (fun i => by first | exact hd i | (have tt_ := atI eσ1 i; have tt_ := congrArg Int32.toInt (f1σ1.2.1 30 (by decide) (by decide) i).1; have tt_ := congrArg Int32.toInt (f1σ2.2.1 25 (by decide) (by decide) i).1; have tt_ := atI eσ2 i;  refine ⟨fun _ => by omega, fun _ => by omega⟩) | (rw [(fz27.2.1 25 (by decide) (by decide) i).1, (fz27.2.1 30 (by decide) (by decide) i).1]; exact hd i) | (rw [(fz16.2.1 25 (by decide) (by decide) i).1, (fz16.2.1 30 (by decide) (by decide) i).1]; exact hd i)), hG⟩ (fun x5 σ6 hJ K7 hK7 => ?_)
  obtain ⟨hI, hfr, hv, hd, hG⟩ := hJ
  (try dsimp only at hv)
  have rg_x5 := i_range x5
  refine ⟨fun c1 => ?_, fun c1 => ?_⟩
  · refine s_X12_eldestSession hI a1  (fun z10 pz10 => ?_)
    have rg_z10 := i_range z10
    refine lw_in (fun (x : Int32) (σ' : HS) => OKM h0 L σ' ∧ Fr h0 L [16, 61, 62, 63, 69, 115, 116, 117] [1, 2, 3, 4, 5, 6, 7, 8, 9, 10, 14, 15, 16, 17, 18, 19, 20, 21, 22, 23, 25, 27, 28, 30, 34, 38, 41, 42, 43, 44, 45, 46, 47, 48, 49, 50, 51, 53, 56, 57, 58, 59, 60, 61, 62, 63, 64, 65, 66, 67, 68, 69, 70, 71, 72, 73, 74, 75, 76, 77, 78, 79] σ σ' ∧ ((-1 ≤ x.toInt ∧ x.toInt ≤ 7) ∧ (0 ≤ x.toInt → 0 < (sJ σ' (L 34) x.toInt.toNat).toInt)) ∧ ((∀ i : Nat, (i = a1.toInt.toNat → (sI σ' (L 25) i).toInt = 0 ∧ (sI σ' (L 30) i).toInt = 0) ∧ (i ≠ a1.toInt.toNat → (sI σ' (L 30) i).toInt = (sI σ (L 30) i).toInt))) ∧ (GI h0 L B σ')) (fun (x : Int32) (σ' : HS) => (if x.toInt < 0 then 0 else 1 + sc L σ' 34 8)) ⟨hI, hfr, (by (try dsimp only); omega), (fun i => by first | exact hd i | (fail; refine ⟨fun _ => by omega, fun _ => by omega⟩) | (rw [(fz27.2.1 25 (by decide) (by decide) i).1, (fz27.2.1 30 (by decide) (by decide) i).1]; exact hd i) | (rw [(fz16.2.1 25 (by decide) (by decide) i).1, (fz16.2.1 30 (by decide) (by decide) i).1]; exact hd i)), hG⟩ (fun x11 σ12 hJ K13 hK13 => ?_)
    obtain ⟨hI, hfr, hv, hd, hG⟩ := hJ
    (try dsimp only at hv)
    have rg_x11 := i_range x11
    refine ⟨fun c2 => ?_, fun c2 => ?_⟩
    · exact kk σ12 hI hfr ⟨hG, hd⟩
    · have hIp := hI
      refine s_X12_endSession hI x11 hG hB (by omega) (fun σ15 hI fz16 pz16 => ?_)
      have hfr := hfr.tr fz16 (by decide) (by decide)
      have hG := pz16.1
      refine s_X12_eldestSession hI a1  (fun z18 pz18 => ?_)
      have rg_z18 := i_range z18
      exact hK13 z18 σ15 ⟨hI, hfr, (by (try dsimp only); omega), (fun i => by first | exact hd i | (fail; refine ⟨fun _ => by omega, fun _ => by omega⟩) | (rw [(fz27.2.1 25 (by decide) (by decide) i).1, (fz27.2.1 30 (by decide) (by decide) i).1]; exact hd i) | (rw [(fz16.2.1 25 (by decide) (by decide) i).1, (fz16.2.1 30 (by decide) (by decide) i).1]; exact hd i)), hG⟩ (by (try dsimp only); rw [if_neg (show ¬ x11.toInt < 0 by omega)]; have cl_ := pz16.2.2 (by omega); split <;> omega)
  · refine ⟨by omega, ?_⟩
    intro z19 ez19
    have vz19 := hI.aI 61 16 0 5 (by decide) (by decide) rfl rfl rfl (i := x5.toInt) (by omega) ez19
    have wz19 : z19.toInt = (sI σ6 (L 61) x5.toInt.toNat).toInt := by rw [ez19]
    refine jn_dup ?_
    refine ⟨fun c3 => ?_, fun c3 => ?_⟩
    · (try dsimp only)
      intro z25 ez25
      try have hz25 := i_add ez25 (by omega) (by omega)
      have rg_z25 := i_range z25
      exact hK7 z25 σ6 ⟨hI, hfr, (by (try dsimp only); omega), (fun i => by first | exact hd i | (fail; refine ⟨fun _ => by omega, fun _ => by omega⟩) | (rw [(fz27.2.1 25 (by decide) (by decide) i).1, (fz27.2.1 30 (by decide) (by decide) i).1]; exact hd i) | (rw [(fz16.2.1 25 (by decide) (by decide) i).1, (fz16.2.1 30 (by decide) (by decide) i).1]; exact hd i)), hG⟩ (by (try dsimp only); omega)
    · have hIp := hI
      refine s_X12_forget hI x5 (by omega) (fun σ26 hI fz27 pz27 => ?_)
      have hfr := hfr.tr fz27 (by decide) (by decide)
      have tk8 : (sI σ26 h0 16).toInt = (sI σ6 h0 16).toInt := by rw [(fz27.1 16 (by decide)).1]
      have q69 := pz27.1
      have hG := hG.sub hIp fz27 (pz27.sub) (by decide) (by decide)
      (try dsimp only)
      intro z25 ez25
      try have hz25 := i_add ez25 (by omega) (by omega)
      have rg_z25 := i_range z25
      exact hK7 z25 σ26 ⟨hI, hfr, (by (try dsimp only); omega), (fun i => by first | exact hd i | (fail; refine ⟨fun _ => by omega, fun _ => by omega⟩) | (rw [(fz27.2.1 25 (by decide) (by decide) i).1, (fz27.2.1 30 (by decide) (by decide) i).1]; exact hd i) | (rw [(fz16.2.1 25 (by decide) (by decide) i).1, (fz16.2.1 30 (by decide) (by decide) i).1]; exact hd i)), hG⟩ (by (try dsimp only); omega)
set_option maxRecDepth 100000 in
set_option maxHeartbeats 4000000 in
theorem s2_X12_hang {h0 : Nat} {L : Nat → Nat} {σ : HS} (hI : OKM h0 L σ) (a1 : Int32) {B : Int} (hG : GI h0 L B σ) (hB : B < 4611686018427387904)  {post : Int32 → HS → Prop} (kk : ∀ (r : Int32) (σ' : HS), OKM h0 L σ' → Fr h0 L [16, 61, 62, 63, 69, 115, 116, 117] [1, 2, 3, 4, 5, 6, 7, 8, 9, 10, 14, 15, 16, 17, 18, 19, 20, 21, 22, 23, 25, 27, 28, 30, 34, 38, 41, 42, 43, 44, 45, 46, 47, 48, 49, 50, 51, 53, 56, 57, 58, 59, 60, 61, 62, 63, 64, 65, 66, 67, 68, 69, 70, 71, 72, 73, 74, 75, 76, 77, 78, 79] σ σ' → (GI h0 L B σ' ∧ ((0 ≤ r.toInt ∧ r.toInt ≤ 1) ∧ ∀ i : Nat, (sI σ' (L 30) i).toInt ≤ (sI σ (L 30) i).toInt ∨ (sI σ' (L 30) i).toInt = 0)) → post r σ') : F_X12_hang h0 L a1 post σ := by
  unfold F_X12_hang
  have k_0 : (0 : Int32).toInt = 0 := rfl
  have k_1 : (1 : Int32).toInt = 1 := rfl
  have rg_a1 := i_range a1
  have hfr : Fr h0 L [16, 61, 62, 63, 69, 115, 116, 117] [1, 2, 3, 4, 5, 6, 7, 8, 9, 10, 14, 15, 16, 17, 18, 19, 20, 21, 22, 23, 25, 27, 28, 30, 34, 38, 41, 42, 43, 44, 45, 46, 47, 48, 49, 50, 51, 53, 56, 57, 58, 59, 60, 61, 62, 63, 64, 65, 66, 67, 68, 69, 70, 71, 72, 73, 74, 75, 76, 77, 78, 79] σ σ := Fr.rf
  refine s_X12_isLine hI a1  (fun z2 pz2 => ?_)
  have rg_z2 := i_range z2
  refine jn_dup ?_
  refine ⟨fun c1 => ?_, fun c1 => ?_⟩
  · (try dsimp only)
    refine ⟨by omega, ?_⟩
    exact kk 0 σ hI hfr ⟨hG, ⟨by omega, fun i => by first | (have q := pz10.2 i; omega) | exact Or.inl (Int.le_refl _)⟩⟩
  · refine ⟨by omega, ?_⟩
    intro z8 ez8
    have vz8 := hI.aI 25 6 0 1 (by decide) (by decide) rfl rfl rfl (i := a1.toInt) (by omega) ez8
    have wz8 : z8.toInt = (sI σ (L 25) a1.toInt.toNat).toInt := by rw [ez8]
    refine ⟨fun c2 => ?_, fun c2 => ?_⟩
    · have hIp := hI
      refine s2_X12_drops hI a1 hG hB (by omega) (fun σ9 hI fz10 pz10 => ?_)
      have hfr := hfr.tr fz10 (by decide) (by decide)
      have hG := pz10.1
      refine ⟨by omega, ?_⟩
      exact kk 1 σ9 hI hfr ⟨hG, ⟨by omega, fun i => by first | (have q := pz10.2 i; omega) | exact Or.inl (Int.le_refl _)⟩⟩
    · (try dsimp only)
      refine ⟨by omega, ?_⟩
      exact kk 0 σ hI hfr ⟨hG, ⟨by omega, fun i => by first | (have q := pz10.2 i; omega) | exact Or.inl (Int.le_refl _)⟩⟩
set_option maxRecDepth 100000 in
set_option maxHeartbeats 4000000 in
theorem s2_X12_headerGood {h0 : Nat} {L : Nat → Nat} {σ : HS} (hI : OKM h0 L σ) (a1 : Int32) (hN : InM h0 L σ 64)  {post : Int32 → HS → Prop} (kk : ∀ (r : Int32) (_ : (0 ≤ r.toInt ∧ r.toInt ≤ 1) ∧ (r.toInt ≠ 0 → (NUM h0 L σ 20 4 : Int) = 0 ∨ (64 ≤ (NUM h0 L σ 20 4 : Int) ∧ (NUM h0 L σ 20 4 : Int) ≤ a1.toInt - 64))), post r σ) : F_X12_headerGood h0 L a1 post σ := by
  unfold F_X12_headerGood
  have k_0 : (0 : Int32).toInt = 0 := rfl
  have k_1 : (1 : Int32).toInt = 1 := rfl
  have k_4 : (4 : Int32).toInt = 4 := rfl
  have k_8 : (8 : Int32).toInt = 8 := rfl
  have k_16 : (16 : Int32).toInt = 16 := rfl
  have k_20 : (20 : Int32).toInt = 20 := rfl
  have k_64 : (64 : Int32).toInt = 64 := rfl
  have kl_0 : (0 : Int64).toInt = 0 := rfl
  have kl_1 : (1 : Int64).toInt = 1 := rfl
  have kl_8 : (8 : Int64).toInt = 8 := rfl
  have kl_64 : (64 : Int64).toInt = 64 := rfl
  have kl_1112364030 : (1112364030 : Int64).toInt = 1112364030 := rfl
  have rg_a1 := i_range a1
  refine s_X12_number hI 20 4 (by omega) (hN.le (by omega)) (fun z2 pz2 => ?_)
  have tz2 : z2.toInt = (NUM h0 L σ 20 4 : Int) ∧ z2.toInt < 4294967296 := num_t (n := 4) (K := 4294967296) pz2 rfl (by decide)
  refine s_X12_number hI 0 4 (by omega) (hN.le (by omega)) (fun z4 pz4 => ?_)
  have tz4 : z4.toInt = (NUM h0 L σ 0 4 : Int) ∧ z4.toInt < 4294967296 := num_t (n := 4) (K := 4294967296) pz4 rfl (by decide)
  refine jn_in (fun (x : Int32) (σ' : HS) => σ = σ' ∧ ((0 ≤ x.toInt ∧ x.toInt ≤ 1))) (fun x5 σ6 hJ => ?_) (fun K7 hK7 => ?_)
  · obtain ⟨hsg, hv⟩ := hJ
    subst hsg
    (try dsimp only at hv)
    have rg_x5 := i_range x5
    refine jn_dup ?_
    refine jn_dup ?_
    refine ⟨fun c1 => ?_, fun c1 => ?_⟩
    · (try dsimp only)
      (try dsimp only)
      refine ⟨by omega, ?_⟩
      exact kk 0 (by (try dsimp only); omega)
    · refine jn_dup ?_
      refine ⟨fun c2 => ?_, fun c2 => ?_⟩
      · (try dsimp only)
        (try dsimp only)
        refine ⟨by omega, ?_⟩
        exact kk 1 (by (try dsimp only); omega)
      · refine ⟨fun c3 => ?_, fun c3 => ?_⟩
        · (try dsimp only)
          (try dsimp only)
          refine ⟨by omega, ?_⟩
          exact kk 0 (by (try dsimp only); omega)
        · intro z25 ez25
          try have hz25 := l_rem 8 rfl ez25 (by omega) (by omega)
          have rg_z25 := l_range z25
          refine ⟨fun c4 => ?_, fun c4 => ?_⟩
          · (try dsimp only)
            (try dsimp only)
            refine ⟨by omega, ?_⟩
            exact kk 0 (by (try dsimp only); omega)
          · intro z26 ez26
            have hz26 := i_tol ez26
            have rg_z26 := l_range z26
            intro z27 ez27
            try have hz27 := l_sub ez27 (by omega) (by omega)
            have rg_z27 := l_range z27
            refine ⟨fun c5 => ?_, fun c5 => ?_⟩
            · (try dsimp only)
              (try dsimp only)
              refine ⟨by omega, ?_⟩
              exact kk 0 (by (try dsimp only); omega)
            · (try dsimp only)
              (try dsimp only)
              refine ⟨by omega, ?_⟩
              exact kk 1 (by (try dsimp only); omega)
  · skip
    refine jn_dup ?_
    refine ⟨fun c6 => ?_, fun c6 => ?_⟩
    · (try dsimp only)
      exact hK7 0 σ ⟨rfl, (by (try dsimp only); omega)⟩
    · refine s_X12_number2 hI 4 (by omega) (hN.le (by omega)) (fun z34 pz34 => ?_)
      have tz34 : z34.toInt = (NUM h0 L σ 4 2 : Int) := pz34.1
      have rg_z34 := i_range z34
      refine ⟨fun c7 => ?_, fun c7 => ?_⟩
      · (try dsimp only)
        exact hK7 0 σ ⟨rfl, (by (try dsimp only); omega)⟩
      · refine s_X12_number hI 16 4 (by omega) (hN.le (by omega)) (fun z36 pz36 => ?_)
        have tz36 : z36.toInt = (NUM h0 L σ 16 4 : Int) ∧ z36.toInt < 4294967296 := num_t (n := 4) (K := 4294967296) pz36 rfl (by decide)
        intro z37 ez37
        try have hz37 := l_and ez37 (by omega)
        have rg_z37 := l_range z37
        refine ⟨fun c8 => ?_, fun c8 => ?_⟩
        · (try dsimp only)
          exact hK7 0 σ ⟨rfl, (by (try dsimp only); omega)⟩
        · exact hK7 1 σ ⟨rfl, (by (try dsimp only); omega)⟩

/-! paths -/
set_option maxRecDepth 100000 in
set_option maxHeartbeats 4000000 in
theorem s_X12_readPath {h0 : Nat} {L : Nat → Nat} {σ : HS} (hI : OKM h0 L σ) (a1 : Int32) (a2 : Int64) (hN : InM h0 L σ (sI σ h0 87).toInt) (hz : 0 ≤ a1.toInt ∧ 0 ≤ a2.toInt ∧ (a2.toInt = 0 ∨ a1.toInt + a2.toInt ≤ (sI σ h0 87).toInt)) {post : Int32 → HS → Prop} (kk : ∀ (r : Int32) (σ' : HS), OKM h0 L σ' → Fr h0 L [115] [77, 78, 79] σ σ' → ((0 ≤ r.toInt ∧ r.toInt ≤ 1) ∧ (r.toInt ≠ 0 → ∀ o : Nat, (o : Int) < (sI σ' h0 115).toInt → (1 ≤ (sI σ' (L 79) o).toInt ∧ (sI σ' (L 79) o).toInt ≤ 12) ∧ (sI σ' (L 78) o).toInt + (sI σ' (L 79) o).toInt ≤ 120)) → post r σ') : F_X12_readPath h0 L a1 a2 post σ := by
  unfold F_X12_readPath
  have k_0 : (0 : Int32).toInt = 0 := rfl
  have k_1 : (1 : Int32).toInt = 1 := rfl
  have k_2 : (2 : Int32).toInt = 2 := rfl
  have k_12 : (12 : Int32).toInt = 12 := rfl
  have k_46 : (46 : Int32).toInt = 46 := rfl
  have k_92 : (92 : Int32).toInt = 92 := rfl
  have kl_0 : (0 : Int64).toInt = 0 := rfl
  have kl_2 : (2 : Int64).toInt = 2 := rfl
  have kl_240 : (240 : Int64).toInt = 240 := rfl
  have rg_a1 := i_range a1
  have rg_a2 := l_range a2
  have hfr : Fr h0 L [115] [77, 78, 79] σ σ := Fr.rf
  have h87 : (0 : Int) ≤ (sI σ h0 87).toInt ∧ (sI σ h0 87).toInt ≤ 4000 := hI.fI 87 0 4000 (by decide) rfl rfl rfl rfl
  intro z1 ez1
  try have hz1 := l_rem 2 rfl ez1 (by omega) (by omega)
  have rg_z1 := l_range z1
  refine jn_dup ?_
  refine ⟨fun c1 => ?_, fun c1 => ?_⟩
  · (try dsimp only)
    refine ⟨by omega, ?_⟩
    exact kk 0 σ hI hfr ⟨(by (try dsimp only); omega), fun hr o ho => by first | (exfalso; omega) | (have h1 := hQ o ho; have h2 := hA (by omega) o (by omega); omega)⟩
  · refine ⟨fun c2 => ?_, fun c2 => ?_⟩
    · intro z7 ez7
      try have hz7 := l_toi ez7 (by omega) (by omega)
      have rg_z7 := i_range z7
      intro z8 ez8
      try have hz8 := i_div 2 rfl ez8 (by omega) (by omega)
      have rg_z8 := i_range z8
      intro σ9 eσ9
      have hMp := hI.2
      have hI := hI.pF 115 0 121 rfl rfl (by omega) eσ9
      have hfr := hfr.fI hMp eσ9 (by decide) rfl
      have uσ9 : (sI σ9 h0 115).toInt = (0 : Int32).toInt := by rw [eσ9]; exact congrArg Int32.toInt u2_same
      have f1σ9 : Fr h0 L [115] [] σ σ9 := Fr.rf.fI hMp eσ9 (by decide) rfl
      refine ⟨fun c3 => ?_, fun c3 => ?_⟩
      · intro σ10 eσ10
        have hMp := hI.2
        have hI := hI.pF 115 0 121 rfl rfl (by omega) eσ10
        have hfr := hfr.fI hMp eσ10 (by decide) rfl
        have uσ10 : (sI σ10 h0 115).toInt = (1 : Int32).toInt := by rw [eσ10]; exact congrArg Int32.toInt u2_same
        have f1σ10 : Fr h0 L [115] [] σ9 σ10 := Fr.rf.fI hMp eσ10 (by decide) rfl
        refine ⟨by omega, ?_⟩
        intro σ11 eσ11
        have hMp := hI.2
        have hI := hI.pA 78 0 121 (by decide) (by decide) rfl rfl (by omega) eσ11
        have hfr := hfr.aI hMp (by decide) eσ11 (by decide)
        have f1σ11 : Fr h0 L [] [78] σ10 σ11 := Fr.rf.aI hMp (by decide) eσ11 (by decide)
        have tk3 : (sI σ11 h0 115).toInt = (sI σ10 h0 115).toInt := by rw [(f1σ11.1 115 (by decide)).1]
        refine ⟨by omega, ?_⟩
        intro σ12 eσ12
        have hMp := hI.2
        have hI := hI.pA 79 0 120 (by decide) (by decide) rfl rfl (by omega) eσ12
        have hfr := hfr.aI hMp (by decide) eσ12 (by decide)
        have f1σ12 : Fr h0 L [] [79] σ11 σ12 := Fr.rf.aI hMp (by decide) eσ12 (by decide)
        have tk4 : (sI σ12 h0 115).toInt = (sI σ11 h0 115).toInt := by rw [(f1σ12.1 115 (by decide)).1]
        refine lw_in (fun (x : Int32 × Int32) (σ' : HS) => OKM h0 L σ' ∧ Fr h0 L [115] [77, 78, 79] σ σ' ∧ ((0 ≤ x.1.toInt ∧ x.1.toInt ≤ 120) ∧ (0 ≤ x.1.toInt ∧ x.1.toInt ≤ z8.toInt) ∧ (0 ≤ x.2.toInt ∧ x.2.toInt ≤ 1) ∧ (1 ≤ (sI σ' h0 115).toInt) ∧ ((sI σ' h0 115).toInt ≤ x.1.toInt + 1)) ∧ (∀ o : Nat, (o : Int) < (sI σ' h0 115).toInt → (sI σ' (L 78) o).toInt + (sI σ' (L 79) o).toInt ≤ x.1.toInt)) (fun (x : Int32 × Int32) (σ' : HS) => (z8.toInt - x.1.toInt).toNat) ⟨hI, hfr, (by (try dsimp only); omega), (fun o ho => by first | (have tt_ := congrArg Int32.toInt (f1σ9.2.1 78 (by decide) (by decide) o).1; have tt_ := congrArg Int32.toInt (f1σ9.2.1 79 (by decide) (by decide) o).1; have tt_ := congrArg Int32.toInt (f1σ10.2.1 78 (by decide) (by decide) o).1; have tt_ := congrArg Int32.toInt (f1σ10.2.1 79 (by decide) (by decide) o).1; have tt_ := atI eσ11 o; have tt_ := congrArg Int32.toInt (f1σ11.2.1 79 (by decide) (by decide) o).1; have tt_ := congrArg Int32.toInt (f1σ12.2.1 78 (by decide) (by decide) o).1; have tt_ := atI eσ12 o; (try have q := hQ o); (try dsimp only at *); omega) | (by_cases e_ : o = z78.toInt.toNat; (subst e_; have tt_ := congrArg Int32.toInt (f1σ9.2.1 78 (by decide) (by decide) z78.toInt.toNat).1; have tt_ := congrArg Int32.toInt (f1σ9.2.1 79 (by decide) (by decide) z78.toInt.toNat).1; have tt_ := congrArg Int32.toInt (f1σ10.2.1 78 (by decide) (by decide) z78.toInt.toNat).1; have tt_ := congrArg Int32.toInt (f1σ10.2.1 79 (by decide) (by decide) z78.toInt.toNat).1; have tt_ := atI eσ11 z78.toInt.toNat; have tt_ := congrArg Int32.toInt (f1σ11.2.1 79 (by decide) (by decide) z78.toInt.toNat).1; have tt_ := congrArg Int32.toInt (f1σ12.2.1 78 (by decide) (by decide) z78.toInt.toNat).1; have tt_ := atI eσ12 z78.toInt.toNat; (try dsimp only at *); omega); (have tt_ := congrArg Int32.toInt (f1σ9.2.1 78 (by decide) (by decide) o).1; have tt_ := congrArg Int32.toInt (f1σ9.2.1 79 (by decide) (by decide) o).1; have tt_ := congrArg Int32.toInt (f1σ10.2.1 78 (by decide) (by decide) o).1; have tt_ := congrArg Int32.toInt (f1σ10.2.1 79 (by decide) (by decide) o).1; have tt_ := atI eσ11 o; have tt_ := congrArg Int32.toInt (f1σ11.2.1 79 (by decide) (by decide) o).1; have tt_ := congrArg Int32.toInt (f1σ12.2.1 78 (by decide) (by decide) o).1; have tt_ := atI eσ12 o; have q := hQ o; (try dsimp only at *); omega)))⟩ (fun x13 σ14 hJ K15 hK15 => ?_)
        obtain ⟨hI, hfr, hv, hQ⟩ := hJ
        (try dsimp only at hv)
        have rg_x13_1 := i_range x13.1
        have rg_x13_2 := i_range x13.2
        refine ⟨fun c4 => ?_, fun c4 => ?_⟩
        · refine lw_in (fun (x : Int32 × Int32) (σ' : HS) => OKM h0 L σ' ∧ Fr h0 L [115] [77, 78, 79] σ σ' ∧ ((0 ≤ x.1.toInt ∧ x.1.toInt ≤ 121) ∧ (0 ≤ x.2.toInt ∧ x.2.toInt ≤ 1)) ∧ (∀ o : Nat, (o : Int) < (sI σ' h0 115).toInt → (sI σ' (L 78) o).toInt + (sI σ' (L 79) o).toInt ≤ z8.toInt) ∧ (x.2.toInt ≠ 0 → ∀ o : Nat, (o : Int) < x.1.toInt → 1 ≤ (sI σ' (L 79) o).toInt ∧ (sI σ' (L 79) o).toInt ≤ 12)) (fun (x : Int32 × Int32) (σ' : HS) => (122 - x.1.toInt).toNat) ⟨hI, hfr, (by (try dsimp only); omega), (fun o ho => by first | ((try have q := hQ o); (try dsimp only at *); omega) | (by_cases e_ : o = z78.toInt.toNat; (subst e_; (try dsimp only at *); omega); (have q := hQ o; (try dsimp only at *); omega))), (fun _ o ho => by exfalso; (try dsimp only at ho); omega)⟩ (fun x17 σ18 hJ K19 hK19 => ?_)
          obtain ⟨hI, hfr, hv, hQ, hA⟩ := hJ
          (try dsimp only at hv)
          have rg_x17_1 := i_range x17.1
          have rg_x17_2 := i_range x17.2
          intro z21 ez21
          have vz21 := hI.fI 115 0 121 (by decide) rfl rfl rfl ez21
          have wz21 : z21.toInt = (sI σ18 h0 115).toInt := by rw [ez21]
          refine ⟨fun c5 => ?_, fun c5 => ?_⟩
          · refine ⟨by omega, ?_⟩
            exact kk x17.2 σ18 hI hfr ⟨(by (try dsimp only); omega), fun hr o ho => by first | (exfalso; omega) | (have h1 := hQ o ho; have h2 := hA (by omega) o (by omega); omega)⟩
          · refine ⟨by omega, ?_⟩
            intro z22 ez22
            have vz22 := hI.aI 79 130 0 120 (by decide) (by decide) rfl rfl rfl (i := x17.1.toInt) (by omega) ez22
            have wz22 : z22.toInt = (sI σ18 (L 79) x17.1.toInt.toNat).toInt := by rw [ez22]
            refine jn_in (fun (x : Int32) (σ' : HS) => OKM h0 L σ' ∧ Fr h0 L [115] [77, 78, 79] σ σ' ∧ ((0 ≤ x.toInt ∧ x.toInt ≤ 1) ∧ (x17.1.toInt < (sI σ' h0 115).toInt)) ∧ (∀ o : Nat, (o : Int) < (sI σ' h0 115).toInt → (sI σ' (L 78) o).toInt + (sI σ' (L 79) o).toInt ≤ z8.toInt) ∧ (x17.2.toInt ≠ 0 → ∀ o : Nat, (o : Int) < x17.1.toInt → 1 ≤ (sI σ' (L 79) o).toInt ∧ (sI σ' (L 79) o).toInt ≤ 12)) (fun x23 σ24 hJ => ?_) (fun K25 hK25 => ?_)
            · obtain ⟨hI, hfr, hv, hQ, hA⟩ := hJ
              (try dsimp only at hv)
              have rg_x23 := i_range x23
              refine lw_in (fun (x : Int32 × Int32) (σ' : HS) => OKM h0 L σ' ∧ Fr h0 L [115] [77, 78, 79] σ σ' ∧ ((0 ≤ x.1.toInt ∧ x.1.toInt ≤ 120) ∧ (0 ≤ x.2.toInt ∧ x.2.toInt ≤ 1) ∧ (x17.1.toInt < (sI σ' h0 115).toInt)) ∧ (∀ o : Nat, (o : Int) < (sI σ' h0 115).toInt → (sI σ' (L 78) o).toInt + (sI σ' (L 79) o).toInt ≤ z8.toInt) ∧ (x17.2.toInt ≠ 0 → ∀ o : Nat, (o : Int) < x17.1.toInt → 1 ≤ (sI σ' (L 79) o).toInt ∧ (sI σ' (L 79) o).toInt ≤ 12)) (fun (x : Int32 × Int32) (σ' : HS) => (121 - x.1.toInt).toNat) ⟨hI, hfr, (by (try dsimp only); omega), (fun o ho => by first | ((try have q := hQ o); (try dsimp only at *); omega) | (by_cases e_ : o = z78.toInt.toNat; (subst e_; (try dsimp only at *); omega); (have q := hQ o; (try dsimp only at *); omega))), hA⟩ (fun x28 σ29 hJ K30 hK30 => ?_)
              obtain ⟨hI, hfr, hv, hQ, hA⟩ := hJ
              (try dsimp only at hv)
              have rg_x28_1 := i_range x28.1
              have rg_x28_2 := i_range x28.2
              refine ⟨by omega, ?_⟩
              intro z32 ez32
              have vz32 := hI.aI 79 130 0 120 (by decide) (by decide) rfl rfl rfl (i := x17.1.toInt) (by omega) ez32
              have wz32 : z32.toInt = (sI σ29 (L 79) x17.1.toInt.toNat).toInt := by rw [ez32]
              refine ⟨fun c6 => ?_, fun c6 => ?_⟩
              · refine jn_dup ?_
                refine jn_dup ?_
                refine ⟨fun c7 => ?_, fun c7 => ?_⟩
                · (try dsimp only)
                  (try dsimp only)
                  intro z38 ez38
                  try have hz38 := i_add ez38 (by omega) (by omega)
                  have rg_z38 := i_range z38
                  exact hK19 (z38, 0) σ29 ⟨hI, hfr, (by (try dsimp only); omega), (fun o ho => by first | ((try have q := hQ o); (try dsimp only at *); omega) | (by_cases e_ : o = z78.toInt.toNat; (subst e_; (try dsimp only at *); omega); (have q := hQ o; (try dsimp only at *); omega))), (fun hg o ho => by (try dsimp only at *); by_cases q : (o : Int) < x17.1.toInt; exact hA (by omega) o q; have e : o = x17.1.toInt.toNat := (by omega); subst e; omega)⟩ (by (try dsimp only); omega)
                · refine ⟨by omega, ?_⟩
                  intro z44 ez44
                  have vz44 := hI.aI 79 130 0 120 (by decide) (by decide) rfl rfl rfl (i := x17.1.toInt) (by omega) ez44
                  have wz44 : z44.toInt = (sI σ29 (L 79) x17.1.toInt.toNat).toInt := by rw [ez44]
                  refine ⟨fun c8 => ?_, fun c8 => ?_⟩
                  · (try dsimp only)
                    (try dsimp only)
                    intro z38 ez38
                    try have hz38 := i_add ez38 (by omega) (by omega)
                    have rg_z38 := i_range z38
                    exact hK19 (z38, 0) σ29 ⟨hI, hfr, (by (try dsimp only); omega), (fun o ho => by first | ((try have q := hQ o); (try dsimp only at *); omega) | (by_cases e_ : o = z78.toInt.toNat; (subst e_; (try dsimp only at *); omega); (have q := hQ o; (try dsimp only at *); omega))), (fun hg o ho => by (try dsimp only at *); by_cases q : (o : Int) < x17.1.toInt; exact hA (by omega) o q; have e : o = x17.1.toInt.toNat := (by omega); subst e; omega)⟩ (by (try dsimp only); omega)
                  · refine ⟨by omega, ?_⟩
                    intro z45 ez45
                    have vz45 := hI.aI 79 130 0 120 (by decide) (by decide) rfl rfl rfl (i := x17.1.toInt) (by omega) ez45
                    have wz45 : z45.toInt = (sI σ29 (L 79) x17.1.toInt.toNat).toInt := by rw [ez45]
                    refine ⟨fun c9 => ?_, fun c9 => ?_⟩
                    · (try dsimp only)
                      (try dsimp only)
                      intro z38 ez38
                      try have hz38 := i_add ez38 (by omega) (by omega)
                      have rg_z38 := i_range z38
                      exact hK19 (z38, 0) σ29 ⟨hI, hfr, (by (try dsimp only); omega), (fun o ho => by first | ((try have q := hQ o); (try dsimp only at *); omega) | (by_cases e_ : o = z78.toInt.toNat; (subst e_; (try dsimp only at *); omega); (have q := hQ o; (try dsimp only at *); omega))), (fun hg o ho => by (try dsimp only at *); by_cases q : (o : Int) < x17.1.toInt; exact hA (by omega) o q; have e : o = x17.1.toInt.toNat := (by omega); subst e; omega)⟩ (by (try dsimp only); omega)
                    · refine ⟨fun c10 => ?_, fun c10 => ?_⟩
                      · (try dsimp only)
                        (try dsimp only)
                        intro z38 ez38
                        try have hz38 := i_add ez38 (by omega) (by omega)
                        have rg_z38 := i_range z38
                        exact hK19 (z38, 0) σ29 ⟨hI, hfr, (by (try dsimp only); omega), (fun o ho => by first | ((try have q := hQ o); (try dsimp only at *); omega) | (by_cases e_ : o = z78.toInt.toNat; (subst e_; (try dsimp only at *); omega); (have q := hQ o; (try dsimp only at *); omega))), (fun hg o ho => by (try dsimp only at *); by_cases q : (o : Int) < x17.1.toInt; exact hA (by omega) o q; have e : o = x17.1.toInt.toNat := (by omega); subst e; omega)⟩ (by (try dsimp only); omega)
                      · (try dsimp only)
                        intro z38 ez38
                        try have hz38 := i_add ez38 (by omega) (by omega)
                        have rg_z38 := i_range z38
                        exact hK19 (z38, 1) σ29 ⟨hI, hfr, (by (try dsimp only); omega), (fun o ho => by first | ((try have q := hQ o); (try dsimp only at *); omega) | (by_cases e_ : o = z78.toInt.toNat; (subst e_; (try dsimp only at *); omega); (have q := hQ o; (try dsimp only at *); omega))), (fun hg o ho => by (try dsimp only at *); by_cases q : (o : Int) < x17.1.toInt; exact hA (by omega) o q; have e : o = x17.1.toInt.toNat := (by omega); subst e; omega)⟩ (by (try dsimp only); omega)
              · refine jn_dup ?_
                refine jn_dup ?_
                refine ⟨fun c11 => ?_, fun c11 => ?_⟩
                · (try dsimp only)
                  (try dsimp only)
                  intro z51 ez51
                  try have hz51 := i_add ez51 (by omega) (by omega)
                  have rg_z51 := i_range z51
                  exact hK30 (z51, 0) σ29 ⟨hI, hfr, (by (try dsimp only); omega), (fun o ho => by first | ((try have q := hQ o); (try dsimp only at *); omega) | (by_cases e_ : o = z78.toInt.toNat; (subst e_; (try dsimp only at *); omega); (have q := hQ o; (try dsimp only at *); omega))), hA⟩ (by (try dsimp only); omega)
                · refine ⟨by omega, ?_⟩
                  intro z57 ez57
                  have vz57 := hI.aI 78 130 0 121 (by decide) (by decide) rfl rfl rfl (i := x17.1.toInt) (by omega) ez57
                  have wz57 : z57.toInt = (sI σ29 (L 78) x17.1.toInt.toNat).toInt := by rw [ez57]
                  intro z58 ez58
                  try have hz58 := i_add ez58 (by omega) (by omega)
                  have rg_z58 := i_range z58
                  have q_ := hQ x17.1.toInt.toNat (by omega)
                  refine ⟨by omega, ?_⟩
                  intro z59 ez59
                  have vz59 := hI.aI 77 130 0 65535 (by decide) (by decide) rfl rfl rfl (i := z58.toInt) (by omega) ez59
                  have wz59 : z59.toInt = (sI σ29 (L 77) z58.toInt.toNat).toInt := by rw [ez59]
                  refine ⟨fun c12 => ?_, fun c12 => ?_⟩
                  · (try dsimp only)
                    (try dsimp only)
                    intro z51 ez51
                    try have hz51 := i_add ez51 (by omega) (by omega)
                    have rg_z51 := i_range z51
                    exact hK30 (z51, 0) σ29 ⟨hI, hfr, (by (try dsimp only); omega), (fun o ho => by first | ((try have q := hQ o); (try dsimp only at *); omega) | (by_cases e_ : o = z78.toInt.toNat; (subst e_; (try dsimp only at *); omega); (have q := hQ o; (try dsimp only at *); omega))), hA⟩ (by (try dsimp only); omega)
                  · (try dsimp only)
                    intro z51 ez51
                    try have hz51 := i_add ez51 (by omega) (by omega)
                    have rg_z51 := i_range z51
                    exact hK30 (z51, 1) σ29 ⟨hI, hfr, (by (try dsimp only); omega), (fun o ho => by first | ((try have q := hQ o); (try dsimp only at *); omega) | (by_cases e_ : o = z78.toInt.toNat; (subst e_; (try dsimp only at *); omega); (have q := hQ o; (try dsimp only at *); omega))), hA⟩ (by (try dsimp only); omega)
            · skip
              refine ⟨fun c13 => ?_, fun c13 => ?_⟩
              · exact hK25 0 σ18 ⟨hI, hfr, (by (try dsimp only); omega), (fun o ho => by first | ((try have q := hQ o); (try dsimp only at *); omega) | (by_cases e_ : o = z78.toInt.toNat; (subst e_; (try dsimp only at *); omega); (have q := hQ o; (try dsimp only at *); omega))), hA⟩
              · exact hK25 1 σ18 ⟨hI, hfr, (by (try dsimp only); omega), (fun o ho => by first | ((try have q := hQ o); (try dsimp only at *); omega) | (by_cases e_ : o = z78.toInt.toNat; (subst e_; (try dsimp only at *); omega); (have q := hQ o; (try dsimp only at *); omega))), hA⟩
        · intro z60 ez60
          try have hz60 := i_mulk 2 rfl ez60 (by omega) (by omega)
          have rg_z60 := i_range z60
          intro z61 ez61
          try have hz61 := i_add ez61 (by omega) (by omega)
          have rg_z61 := i_range z61
          refine s_X12_number2 hI z61 (by omega) ((hN.fr hfr (by decide) (by decide)).le (by omega)) (fun z63 pz63 => ?_)
          have rg_z63 := i_range z63
          refine ⟨by omega, ?_⟩
          intro σ64 eσ64
          have hMp := hI.2
          have hI := hI.pA 77 0 65535 (by decide) (by decide) rfl rfl (by omega) eσ64
          have hfr := hfr.aI hMp (by decide) eσ64 (by decide)
          have f1σ64 : Fr h0 L [] [77] σ14 σ64 := Fr.rf.aI hMp (by decide) eσ64 (by decide)
          have tk5 : (sI σ64 h0 115).toInt = (sI σ14 h0 115).toInt := by rw [(f1σ64.1 115 (by decide)).1]
          refine ⟨by omega, ?_⟩
          intro z65 ez65
          have vz65 := hI.aI 77 130 0 65535 (by decide) (by decide) rfl rfl rfl (i := x13.1.toInt) (by omega) ez65
          have wz65 : z65.toInt = (sI σ64 (L 77) x13.1.toInt.toNat).toInt := by rw [ez65]
          refine jn_dup ?_
          refine ⟨fun c14 => ?_, fun c14 => ?_⟩
          · refine jn_dup ?_
            refine jn_dup ?_
            refine ⟨fun c15 => ?_, fun c15 => ?_⟩
            · (try dsimp only)
              (try dsimp only)
              intro z77 ez77
              have vz77 := hI.fI 115 0 121 (by decide) rfl rfl rfl ez77
              have wz77 : z77.toInt = (sI σ64 h0 115).toInt := by rw [ez77]
              intro z78 ez78
              try have hz78 := i_sub ez78 (by omega) (by omega)
              have rg_z78 := i_range z78
              have i78 := hI.aI 78 130 0 121 (by decide) (by decide) rfl rfl rfl (i := z78.toInt) (by omega) rfl
              have q_ := hQ z78.toInt.toNat
              have r78 := congrArg Int32.toInt (f1σ64.2.1 78 (by decide) (by decide) z78.toInt.toNat).1
              have r79 := congrArg Int32.toInt (f1σ64.2.1 79 (by decide) (by decide) z78.toInt.toNat).1
              refine ⟨by omega, ?_⟩
              intro z79 ez79
              have vz79 := hI.aI 79 130 0 120 (by decide) (by decide) rfl rfl rfl (i := z78.toInt) (by omega) ez79
              have wz79 : z79.toInt = (sI σ64 (L 79) z78.toInt.toNat).toInt := by rw [ez79]
              intro z80 ez80
              try have hz80 := i_add ez80 (by omega) (by omega)
              have rg_z80 := i_range z80
              refine ⟨by omega, ?_⟩
              intro σ81 eσ81
              have hMp := hI.2
              have hI := hI.pA 79 0 120 (by decide) (by decide) rfl rfl (by omega) eσ81
              have hfr := hfr.aI hMp (by decide) eσ81 (by decide)
              have f1σ81 : Fr h0 L [] [79] σ64 σ81 := Fr.rf.aI hMp (by decide) eσ81 (by decide)
              have tk6 : (sI σ81 h0 115).toInt = (sI σ64 h0 115).toInt := by rw [(f1σ81.1 115 (by decide)).1]
              (try dsimp only)
              intro z71 ez71
              try have hz71 := i_add ez71 (by omega) (by omega)
              have rg_z71 := i_range z71
              exact hK15 (z71, 0) σ81 ⟨hI, hfr, (by (try dsimp only); omega), (fun o ho => by first | (have tt_ := congrArg Int32.toInt (f1σ64.2.1 78 (by decide) (by decide) o).1; have tt_ := congrArg Int32.toInt (f1σ64.2.1 79 (by decide) (by decide) o).1; have tt_ := congrArg Int32.toInt (f1σ81.2.1 78 (by decide) (by decide) o).1; have tt_ := atI eσ81 o; (try have q := hQ o); (try dsimp only at *); omega) | (by_cases e_ : o = z78.toInt.toNat; (subst e_; have tt_ := congrArg Int32.toInt (f1σ64.2.1 78 (by decide) (by decide) z78.toInt.toNat).1; have tt_ := congrArg Int32.toInt (f1σ64.2.1 79 (by decide) (by decide) z78.toInt.toNat).1; have tt_ := congrArg Int32.toInt (f1σ81.2.1 78 (by decide) (by decide) z78.toInt.toNat).1; have tt_ := atI eσ81 z78.toInt.toNat; (try dsimp only at *); omega); (have tt_ := congrArg Int32.toInt (f1σ64.2.1 78 (by decide) (by decide) o).1; have tt_ := congrArg Int32.toInt (f1σ64.2.1 79 (by decide) (by decide) o).1; have tt_ := congrArg Int32.toInt (f1σ81.2.1 78 (by decide) (by decide) o).1; have tt_ := atI eσ81 o; have q := hQ o; (try dsimp only at *); omega)))⟩ (by (try dsimp only); omega)
            · refine ⟨by omega, ?_⟩
              intro z87 ez87
              have vz87 := hI.aI 77 130 0 65535 (by decide) (by decide) rfl rfl rfl (i := x13.1.toInt) (by omega) ez87
              have wz87 : z87.toInt = (sI σ64 (L 77) x13.1.toInt.toNat).toInt := by rw [ez87]
              refine s_X12_isNameUnit hI z87  (fun z89 pz89 => ?_)
              have rg_z89 := i_range z89
              refine ⟨fun c16 => ?_, fun c16 => ?_⟩
              · (try dsimp only)
                (try dsimp only)
                intro z77 ez77
                have vz77 := hI.fI 115 0 121 (by decide) rfl rfl rfl ez77
                have wz77 : z77.toInt = (sI σ64 h0 115).toInt := by rw [ez77]
                intro z78 ez78
                try have hz78 := i_sub ez78 (by omega) (by omega)
                have rg_z78 := i_range z78
                have i78 := hI.aI 78 130 0 121 (by decide) (by decide) rfl rfl rfl (i := z78.toInt) (by omega) rfl
                have q_ := hQ z78.toInt.toNat
                have r78 := congrArg Int32.toInt (f1σ64.2.1 78 (by decide) (by decide) z78.toInt.toNat).1
                have r79 := congrArg Int32.toInt (f1σ64.2.1 79 (by decide) (by decide) z78.toInt.toNat).1
                refine ⟨by omega, ?_⟩
                intro z79 ez79
                have vz79 := hI.aI 79 130 0 120 (by decide) (by decide) rfl rfl rfl (i := z78.toInt) (by omega) ez79
                have wz79 : z79.toInt = (sI σ64 (L 79) z78.toInt.toNat).toInt := by rw [ez79]
                intro z80 ez80
                try have hz80 := i_add ez80 (by omega) (by omega)
                have rg_z80 := i_range z80
                refine ⟨by omega, ?_⟩
                intro σ81 eσ81
                have hMp := hI.2
                have hI := hI.pA 79 0 120 (by decide) (by decide) rfl rfl (by omega) eσ81
                have hfr := hfr.aI hMp (by decide) eσ81 (by decide)
                have f1σ81 : Fr h0 L [] [79] σ64 σ81 := Fr.rf.aI hMp (by decide) eσ81 (by decide)
                have tk7 : (sI σ81 h0 115).toInt = (sI σ64 h0 115).toInt := by rw [(f1σ81.1 115 (by decide)).1]
                (try dsimp only)
                intro z71 ez71
                try have hz71 := i_add ez71 (by omega) (by omega)
                have rg_z71 := i_range z71
                exact hK15 (z71, 0) σ81 ⟨hI, hfr, (by (try dsimp only); omega), (fun o ho => by first | (have tt_ := congrArg Int32.toInt (f1σ64.2.1 78 (by decide) (by decide) o).1; have tt_ := congrArg Int32.toInt (f1σ64.2.1 79 (by decide) (by decide) o).1; have tt_ := congrArg Int32.toInt (f1σ81.2.1 78 (by decide) (by decide) o).1; have tt_ := atI eσ81 o; (try have q := hQ o); (try dsimp only at *); omega) | (by_cases e_ : o = z78.toInt.toNat; (subst e_; have tt_ := congrArg Int32.toInt (f1σ64.2.1 78 (by decide) (by decide) z78.toInt.toNat).1; have tt_ := congrArg Int32.toInt (f1σ64.2.1 79 (by decide) (by decide) z78.toInt.toNat).1; have tt_ := congrArg Int32.toInt (f1σ81.2.1 78 (by decide) (by decide) z78.toInt.toNat).1; have tt_ := atI eσ81 z78.toInt.toNat; (try dsimp only at *); omega); (have tt_ := congrArg Int32.toInt (f1σ64.2.1 78 (by decide) (by decide) o).1; have tt_ := congrArg Int32.toInt (f1σ64.2.1 79 (by decide) (by decide) o).1; have tt_ := congrArg Int32.toInt (f1σ81.2.1 78 (by decide) (by decide) o).1; have tt_ := atI eσ81 o; have q := hQ o; (try dsimp only at *); omega)))⟩ (by (try dsimp only); omega)
              · (try dsimp only)
                intro z77 ez77
                have vz77 := hI.fI 115 0 121 (by decide) rfl rfl rfl ez77
                have wz77 : z77.toInt = (sI σ64 h0 115).toInt := by rw [ez77]
                intro z78 ez78
                try have hz78 := i_sub ez78 (by omega) (by omega)
                have rg_z78 := i_range z78
                have i78 := hI.aI 78 130 0 121 (by decide) (by decide) rfl rfl rfl (i := z78.toInt) (by omega) rfl
                have q_ := hQ z78.toInt.toNat
                have r78 := congrArg Int32.toInt (f1σ64.2.1 78 (by decide) (by decide) z78.toInt.toNat).1
                have r79 := congrArg Int32.toInt (f1σ64.2.1 79 (by decide) (by decide) z78.toInt.toNat).1
                refine ⟨by omega, ?_⟩
                intro z79 ez79
                have vz79 := hI.aI 79 130 0 120 (by decide) (by decide) rfl rfl rfl (i := z78.toInt) (by omega) ez79
                have wz79 : z79.toInt = (sI σ64 (L 79) z78.toInt.toNat).toInt := by rw [ez79]
                intro z80 ez80
                try have hz80 := i_add ez80 (by omega) (by omega)
                have rg_z80 := i_range z80
                refine ⟨by omega, ?_⟩
                intro σ81 eσ81
                have hMp := hI.2
                have hI := hI.pA 79 0 120 (by decide) (by decide) rfl rfl (by omega) eσ81
                have hfr := hfr.aI hMp (by decide) eσ81 (by decide)
                have f1σ81 : Fr h0 L [] [79] σ64 σ81 := Fr.rf.aI hMp (by decide) eσ81 (by decide)
                have tk8 : (sI σ81 h0 115).toInt = (sI σ64 h0 115).toInt := by rw [(f1σ81.1 115 (by decide)).1]
                (try dsimp only)
                intro z71 ez71
                try have hz71 := i_add ez71 (by omega) (by omega)
                have rg_z71 := i_range z71
                exact hK15 (z71, 1) σ81 ⟨hI, hfr, (by (try dsimp only); omega), (fun o ho => by first | (have tt_ := congrArg Int32.toInt (f1σ64.2.1 78 (by decide) (by decide) o).1; have tt_ := congrArg Int32.toInt (f1σ64.2.1 79 (by decide) (by decide) o).1; have tt_ := congrArg Int32.toInt (f1σ81.2.1 78 (by decide) (by decide) o).1; have tt_ := atI eσ81 o; (try have q := hQ o); (try dsimp only at *); omega) | (by_cases e_ : o = z78.toInt.toNat; (subst e_; have tt_ := congrArg Int32.toInt (f1σ64.2.1 78 (by decide) (by decide) z78.toInt.toNat).1; have tt_ := congrArg Int32.toInt (f1σ64.2.1 79 (by decide) (by decide) z78.toInt.toNat).1; have tt_ := congrArg Int32.toInt (f1σ81.2.1 78 (by decide) (by decide) z78.toInt.toNat).1; have tt_ := atI eσ81 z78.toInt.toNat; (try dsimp only at *); omega); (have tt_ := congrArg Int32.toInt (f1σ64.2.1 78 (by decide) (by decide) o).1; have tt_ := congrArg Int32.toInt (f1σ64.2.1 79 (by decide) (by decide) o).1; have tt_ := congrArg Int32.toInt (f1σ81.2.1 78 (by decide) (by decide) o).1; have tt_ := atI eσ81 o; have q := hQ o; (try dsimp only at *); omega)))⟩ (by (try dsimp only); omega)
          · intro z90 ez90
            have vz90 := hI.fI 115 0 121 (by decide) rfl rfl rfl ez90
            have wz90 : z90.toInt = (sI σ64 h0 115).toInt := by rw [ez90]
            intro z91 ez91
            try have hz91 := i_add ez91 (by omega) (by omega)
            have rg_z91 := i_range z91
            refine ⟨by omega, ?_⟩
            intro σ92 eσ92
            have hMp := hI.2
            have hI := hI.pA 78 0 121 (by decide) (by decide) rfl rfl (by omega) eσ92
            have hfr := hfr.aI hMp (by decide) eσ92 (by decide)
            have f1σ92 : Fr h0 L [] [78] σ64 σ92 := Fr.rf.aI hMp (by decide) eσ92 (by decide)
            have tk9 : (sI σ92 h0 115).toInt = (sI σ64 h0 115).toInt := by rw [(f1σ92.1 115 (by decide)).1]
            intro z93 ez93
            have vz93 := hI.fI 115 0 121 (by decide) rfl rfl rfl ez93
            have wz93 : z93.toInt = (sI σ92 h0 115).toInt := by rw [ez93]
            refine ⟨by omega, ?_⟩
            intro σ94 eσ94
            have hMp := hI.2
            have hI := hI.pA 79 0 120 (by decide) (by decide) rfl rfl (by omega) eσ94
            have hfr := hfr.aI hMp (by decide) eσ94 (by decide)
            have f1σ94 : Fr h0 L [] [79] σ92 σ94 := Fr.rf.aI hMp (by decide) eσ94 (by decide)
            have tk10 : (sI σ94 h0 115).toInt = (sI σ92 h0 115).toInt := by rw [(f1σ94.1 115 (by decide)).1]
            intro z95 ez95
            have vz95 := hI.fI 115 0 121 (by decide) rfl rfl rfl ez95
            have wz95 : z95.toInt = (sI σ94 h0 115).toInt := by rw [ez95]
            intro z96 ez96
            try have hz96 := i_add ez96 (by omega) (by omega)
            have rg_z96 := i_range z96
            intro σ97 eσ97
            have hMp := hI.2
            have hI := hI.pF 115 0 121 rfl rfl (by omega) eσ97
            have hfr := hfr.fI hMp eσ97 (by decide) rfl
            have uσ97 : (sI σ97 h0 115).toInt = z96.toInt := by rw [eσ97]; exact congrArg Int32.toInt u2_same
            have f1σ97 : Fr h0 L [115] [] σ94 σ97 := Fr.rf.fI hMp eσ97 (by decide) rfl
            (try dsimp only)
            intro z71 ez71
            try have hz71 := i_add ez71 (by omega) (by omega)
            have rg_z71 := i_range z71
            exact hK15 (z71, x13.2) σ97 ⟨hI, hfr, (by (try dsimp only); omega), (fun o ho => by first | (have tt_ := congrArg Int32.toInt (f1σ64.2.1 78 (by decide) (by decide) o).1; have tt_ := congrArg Int32.toInt (f1σ64.2.1 79 (by decide) (by decide) o).1; have tt_ := atI eσ92 o; have tt_ := congrArg Int32.toInt (f1σ92.2.1 79 (by decide) (by decide) o).1; have tt_ := congrArg Int32.toInt (f1σ94.2.1 78 (by decide) (by decide) o).1; have tt_ := atI eσ94 o; have tt_ := congrArg Int32.toInt (f1σ97.2.1 78 (by decide) (by decide) o).1; have tt_ := congrArg Int32.toInt (f1σ97.2.1 79 (by decide) (by decide) o).1; (try have q := hQ o); (try dsimp only at *); omega) | (by_cases e_ : o = z78.toInt.toNat; (subst e_; have tt_ := congrArg Int32.toInt (f1σ64.2.1 78 (by decide) (by decide) z78.toInt.toNat).1; have tt_ := congrArg Int32.toInt (f1σ64.2.1 79 (by decide) (by decide) z78.toInt.toNat).1; have tt_ := atI eσ92 z78.toInt.toNat; have tt_ := congrArg Int32.toInt (f1σ92.2.1 79 (by decide) (by decide) z78.toInt.toNat).1; have tt_ := congrArg Int32.toInt (f1σ94.2.1 78 (by decide) (by decide) z78.toInt.toNat).1; have tt_ := atI eσ94 z78.toInt.toNat; have tt_ := congrArg Int32.toInt (f1σ97.2.1 78 (by decide) (by decide) z78.toInt.toNat).1; have tt_ := congrArg Int32.toInt (f1σ97.2.1 79 (by decide) (by decide) z78.toInt.toNat).1; (try dsimp only at *); omega); (have tt_ := congrArg Int32.toInt (f1σ64.2.1 78 (by decide) (by decide) o).1; have tt_ := congrArg Int32.toInt (f1σ64.2.1 79 (by decide) (by decide) o).1; have tt_ := atI eσ92 o; have tt_ := congrArg Int32.toInt (f1σ92.2.1 79 (by decide) (by decide) o).1; have tt_ := congrArg Int32.toInt (f1σ94.2.1 78 (by decide) (by decide) o).1; have tt_ := atI eσ94 o; have tt_ := congrArg Int32.toInt (f1σ97.2.1 78 (by decide) (by decide) o).1; have tt_ := congrArg Int32.toInt (f1σ97.2.1 79 (by decide) (by decide) o).1; have q := hQ o; (try dsimp only at *); omega)))⟩ (by (try dsimp only); omega)
      · refine ⟨by omega, ?_⟩
        exact kk 1 σ9 hI hfr ⟨(by (try dsimp only); omega), fun hr o ho => by first | (exfalso; omega) | (have h1 := hQ o ho; have h2 := hA (by omega) o (by omega); omega)⟩
    · (try dsimp only)
      refine ⟨by omega, ?_⟩
      exact kk 0 σ hI hfr ⟨(by (try dsimp only); omega), fun hr o ho => by first | (exfalso; omega) | (have h1 := hQ o ho; have h2 := hA (by omega) o (by omega); omega)⟩

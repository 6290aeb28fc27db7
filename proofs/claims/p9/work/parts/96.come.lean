/-! what comes -/
set_option maxRecDepth 100000 in
set_option maxHeartbeats 4000000 in
theorem s_X12_come_ {h0 : Nat} {L : Nat → Nat} {σ : HS} (hI : OKM h0 L σ) (a1 : Int32) {B : Int} (hG : GI h0 L B σ) (hB : B + 2000000 < 4611686018427387904) (h30 : ∀ i : Nat, i < 6 → (sI σ (L 30) i).toInt ≤ 4003) {post : Int32 → HS → Prop} (kk : ∀ (r : Int32) (σ' : HS), OKM h0 L σ' → Fr h0 L [1, 16, 59, 60, 61, 62, 63, 69, 85, 86, 87, 88, 90, 91, 92, 93, 94, 95, 96, 97, 98, 99, 100, 101, 102, 103, 104, 105, 106, 107, 108, 109, 110, 111, 115, 116, 117, 118, 119] [1, 2, 3, 4, 5, 6, 7, 8, 9, 10, 14, 15, 16, 17, 18, 19, 20, 21, 22, 23, 24, 25, 26, 27, 28, 29, 30, 31, 32, 33, 34, 35, 36, 37, 38, 39, 40, 41, 42, 43, 44, 45, 46, 47, 48, 49, 50, 51, 52, 53, 54, 55, 56, 57, 58, 59, 60, 61, 62, 63, 64, 65, 66, 67, 68, 69, 70, 71, 72, 73, 74, 75, 76, 77, 78, 79] σ σ' → (GI h0 L (B + 800000) σ' ∧ (∀ i : Nat, i < 6 → (sI σ' (L 30) i).toInt ≤ 4003)) → post r σ') : F_X12_come_ h0 L a1 post σ := by
  unfold F_X12_come_
  have k_m1 : ((-1) : Int32).toInt = (-1) := rfl
  have k_0 : (0 : Int32).toInt = 0 := rfl
  have k_1 : (1 : Int32).toInt = 1 := rfl
  have k_2 : (2 : Int32).toInt = 2 := rfl
  have k_3 : (3 : Int32).toInt = 3 := rfl
  have k_4 : (4 : Int32).toInt = 4 := rfl
  have k_8 : (8 : Int32).toInt = 8 := rfl
  have k_16 : (16 : Int32).toInt = 16 := rfl
  have k_64 : (64 : Int32).toInt = 64 := rfl
  have k_255 : (255 : Int32).toInt = 255 := rfl
  have k_4000 : (4000 : Int32).toInt = 4000 := rfl
  have k_12100 : (12100 : Int32).toInt = 12100 := rfl
  have rg_a1 := i_range a1
  have hfr : Fr h0 L [1, 16, 59, 60, 61, 62, 63, 69, 85, 86, 87, 88, 90, 91, 92, 93, 94, 95, 96, 97, 98, 99, 100, 101, 102, 103, 104, 105, 106, 107, 108, 109, 110, 111, 115, 116, 117, 118, 119] [1, 2, 3, 4, 5, 6, 7, 8, 9, 10, 14, 15, 16, 17, 18, 19, 20, 21, 22, 23, 24, 25, 26, 27, 28, 29, 30, 31, 32, 33, 34, 35, 36, 37, 38, 39, 40, 41, 42, 43, 44, 45, 46, 47, 48, 49, 50, 51, 52, 53, 54, 55, 56, 57, 58, 59, 60, 61, 62, 63, 64, 65, 66, 67, 68, 69, 70, 71, 72, 73, 74, 75, 76, 77, 78, 79] σ σ := Fr.rf
  intro z1 ez1
  have vz1 := hI.fI 1 0 8000 (by decide) rfl rfl rfl ez1
  have wz1 : z1.toInt = (sI σ h0 1).toInt := by rw [ez1]
  intro σ2 eσ2
  have hMp := hI.2
  have hI := hI.pF 1 0 8000 rfl rfl (by omega) eσ2
  have hfr := hfr.fI hMp eσ2 (by decide) rfl
  have uσ2 : (sI σ2 h0 1).toInt = (0 : Int32).toInt := by rw [eσ2]; exact congrArg Int32.toInt u2_same
  have f1σ2 : Fr h0 L [1] [] σ σ2 := Fr.rf.fI hMp eσ2 (by decide) rfl
  have tk1 : (sI σ2 (L 30) a1.toInt.toNat).toInt = (sI σ (L 30) a1.toInt.toNat).toInt := by rw [(f1σ2.2.1 30 (by decide) (by decide) _).1]
  have tk2 : (sI σ2 (L 25) a1.toInt.toNat).toInt = (sI σ (L 25) a1.toInt.toNat).toInt := by rw [(f1σ2.2.1 25 (by decide) (by decide) _).1]
  have tk3 : (sI σ2 h0 16).toInt = (sI σ h0 16).toInt := by rw [(f1σ2.1 16 (by decide)).1]
  have hG := hG.fr f1σ2 (by decide) (by decide)
  refine s_X12_isLine hI a1  (fun z4 pz4 => ?_)
  have rg_z4 := i_range z4
  refine jn_dup ?_
  refine ⟨fun c1 => ?_, fun c1 => ?_⟩
  · (try dsimp only)
    exact kk (-1) σ2 hI hfr ⟨hG.mono (by omega), fun i hi => by first | exact h30 i hi | (rw [(f1σ2.2.1 30 (by decide) (by decide) i).1]; exact h30 i hi)⟩
  · refine ⟨by omega, ?_⟩
    intro z10 ez10
    have vz10 := hI.aI 25 6 0 1 (by decide) (by decide) rfl rfl rfl (i := a1.toInt) (by omega) ez10
    have wz10 : z10.toInt = (sI σ2 (L 25) a1.toInt.toNat).toInt := by rw [ez10]
    refine ⟨fun c2 => ?_, fun c2 => ?_⟩
    · intro z11 ez11
      try have hz11 := i_mulk 12100 rfl ez11 (by omega) (by omega)
      have rg_z11 := i_range z11
      have h30a := h30 a1.toInt.toNat (by omega)
      refine lw_in (fun (x : Int32) (σ' : HS) => OKM h0 L σ' ∧ Fr h0 L [1, 16, 59, 60, 61, 62, 63, 69, 85, 86, 87, 88, 90, 91, 92, 93, 94, 95, 96, 97, 98, 99, 100, 101, 102, 103, 104, 105, 106, 107, 108, 109, 110, 111, 115, 116, 117, 118, 119] [1, 2, 3, 4, 5, 6, 7, 8, 9, 10, 14, 15, 16, 17, 18, 19, 20, 21, 22, 23, 24, 25, 26, 27, 28, 29, 30, 31, 32, 33, 34, 35, 36, 37, 38, 39, 40, 41, 42, 43, 44, 45, 46, 47, 48, 49, 50, 51, 52, 53, 54, 55, 56, 57, 58, 59, 60, 61, 62, 63, 64, 65, 66, 67, 68, 69, 70, 71, 72, 73, 74, 75, 76, 77, 78, 79] σ σ' ∧ ((0 ≤ x.toInt ∧ x.toInt ≤ 8000) ∧ (x.toInt ≤ z1.toInt) ∧ ((sI σ' (L 30) a1.toInt.toNat).toInt ≤ 4003) ∧ ((sI σ' (L 25) a1.toInt.toNat).toInt = z10.toInt)) ∧ (GI h0 L B σ') ∧ (∀ i : Nat, i ≠ a1.toInt.toNat → (sI σ' (L 30) i).toInt = (sI σ (L 30) i).toInt)) (fun (x : Int32) (σ' : HS) => (8001 - x.toInt).toNat) ⟨hI, hfr, (by (try dsimp only); omega), hG, (fun i hi => congrArg Int32.toInt (f1σ2.2.1 30 (by decide) (by decide) i).1)⟩ (fun x12 σ13 hJ K14 hK14 => ?_)
      obtain ⟨hI, hfr, hv, hG, hO⟩ := hJ
      (try dsimp only at hv)
      have rg_x12 := i_range x12
      refine ⟨fun c3 => ?_, fun c3 => ?_⟩
      · refine ⟨by omega, ?_⟩
        intro z16 ez16
        have vz16 := hI.aI 30 6 0 12003 (by decide) (by decide) rfl rfl rfl (i := a1.toInt) (by omega) ez16
        have wz16 : z16.toInt = (sI σ13 (L 30) a1.toInt.toNat).toInt := by rw [ez16]
        intro z17 ez17
        try have hz17 := i_add ez17 (by omega) (by omega)
        have rg_z17 := i_range z17
        refine ⟨by omega, ?_⟩
        intro σ18 eσ18
        have hMp := hI.2
        have hI := hI.pA 30 0 12003 (by decide) (by decide) rfl rfl (by omega) eσ18
        have hfr := hfr.aI hMp (by decide) eσ18 (by decide)
        have f1σ18 : Fr h0 L [] [30] σ13 σ18 := Fr.rf.aI hMp (by decide) eσ18 (by decide)
        have tk4 := atI eσ18 a1.toInt.toNat
        have tk5 : (sI σ18 (L 25) a1.toInt.toNat).toInt = (sI σ13 (L 25) a1.toInt.toNat).toInt := by rw [(f1σ18.2.1 25 (by decide) (by decide) _).1]
        have tk6 : (sI σ18 h0 16).toInt = (sI σ13 h0 16).toInt := by rw [(f1σ18.1 16 (by decide)).1]
        have hG := hG.fr f1σ18 (by decide) (by decide)
        refine lw_in (fun (x : Int32 × Int32) (σ' : HS) => OKM h0 L σ' ∧ Fr h0 L [1, 16, 59, 60, 61, 62, 63, 69, 85, 86, 87, 88, 90, 91, 92, 93, 94, 95, 96, 97, 98, 99, 100, 101, 102, 103, 104, 105, 106, 107, 108, 109, 110, 111, 115, 116, 117, 118, 119] [1, 2, 3, 4, 5, 6, 7, 8, 9, 10, 14, 15, 16, 17, 18, 19, 20, 21, 22, 23, 24, 25, 26, 27, 28, 29, 30, 31, 32, 33, 34, 35, 36, 37, 38, 39, 40, 41, 42, 43, 44, 45, 46, 47, 48, 49, 50, 51, 52, 53, 54, 55, 56, 57, 58, 59, 60, 61, 62, 63, 64, 65, 66, 67, 68, 69, 70, 71, 72, 73, 74, 75, 76, 77, 78, 79] σ σ' ∧ ((0 ≤ x.1.toInt ∧ x.1.toInt ≤ 1) ∧ (0 ≤ (sI σ' (L 30) a1.toInt.toNat).toInt) ∧ ((sI σ' (L 30) a1.toInt.toNat).toInt ≤ 12003) ∧ (x.1.toInt = 0 → (sI σ' (L 30) a1.toInt.toNat).toInt ≤ 4003) ∧ ((sI σ' (L 25) a1.toInt.toNat).toInt = 0 → (sI σ' (L 30) a1.toInt.toNat).toInt ≤ 4003)) ∧ (GI h0 L (B + 60 * (12003 - (sI σ' (L 30) a1.toInt.toNat).toInt)) σ') ∧ (∀ i : Nat, i ≠ a1.toInt.toNat → (sI σ' (L 30) i).toInt = (sI σ (L 30) i).toInt)) (fun (x : Int32 × Int32) (σ' : HS) => (2 * (sI σ' (L 30) a1.toInt.toNat).toInt + x.1.toInt).toNat) ⟨hI, hfr, (by (try dsimp only); omega), (hG.mono (by (try dsimp only); omega)), (fun i hi => by rcases atI eσ18 i with ⟨a, b⟩ | ⟨a, b⟩; exact absurd a hi; exact b.trans (hO i hi))⟩ (fun x19 σ20 hJ K21 hK21 => ?_)
        obtain ⟨hI, hfr, hv, hG, hO⟩ := hJ
        (try dsimp only at hv)
        have rg_x19_1 := i_range x19.1
        have rg_x19_2 := i_range x19.2
        refine jn_dup ?_
        refine ⟨fun c4 => ?_, fun c4 => ?_⟩
        · (try dsimp only)
          exact kk x19.2 σ20 hI hfr ⟨hG.mono (by have i30 := hI.aI 30 6 0 12003 (by decide) (by decide) rfl rfl rfl (i := a1.toInt) (by omega) rfl; omega), fun i hi => by by_cases c : i = a1.toInt.toNat; (rw [c]; omega); (rw [hO i c]; exact h30 i hi)⟩
        · refine ⟨by omega, ?_⟩
          intro z28 ez28
          have vz28 := hI.aI 25 6 0 1 (by decide) (by decide) rfl rfl rfl (i := a1.toInt) (by omega) ez28
          have wz28 : z28.toInt = (sI σ20 (L 25) a1.toInt.toNat).toInt := by rw [ez28]
          refine ⟨fun c5 => ?_, fun c5 => ?_⟩
          · (try dsimp only)
            exact kk x19.2 σ20 hI hfr ⟨hG.mono (by have i30 := hI.aI 30 6 0 12003 (by decide) (by decide) rfl rfl rfl (i := a1.toInt) (by omega) rfl; omega), fun i hi => by by_cases c : i = a1.toInt.toNat; (rw [c]; omega); (rw [hO i c]; exact h30 i hi)⟩
          · refine ⟨by omega, ?_⟩
            intro z29 ez29
            have vz29 := hI.aI 30 6 0 12003 (by decide) (by decide) rfl rfl rfl (i := a1.toInt) (by omega) ez29
            have wz29 : z29.toInt = (sI σ20 (L 30) a1.toInt.toNat).toInt := by rw [ez29]
            refine ⟨fun c6 => ?_, fun c6 => ?_⟩
            · (try dsimp only)
              exact kk x19.2 σ20 hI hfr ⟨hG.mono (by have i30 := hI.aI 30 6 0 12003 (by decide) (by decide) rfl rfl rfl (i := a1.toInt) (by omega) rfl; omega), fun i hi => by by_cases c : i = a1.toInt.toNat; (rw [c]; omega); (rw [hO i c]; exact h30 i hi)⟩
            · intro z30 ez30
              try have hz30 := i_add ez30 (by omega) (by omega)
              have rg_z30 := i_range z30
              refine ⟨by omega, ?_⟩
              intro z31 ez31
              have vz31 := hI.aI 29 72600 (-128) 127 (by decide) (by decide) rfl rfl rfl (i := z30.toInt) (by omega) ez31
              have wz31 : z31.toInt = (sI σ20 (L 29) z30.toInt.toNat).toInt := by rw [ez31]
              intro z32 ez32
              try have hz32 := i_and ez32 (by omega)
              have rg_z32 := i_range z32
              intro z33 ez33
              have rg_z33 := i_range z33
              intro z34 ez34
              try have hz34 := i_add ez34 (by omega) (by omega)
              have rg_z34 := i_range z34
              refine ⟨by omega, ?_⟩
              intro z35 ez35
              have vz35 := hI.aI 29 72600 (-128) 127 (by decide) (by decide) rfl rfl rfl (i := z34.toInt) (by omega) ez35
              have wz35 : z35.toInt = (sI σ20 (L 29) z34.toInt.toNat).toInt := by rw [ez35]
              intro z36 ez36
              try have hz36 := i_and ez36 (by omega)
              have rg_z36 := i_range z36
              intro z37 ez37
              have rg_z37 := i_range z37
              intro z38 ez38
              try have hz38 := i_orm ez38 (by omega) (by omega)
              try have h2z38 := i_or ez38 (by omega) (by omega)
              have rg_z38 := i_range z38
              intro z39 ez39
              try have hz39 := i_add ez39 (by omega) (by omega)
              have rg_z39 := i_range z39
              refine ⟨by omega, ?_⟩
              intro z40 ez40
              have vz40 := hI.aI 29 72600 (-128) 127 (by decide) (by decide) rfl rfl rfl (i := z39.toInt) (by omega) ez40
              have wz40 : z40.toInt = (sI σ20 (L 29) z39.toInt.toNat).toInt := by rw [ez40]
              intro z41 ez41
              try have hz41 := i_and ez41 (by omega)
              have rg_z41 := i_range z41
              intro z42 ez42
              try have hz42 := i_orm ez42 (by omega) (by omega)
              try have h2z42 := i_or ez42 (by omega) (by omega)
              have rg_z42 := i_range z42
              refine ⟨by omega, ?_⟩
              intro z43 ez43
              have vz43 := hI.aI 29 72600 (-128) 127 (by decide) (by decide) rfl rfl rfl (i := z11.toInt) (by omega) ez43
              have wz43 : z43.toInt = (sI σ20 (L 29) z11.toInt.toNat).toInt := by rw [ez43]
              refine jn_dup ?_
              refine ⟨fun c7 => ?_, fun c7 => ?_⟩
              · (try dsimp only)
                have hIp := hI
                refine s2_X12_drops hI a1 hG (by omega) (by omega) (fun σ49 hI fz50 pz50 => ?_)
                have hfr := hfr.tr fz50 (by decide) (by decide)
                have hG := pz50.1
                intro z51 ez51
                try have hz51 := i_add ez51 (by omega) (by omega)
                have rg_z51 := i_range z51
                exact kk z51 σ49 hI hfr ⟨hG.mono (by omega), fun i hi => by by_cases c : i = a1.toInt.toNat; (rw [((pz50.2 i).1 c).2]; omega); (rw [(pz50.2 i).2 c, hO i c]; exact h30 i hi)⟩
              · refine ⟨fun c8 => ?_, fun c8 => ?_⟩
                · (try dsimp only)
                  have hIp := hI
                  refine s2_X12_drops hI a1 hG (by omega) (by omega) (fun σ49 hI fz50 pz50 => ?_)
                  have hfr := hfr.tr fz50 (by decide) (by decide)
                  have hG := pz50.1
                  intro z51 ez51
                  try have hz51 := i_add ez51 (by omega) (by omega)
                  have rg_z51 := i_range z51
                  exact kk z51 σ49 hI hfr ⟨hG.mono (by omega), fun i hi => by by_cases c : i = a1.toInt.toNat; (rw [((pz50.2 i).1 c).2]; omega); (rw [(pz50.2 i).2 c, hO i c]; exact h30 i hi)⟩
                · refine ⟨fun c9 => ?_, fun c9 => ?_⟩
                  · refine ⟨by omega, ?_⟩
                    intro z52 ez52
                    have vz52 := hI.aI 30 6 0 12003 (by decide) (by decide) rfl rfl rfl (i := a1.toInt) (by omega) ez52
                    have wz52 : z52.toInt = (sI σ20 (L 30) a1.toInt.toNat).toInt := by rw [ez52]
                    intro z53 ez53
                    try have hz53 := i_add ez53 (by omega) (by omega)
                    have rg_z53 := i_range z53
                    refine jn_in (fun (x : Int32) (σ' : HS) => σ20 = σ' ∧ ((0 ≤ x.toInt ∧ x.toInt ≤ 1) ∧ ((x.toInt = 0 ∧ z52.toInt < z53.toInt) ∨ (x.toInt = 1 ∧ z53.toInt ≤ z52.toInt)))) (fun x54 σ55 hJ => ?_) (fun K56 hK56 => ?_)
                    · obtain ⟨hsg, hv⟩ := hJ
                      subst hsg
                      (try dsimp only at hv)
                      have rg_x54 := i_range x54
                      refine jn_dup ?_
                      refine ⟨fun c10 => ?_, fun c10 => ?_⟩
                      · (try dsimp only)
                        exact hK21 (x54, x19.2) σ20 ⟨hI, hfr, (by (try dsimp only); omega), (hG.mono (by (try dsimp only); omega)), hO⟩ (by (try dsimp only); omega)
                      · intro z64 ez64
                        try have hz64 := i_add ez64 (by omega) (by omega)
                        have rg_z64 := i_range z64
                        intro z65 ez65
                        try have hz65 := i_add ez65 (by omega) (by omega)
                        have rg_z65 := i_range z65
                        have hIp := hI
                        have i30 := hI.aI 30 6 0 12003 (by decide) (by decide) rfl rfl rfl (i := a1.toInt) (by omega) rfl
                        refine s_X12_message hI a1 z65 z42 hG (by omega) (by omega) (fun σ66 hI fz67 pz67 => ?_)
                        have hfr := hfr.tr fz67 (by decide) (by decide)
                        have mm : ((sI σ66 (L 30) a1.toInt.toNat).toInt = (sI σ20 (L 30) a1.toInt.toNat).toInt ∧ (sI σ66 (L 25) a1.toInt.toNat).toInt = (sI σ20 (L 25) a1.toInt.toNat).toInt) ∨ ((sI σ66 (L 25) a1.toInt.toNat).toInt = 0 ∧ (sI σ66 (L 30) a1.toInt.toNat).toInt = 0) := by rcases pz67.2 with q | q; exact Or.inl ⟨by rw [q.1], by rw [q.2]⟩; exact Or.inr ⟨((q a1.toInt.toNat).1 rfl).1, ((q a1.toInt.toNat).1 rfl).2⟩
                        have hG := pz67.1
                        refine ⟨by omega, ?_⟩
                        intro z68 ez68
                        have vz68 := hI.aI 25 6 0 1 (by decide) (by decide) rfl rfl rfl (i := a1.toInt) (by omega) ez68
                        have wz68 : z68.toInt = (sI σ66 (L 25) a1.toInt.toNat).toInt := by rw [ez68]
                        refine ⟨fun c11 => ?_, fun c11 => ?_⟩
                        · (try dsimp only)
                          exact hK21 (x54, z64) σ66 ⟨hI, hfr, (by (try dsimp only); omega), (hG.mono (by (try dsimp only); omega)), (fun i hi => ((by rcases pz67.2 with q | q; exact congrArg Int32.toInt (congrFun q.1 i); exact (q i).2 hi : (sI σ66 (L 30) i).toInt = (sI σ20 (L 30) i).toInt).trans (hO i hi)))⟩ (by (try dsimp only); omega)
                        · refine ⟨by omega, ?_⟩
                          intro z69 ez69
                          have vz69 := hI.aI 30 6 0 12003 (by decide) (by decide) rfl rfl rfl (i := a1.toInt) (by omega) ez69
                          have wz69 : z69.toInt = (sI σ66 (L 30) a1.toInt.toNat).toInt := by rw [ez69]
                          intro z70 ez70
                          try have hz70 := i_add ez70 (by omega) (by omega)
                          have rg_z70 := i_range z70
                          intro z71 ez71
                          try have hz71 := i_sub ez71 (by omega) (by omega)
                          have rg_z71 := i_range z71
                          refine ⟨by omega, ?_⟩
                          intro σ72 eσ72
                          have hMp := hI.2
                          have hI := hI.pA 30 0 12003 (by decide) (by decide) rfl rfl (by omega) eσ72
                          have hfr := hfr.aI hMp (by decide) eσ72 (by decide)
                          have f1σ72 : Fr h0 L [] [30] σ66 σ72 := Fr.rf.aI hMp (by decide) eσ72 (by decide)
                          have tk16 := atI eσ72 a1.toInt.toNat
                          have tk17 : (sI σ72 (L 25) a1.toInt.toNat).toInt = (sI σ66 (L 25) a1.toInt.toNat).toInt := by rw [(f1σ72.2.1 25 (by decide) (by decide) _).1]
                          have tk18 : (sI σ72 h0 16).toInt = (sI σ66 h0 16).toInt := by rw [(f1σ72.1 16 (by decide)).1]
                          have hG := hG.fr f1σ72 (by decide) (by decide)
                          refine lw_in (fun (x : Int32) (σ' : HS) => OKM h0 L σ' ∧ Fr h0 L [1, 16, 59, 60, 61, 62, 63, 69, 85, 86, 87, 88, 90, 91, 92, 93, 94, 95, 96, 97, 98, 99, 100, 101, 102, 103, 104, 105, 106, 107, 108, 109, 110, 111, 115, 116, 117, 118, 119] [1, 2, 3, 4, 5, 6, 7, 8, 9, 10, 14, 15, 16, 17, 18, 19, 20, 21, 22, 23, 24, 25, 26, 27, 28, 29, 30, 31, 32, 33, 34, 35, 36, 37, 38, 39, 40, 41, 42, 43, 44, 45, 46, 47, 48, 49, 50, 51, 52, 53, 54, 55, 56, 57, 58, 59, 60, 61, 62, 63, 64, 65, 66, 67, 68, 69, 70, 71, 72, 73, 74, 75, 76, 77, 78, 79] σ σ' ∧ ((0 ≤ x.toInt ∧ x.toInt ≤ 12003) ∧ ((sI σ' (L 30) a1.toInt.toNat).toInt = z71.toInt) ∧ ((sI σ' (L 25) a1.toInt.toNat).toInt = z68.toInt) ∧ (x.toInt ≤ z71.toInt) ∧ (0 ≤ z71.toInt) ∧ (z71.toInt + 4 + z42.toInt ≤ 12003)) ∧ (GI h0 L (B + 60 * (12003 - z71.toInt)) σ') ∧ (∀ i : Nat, i ≠ a1.toInt.toNat → (sI σ' (L 30) i).toInt = (sI σ (L 30) i).toInt)) (fun (x : Int32) (σ' : HS) => (z71.toInt - x.toInt).toNat) ⟨hI, hfr, (by (try dsimp only); omega), (hG.mono (by (try dsimp only); omega)), (fun i hi => by rcases atI eσ72 i with ⟨a, b⟩ | ⟨a, b⟩; exact absurd a hi; exact b.trans ((by rcases pz67.2 with q | q; exact congrArg Int32.toInt (congrFun q.1 i); exact (q i).2 hi : (sI σ66 (L 30) i).toInt = (sI σ20 (L 30) i).toInt).trans (hO i hi)))⟩ (fun x73 σ74 hJ K75 hK75 => ?_)
                          obtain ⟨hI, hfr, hv, hG, hO⟩ := hJ
                          (try dsimp only at hv)
                          have rg_x73 := i_range x73
                          refine ⟨by omega, ?_⟩
                          intro z77 ez77
                          have vz77 := hI.aI 30 6 0 12003 (by decide) (by decide) rfl rfl rfl (i := a1.toInt) (by omega) ez77
                          have wz77 : z77.toInt = (sI σ74 (L 30) a1.toInt.toNat).toInt := by rw [ez77]
                          refine ⟨fun c12 => ?_, fun c12 => ?_⟩
                          · (try dsimp only)
                            exact hK21 (x54, z64) σ74 ⟨hI, hfr, (by (try dsimp only); omega), (hG.mono (by (try dsimp only); omega)), hO⟩ (by (try dsimp only); omega)
                          · intro z78 ez78
                            try have hz78 := i_add ez78 (by omega) (by omega)
                            have rg_z78 := i_range z78
                            intro z79 ez79
                            try have hz79 := i_add ez79 (by omega) (by omega)
                            have rg_z79 := i_range z79
                            intro z80 ez80
                            try have hz80 := i_add ez80 (by omega) (by omega)
                            have rg_z80 := i_range z80
                            intro z81 ez81
                            try have hz81 := i_add ez81 (by omega) (by omega)
                            have rg_z81 := i_range z81
                            refine ⟨by omega, ?_⟩
                            intro z82 ez82
                            have vz82 := hI.aI 29 72600 (-128) 127 (by decide) (by decide) rfl rfl rfl (i := z81.toInt) (by omega) ez82
                            have wz82 : z82.toInt = (sI σ74 (L 29) z81.toInt.toNat).toInt := by rw [ez82]
                            refine ⟨by omega, ?_⟩
                            intro σ83 eσ83
                            have hMp := hI.2
                            have hI := hI.pA 29 (-128) 127 (by decide) (by decide) rfl rfl (i_byte _) eσ83
                            have hfr := hfr.aI hMp (by decide) eσ83 (by decide)
                            have f1σ83 : Fr h0 L [] [29] σ74 σ83 := Fr.rf.aI hMp (by decide) eσ83 (by decide)
                            have tk19 : (sI σ83 (L 30) a1.toInt.toNat).toInt = (sI σ74 (L 30) a1.toInt.toNat).toInt := by rw [(f1σ83.2.1 30 (by decide) (by decide) _).1]
                            have tk20 : (sI σ83 (L 25) a1.toInt.toNat).toInt = (sI σ74 (L 25) a1.toInt.toNat).toInt := by rw [(f1σ83.2.1 25 (by decide) (by decide) _).1]
                            have tk21 : (sI σ83 h0 16).toInt = (sI σ74 h0 16).toInt := by rw [(f1σ83.1 16 (by decide)).1]
                            have hG := hG.fr f1σ83 (by decide) (by decide)
                            intro z84 ez84
                            try have hz84 := i_add ez84 (by omega) (by omega)
                            have rg_z84 := i_range z84
                            exact hK75 z84 σ83 ⟨hI, hfr, (by (try dsimp only); omega), (hG.mono (by (try dsimp only); omega)), (fun i hi => (congrArg Int32.toInt (f1σ83.2.1 30 (by decide) (by decide) i).1).trans (hO i hi))⟩ (by (try dsimp only); omega)
                    · skip
                      refine ⟨fun c13 => ?_, fun c13 => ?_⟩
                      · exact hK56 0 σ20 ⟨rfl, (by (try dsimp only); omega)⟩
                      · exact hK56 1 σ20 ⟨rfl, (by (try dsimp only); omega)⟩
                  · (try dsimp only)
                    have hIp := hI
                    refine s2_X12_drops hI a1 hG (by omega) (by omega) (fun σ49 hI fz50 pz50 => ?_)
                    have hfr := hfr.tr fz50 (by decide) (by decide)
                    have hG := pz50.1
                    intro z51 ez51
                    try have hz51 := i_add ez51 (by omega) (by omega)
                    have rg_z51 := i_range z51
                    exact kk z51 σ49 hI hfr ⟨hG.mono (by omega), fun i hi => by by_cases c : i = a1.toInt.toNat; (rw [((pz50.2 i).1 c).2]; omega); (rw [(pz50.2 i).2 c, hO i c]; exact h30 i hi)⟩
      · refine ⟨by omega, ?_⟩
        intro z85 ez85
        have vz85 := hI.aI 30 6 0 12003 (by decide) (by decide) rfl rfl rfl (i := a1.toInt) (by omega) ez85
        have wz85 : z85.toInt = (sI σ13 (L 30) a1.toInt.toNat).toInt := by rw [ez85]
        intro z86 ez86
        try have hz86 := i_add ez86 (by omega) (by omega)
        have rg_z86 := i_range z86
        intro z87 ez87
        try have hz87 := i_add ez87 (by omega) (by omega)
        have rg_z87 := i_range z87
        refine ⟨by omega, ?_⟩
        intro z88 ez88
        have vz88 := hI.aI 0 8000 (-128) 127 (by decide) (by decide) rfl rfl rfl (i := x12.toInt) (by omega) ez88
        have wz88 : z88.toInt = (sI σ13 (L 0) x12.toInt.toNat).toInt := by rw [ez88]
        refine ⟨by omega, ?_⟩
        intro σ89 eσ89
        have hMp := hI.2
        have hI := hI.pA 29 (-128) 127 (by decide) (by decide) rfl rfl (i_byte _) eσ89
        have hfr := hfr.aI hMp (by decide) eσ89 (by decide)
        have f1σ89 : Fr h0 L [] [29] σ13 σ89 := Fr.rf.aI hMp (by decide) eσ89 (by decide)
        have tk25 : (sI σ89 (L 30) a1.toInt.toNat).toInt = (sI σ13 (L 30) a1.toInt.toNat).toInt := by rw [(f1σ89.2.1 30 (by decide) (by decide) _).1]
        have tk26 : (sI σ89 (L 25) a1.toInt.toNat).toInt = (sI σ13 (L 25) a1.toInt.toNat).toInt := by rw [(f1σ89.2.1 25 (by decide) (by decide) _).1]
        have tk27 : (sI σ89 h0 16).toInt = (sI σ13 h0 16).toInt := by rw [(f1σ89.1 16 (by decide)).1]
        have hG := hG.fr f1σ89 (by decide) (by decide)
        intro z90 ez90
        try have hz90 := i_add ez90 (by omega) (by omega)
        have rg_z90 := i_range z90
        exact hK14 z90 σ89 ⟨hI, hfr, (by (try dsimp only); omega), hG, (fun i hi => (congrArg Int32.toInt (f1σ89.2.1 30 (by decide) (by decide) i).1).trans (hO i hi))⟩ (by (try dsimp only); omega)
    · (try dsimp only)
      exact kk (-1) σ2 hI hfr ⟨hG.mono (by omega), fun i hi => by first | exact h30 i hi | (rw [(f1σ2.2.1 30 (by decide) (by decide) i).1]; exact h30 i hi)⟩

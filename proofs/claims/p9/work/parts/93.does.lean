/-! what a request does -/
section R93
variable {h0 : Nat} {L : Nat → Nat} {σ σ' : HS} {B : Int} {fs js : List Nat}
theorem GI.wt1 (hG : GI h0 L B σ) (hI : OKM h0 L σ) (f : Fr h0 L fs js σ σ') (h1 : nof fs [16, 61] = true) (h2 : nof js GJM = true) (h : Wt1 h0 L σ σ') (hc : (sI σ h0 93).toInt ≠ 5) (hT : 0 ≤ rts L σ (sI σ (L 40) (sI σ h0 99).toInt.toNat).toInt.toNat) : GI h0 L (B + 1) σ' := by
  rcases h.1 with e | ⟨e, r, e1, e2, e3⟩
  · refine (hG.sub hI f ⟨by omega, fun w hw => ⟨w, by omega, h.2 w (by omega)⟩⟩ h1 h2).mono (by omega)
  · refine hG.wait hI f h1 h2 e h.2 (fun r' hr' => ?_)
    have : r' = r := by omega
    subst this
    refine ⟨?_, fun q => absurd (e2.symm.trans q) hc⟩
    rw [rts_ff f (nof_n h2 (by decide)), sI_ff f (by decide) (nof_n h2 (by decide)), e3]
    exact hT
theorem Bd.fr (h : Bd h0 L σ) (f : Fr h0 L fs js σ σ') (h1 : 85 ∉ fs) (h2 : 86 ∉ fs) (h3 : 87 ∉ fs) (h4 : 93 ∉ fs) (h5 : 29 ∉ js) (h6 : 75 ∉ js) : Bd h0 L σ' := by
  unfold Bd
  simp only [NUM_fr f h1 h2 h5 h6]
  rw [(f.1 87 h3).1, (f.1 93 h4).1]
  exact h
end R93
/-- where a request tells its file -/
def FO (c r : Int) : Prop := (r = 0 ∨ r = 72 ∨ r = 80 ∨ r = 88) ∧ (c = 6 ∨ c = 7 ∨ c = 10 ∨ c = 14 ∨ c = 18 → r = 72) ∧ (c = 8 ∨ c = 9 ∨ c = 17 → r = 80) ∧ (c = 16 → r = 88) ∧ (r = 88 → c = 16) ∧ (r = 80 → c = 8 ∨ c = 9 ∨ c = 17) ∧ (r = 72 → c = 6 ∨ c = 7 ∨ c = 10 ∨ c = 14 ∨ c = 18)
set_option maxRecDepth 100000 in
set_option maxHeartbeats 4000000 in
theorem s2_X12_fileOf {h0 : Nat} {L : Nat → Nat} {σ : HS} (hI : OKM h0 L σ) (a0 : Int32)  {post : Int32 → HS → Prop} (kk : ∀ (r : Int32) (_ : FO a0.toInt r.toInt), post r σ) : F_X12_fileOf h0 L a0 post σ := by
  unfold F_X12_fileOf
  have k_0 : (0 : Int32).toInt = 0 := rfl
  have k_72 : (72 : Int32).toInt = 72 := rfl
  have k_80 : (80 : Int32).toInt = 80 := rfl
  have k_88 : (88 : Int32).toInt = 88 := rfl
  have rg_a0 := i_range a0
  refine jn_dup ?_
  refine jn_dup ?_
  refine jn_dup ?_
  refine ⟨fun c1 => ?_, fun c1 => ?_, fun c1 => ?_, fun c1 => ?_, fun c1 => ?_, fun c1 => ?_, fun c1 => ?_, fun c1 => ?_, fun c1 => ?_, fun c1 => ?_, fun c1 => ?_, fun c1 => ?_, fun c1 => ?_, fun c1 => ?_⟩
  · (try dsimp only)
    exact kk 0 (by unfold FO; omega)
  · (try dsimp only)
    exact kk 72 (by unfold FO; omega)
  · (try dsimp only)
    exact kk 72 (by unfold FO; omega)
  · (try dsimp only)
    exact kk 80 (by unfold FO; omega)
  · (try dsimp only)
    exact kk 80 (by unfold FO; omega)
  · (try dsimp only)
    exact kk 72 (by unfold FO; omega)
  · (try dsimp only)
    exact kk 0 (by unfold FO; omega)
  · (try dsimp only)
    exact kk 0 (by unfold FO; omega)
  · (try dsimp only)
    exact kk 0 (by unfold FO; omega)
  · (try dsimp only)
    exact kk 72 (by unfold FO; omega)
  · (try dsimp only)
    exact kk 0 (by unfold FO; omega)
  · exact kk 88 (by unfold FO; omega)
  · (try dsimp only)
    exact kk 80 (by unfold FO; omega)
  · (try dsimp only)
    exact kk 72 (by unfold FO; omega)
set_option maxRecDepth 100000 in
set_option maxHeartbeats 4000000 in
theorem s2_X12_flush {h0 : Nat} {L : Nat → Nat} {σ : HS} (hI : OKM h0 L σ)  {B : Int} (hG : GI h0 L B σ) (hz : 0 ≤ (sI σ h0 100).toInt) {post : Int64 → HS → Prop} (kk : ∀ (r : Int64) (σ' : HS), OKM h0 L σ' → Fr h0 L [16, 91] [1, 2, 3, 4, 5, 6, 7, 8, 9, 76] σ σ' → (GI h0 L B σ') → post r σ') : F_X12_flush h0 L  post σ := by
  unfold F_X12_flush
  have k_0 : (0 : Int32).toInt = 0 := rfl
  have k_4 : (4 : Int32).toInt = 4 := rfl
  have k_6 : (6 : Int32).toInt = 6 := rfl
  have kl_3221225506 : (3221225506 : Int64).toInt = 3221225506 := rfl
  have hfr : Fr h0 L [16, 91] [1, 2, 3, 4, 5, 6, 7, 8, 9, 76] σ σ := Fr.rf
  intro z1 ez1
  have vz1 := hI.fI 100 (-1) 39 (by decide) rfl rfl rfl ez1
  have wz1 : z1.toInt = (sI σ h0 100).toInt := by rw [ez1, (hfr.1 100 (by decide)).1]
  refine ⟨by omega, ?_⟩
  intro z2 ez2
  have vz2 := hI.aI 44 40 (-2147483648) 2147483647 (by decide) (by decide) rfl rfl rfl (i := z1.toInt) (by omega) ez2
  have wz2 : z2.toInt = (sI σ (L 44) z1.toInt.toNat).toInt := by rw [ez2, (hfr.2.1 44 (by decide) (by decide) _).1]
  intro z3 ez3
  try have hz3 := i_and ez3 (by omega)
  have rg_z3 := i_range z3
  refine ⟨fun c1 => ?_, fun c1 => ?_⟩
  · have hIp := hI
    refine s_X12_allCome hI  hG.allCome (fun σ4 hI fz5 pz5 => ?_)
    have hfr := hfr.tr fz5 (by decide) (by decide)
    have hG := hG.come hIp fz5 pz5.1 pz5.2
    have hIp := hI
    refine s_X12_small hI 4 (by omega) (fun z7 σ6 hI fz7 pz7 => ?_)
    have hfr := hfr.tr fz7 (by decide) (by decide)
    have tk2 : (sI σ6 h0 16).toInt = (sI σ4 h0 16).toInt := by rw [(fz7.1 16 (by decide)).1]
    have hG := hG.fr fz7 (by decide) (by decide)
    exact kk z7 σ6 hI hfr hG
  · exact kk 3221225506 σ hI hfr hG
set_option maxRecDepth 100000 in
set_option maxHeartbeats 4000000 in
theorem s_X12_does {h0 : Nat} {L : Nat → Nat} {σ : HS} (hI : OKM h0 L σ)  {B : Int} (hG : GI h0 L B σ) (hN : InM h0 L σ (sI σ h0 87).toInt) (p85 : sP σ h0 85 = some (L 29)) (hB : B < 4611686018427387904) (hz : 64 ≤ (sI σ h0 87).toInt ∧ (sI σ h0 93).toInt ≠ 12) {post : Int64 → HS → Prop} (kk : ∀ (r : Int64) (σ' : HS), OKM h0 L σ' → Fr h0 L [16, 59, 60, 61, 62, 63, 69, 90, 91, 96, 97, 98, 99, 100, 101, 102, 103, 109, 111, 115, 116, 117, 118, 119] [1, 2, 3, 4, 5, 6, 7, 8, 9, 10, 14, 15, 16, 17, 18, 19, 20, 21, 22, 23, 24, 26, 27, 28, 34, 35, 36, 37, 38, 39, 40, 41, 42, 43, 44, 45, 46, 47, 48, 49, 50, 51, 52, 53, 54, 55, 56, 57, 58, 59, 60, 61, 62, 63, 64, 65, 66, 67, 68, 69, 70, 71, 72, 73, 74, 75, 76, 77, 78, 79] σ σ' → (GI h0 L (B + 1) σ') → post r σ') : F_X12_does h0 L  post σ := by
  unfold F_X12_does
  have k_m1 : ((-1) : Int32).toInt = (-1) := rfl
  have k_0 : (0 : Int32).toInt = 0 := rfl
  have k_1 : (1 : Int32).toInt = 1 := rfl
  have k_2 : (2 : Int32).toInt = 2 := rfl
  have k_3 : (3 : Int32).toInt = 3 := rfl
  have k_4 : (4 : Int32).toInt = 4 := rfl
  have k_8 : (8 : Int32).toInt = 8 := rfl
  have k_11 : (11 : Int32).toInt = 11 := rfl
  have k_13 : (13 : Int32).toInt = 13 := rfl
  have k_15 : (15 : Int32).toInt = 15 := rfl
  have k_18 : (18 : Int32).toInt = 18 := rfl
  have kl_3221225485 : (3221225485 : Int64).toInt = 3221225485 := rfl
  have kl_3221225659 : (3221225659 : Int64).toInt = 3221225659 := rfl
  have kl_3221225673 : (3221225673 : Int64).toInt = 3221225673 := rfl
  have kl_3221225768 : (3221225768 : Int64).toInt = 3221225768 := rfl
  have kl_3221225987 : (3221225987 : Int64).toInt = 3221225987 := rfl
  have hfr : Fr h0 L [16, 59, 60, 61, 62, 63, 69, 90, 91, 96, 97, 98, 99, 100, 101, 102, 103, 109, 111, 115, 116, 117, 118, 119] [1, 2, 3, 4, 5, 6, 7, 8, 9, 10, 14, 15, 16, 17, 18, 19, 20, 21, 22, 23, 24, 26, 27, 28, 34, 35, 36, 37, 38, 39, 40, 41, 42, 43, 44, 45, 46, 47, 48, 49, 50, 51, 52, 53, 54, 55, 56, 57, 58, 59, 60, 61, 62, 63, 64, 65, 66, 67, 68, 69, 70, 71, 72, 73, 74, 75, 76, 77, 78, 79] σ σ := Fr.rf
  have h87 : (0 : Int) ≤ (sI σ h0 87).toInt ∧ (sI σ h0 87).toInt ≤ 4000 := hI.fI 87 0 4000 (by decide) rfl rfl rfl rfl
  intro z1 ez1
  have vz1 := hI.fI 93 0 65535 (by decide) rfl rfl rfl ez1
  have wz1 : z1.toInt = (sI σ h0 93).toInt := by rw [ez1, (hfr.1 93 (by decide)).1]
  refine s2_X12_fileOf hI z1  (fun z3 pz3 => ?_)
  have rg_z3 := i_range z3
  intro σ4 eσ4
  have hMp := hI.2
  have hI := hI.pF 98 (-1) 7 rfl rfl (by omega) eσ4
  have hfr := hfr.fI hMp eσ4 (by decide) rfl
  have uσ4 : (sI σ4 h0 98).toInt = ((-1) : Int32).toInt := by rw [eσ4]; exact congrArg Int32.toInt u2_same
  have f1σ4 : Fr h0 L [98] [] σ σ4 := Fr.rf.fI hMp eσ4 (by decide) rfl
  have tk2 : (sI σ4 h0 99).toInt = (sI σ h0 99).toInt := by rw [(f1σ4.1 99 (by decide)).1]
  have tk3 : (sI σ4 h0 100).toInt = (sI σ h0 100).toInt := by rw [(f1σ4.1 100 (by decide)).1]
  have tk4 : (sI σ4 h0 16).toInt = (sI σ h0 16).toInt := by rw [(f1σ4.1 16 (by decide)).1]
  have hG := hG.fr f1σ4 (by decide) (by decide)
  intro σ5 eσ5
  have hMp := hI.2
  have hI := hI.pF 99 (-1) 15 rfl rfl (by omega) eσ5
  have hfr := hfr.fI hMp eσ5 (by decide) rfl
  have uσ5 : (sI σ5 h0 99).toInt = ((-1) : Int32).toInt := by rw [eσ5]; exact congrArg Int32.toInt u2_same
  have f1σ5 : Fr h0 L [99] [] σ4 σ5 := Fr.rf.fI hMp eσ5 (by decide) rfl
  have tk5 : (sI σ5 h0 98).toInt = (sI σ4 h0 98).toInt := by rw [(f1σ5.1 98 (by decide)).1]
  have tk7 : (sI σ5 h0 100).toInt = (sI σ4 h0 100).toInt := by rw [(f1σ5.1 100 (by decide)).1]
  have tk8 : (sI σ5 h0 16).toInt = (sI σ4 h0 16).toInt := by rw [(f1σ5.1 16 (by decide)).1]
  have hG := hG.fr f1σ5 (by decide) (by decide)
  intro z6 ez6
  have vz6 := hI.fI 93 0 65535 (by decide) rfl rfl rfl ez6
  have wz6 : z6.toInt = (sI σ h0 93).toInt := by rw [ez6, (hfr.1 93 (by decide)).1]
  refine jn_in (fun (x : Unit) (σ' : HS) => OKM h0 L σ' ∧ Fr h0 L [16, 59, 60, 61, 62, 63, 69, 90, 91, 96, 97, 98, 99, 100, 101, 102, 103, 109, 111, 115, 116, 117, 118, 119] [1, 2, 3, 4, 5, 6, 7, 8, 9, 10, 14, 15, 16, 17, 18, 19, 20, 21, 22, 23, 24, 26, 27, 28, 34, 35, 36, 37, 38, 39, 40, 41, 42, 43, 44, 45, 46, 47, 48, 49, 50, 51, 52, 53, 54, 55, 56, 57, 58, 59, 60, 61, 62, 63, 64, 65, 66, 67, 68, 69, 70, 71, 72, 73, 74, 75, 76, 77, 78, 79] σ σ' ∧ (((sI σ h0 93).toInt = 0 ∨ (sI σ h0 93).toInt = 1 ∨ (sI σ h0 93).toInt = 13 ∨ (0 ≤ (sI σ' h0 98).toInt ∧ ((sI σ h0 93).toInt = 2 ∨ (sI σ h0 93).toInt = 3 ∨ 0 ≤ (sI σ' h0 99).toInt)))) ∧ ((sI σ h0 93).toInt = 0 ∨ (sI σ h0 93).toInt = 1 ∨ (sI σ h0 93).toInt = 13 ∨ (sI σ h0 93).toInt = 2 ∨ (sI σ h0 93).toInt = 3 ∨ 0 ≤ rts L σ' (sI σ' (L 40) (sI σ' h0 99).toInt.toNat).toInt.toNat) ∧ (GI h0 L B σ')) (fun x7 σ8 hJ => ?_) (fun K9 hK9 => ?_)
  · obtain ⟨hI, hfr, hv, hTx, hG⟩ := hJ
    (try dsimp only at hv)
    intro z12 ez12
    have vz12 := hI.fI 93 0 65535 (by decide) rfl rfl rfl ez12
    have wz12 : z12.toInt = (sI σ h0 93).toInt := by rw [ez12, (hfr.1 93 (by decide)).1]
    refine jn_dup ?_
    refine ⟨fun c1 => ?_, fun c1 => ?_⟩
    · (try dsimp only)
      exact kk 3221225659 σ8 hI hfr (hG.mono (by omega))
    · intro z18 ez18
      have vz18 := hI.fI 93 0 65535 (by decide) rfl rfl rfl ez18
      have wz18 : z18.toInt = (sI σ h0 93).toInt := by rw [ez18, (hfr.1 93 (by decide)).1]
      refine ⟨fun c2 => ?_, fun c2 => ?_⟩
      · (try dsimp only)
        exact kk 3221225659 σ8 hI hfr (hG.mono (by omega))
      · intro z19 ez19
        have vz19 := hI.fI 93 0 65535 (by decide) rfl rfl rfl ez19
        have wz19 : z19.toInt = (sI σ h0 93).toInt := by rw [ez19, (hfr.1 93 (by decide)).1]
        refine ⟨fun c3 => ?_, fun c3 => ?_⟩
        · refine s_X12_isBody hI  (by rw [(hfr.1 87 (by decide)).1]; exact hN.fr hfr (by decide) (by decide)) (fun z21 pz21 => ?_)
          have rg_z21 := i_range z21
          refine ⟨fun c4 => ?_, fun c4 => ?_⟩
          · have hb8 : Bd h0 L σ8 := pz21.2 (by omega)
            have hfr8 := hfr
            clear pz21
            refine jn_in (fun (x : Unit) (σ' : HS) => OKM h0 L σ' ∧ Fr h0 L [16, 59, 60, 61, 62, 63, 69, 90, 91, 96, 97, 98, 99, 100, 101, 102, 103, 109, 111, 115, 116, 117, 118, 119] [1, 2, 3, 4, 5, 6, 7, 8, 9, 10, 14, 15, 16, 17, 18, 19, 20, 21, 22, 23, 24, 26, 27, 28, 34, 35, 36, 37, 38, 39, 40, 41, 42, 43, 44, 45, 46, 47, 48, 49, 50, 51, 52, 53, 54, 55, 56, 57, 58, 59, 60, 61, 62, 63, 64, 65, 66, 67, 68, 69, 70, 71, 72, 73, 74, 75, 76, 77, 78, 79] σ σ' ∧ (((sI σ h0 93).toInt = 0 ∨ (sI σ h0 93).toInt = 1 ∨ (sI σ h0 93).toInt = 13 ∨ (0 ≤ (sI σ' h0 98).toInt ∧ ((sI σ h0 93).toInt = 2 ∨ (sI σ h0 93).toInt = 3 ∨ 0 ≤ (sI σ' h0 99).toInt)))) ∧ ((sI σ h0 93).toInt = 0 ∨ (sI σ h0 93).toInt = 1 ∨ (sI σ h0 93).toInt = 13 ∨ (sI σ h0 93).toInt = 2 ∨ (sI σ h0 93).toInt = 3 ∨ 0 ≤ rts L σ' (sI σ' (L 40) (sI σ' h0 99).toInt.toNat).toInt.toNat) ∧ (Bd h0 L σ') ∧ (z3.toInt ≤ 0 ∨ (0 ≤ (sI σ' h0 100).toInt ∧ (sJ σ' (L 41) (sI σ' h0 100).toInt.toNat).toInt ≠ 0)) ∧ (GI h0 L B σ')) (fun x22 σ23 hJ => ?_) (fun K24 hK24 => ?_)
            · obtain ⟨hI, hfr, hv, hTx, hb, ho, hG⟩ := hJ
              (try dsimp only at hv)
              have hN23 : InM h0 L σ23 (sI σ23 h0 87).toInt := by rw [(hfr.1 87 (by decide)).1]; exact hN.fr hfr (by decide) (by decide)
              have q85 : sP σ23 h0 85 = some (L 29) := by rw [(hfr.1 85 (by decide)).2.2]; exact p85
              have b93 := congrArg Int32.toInt (hfr.1 93 (by decide)).1
              intro z27 ez27
              have vz27 := hI.fI 93 0 65535 (by decide) rfl rfl rfl ez27
              have wz27 : z27.toInt = (sI σ h0 93).toInt := by rw [ez27, (hfr.1 93 (by decide)).1]
              refine jn_dup ?_
              refine ⟨fun c5 => ?_, fun c5 => ?_, fun c5 => ?_, fun c5 => ?_, fun c5 => ?_, fun c5 => ?_, fun c5 => ?_, fun c5 => ?_, fun c5 => ?_, fun c5 => ?_, fun c5 => ?_, fun c5 => ?_, fun c5 => ?_, fun c5 => ?_, fun c5 => ?_, fun c5 => ?_, fun c5 => ?_, fun c5 => ?_, fun c5 => ?_⟩
              · (try dsimp only)
                have hIp := hI
                have ck : (sI σ23 h0 93).toInt = 18 := by omega
                have b5 := hb.2.2.2.2.2.1 (by omega)
                have z3v : 72 ≤ z3.toInt := by have fo := pz3.2.1 (by omega); omega
                have ho2 : (0 ≤ (sI σ23 h0 100).toInt ∧ (sJ σ23 (L 41) (sI σ23 h0 100).toInt.toNat).toInt ≠ 0) := by rcases ho with h | h; (exfalso; omega); exact h
                refine s_X12_broken hI  hG hN23 hB (by omega) (fun z34 σ33 hI fz34 pz34 => ?_)
                have hfr := hfr.tr fz34 (by decide) (by decide)
                have tk9 : (sI σ33 h0 98).toInt = (sI σ23 h0 98).toInt := by rw [(fz34.1 98 (by decide)).1]
                have tk10 : (sI σ33 h0 99).toInt = (sI σ23 h0 99).toInt := by rw [(fz34.1 99 (by decide)).1]
                have tk11 : (sI σ33 h0 100).toInt = (sI σ23 h0 100).toInt := by rw [(fz34.1 100 (by decide)).1]
                have hG := pz34
                exact kk z34 σ33 hI hfr (hG.mono (by omega))
              · have hIp := hI
                have ck : (sI σ23 h0 93).toInt = 0 := by omega
                have b1 := hb.2.1 (by omega)
                have b10 := hb.2.2.2.2.2.2.2.2.2.2.1 (by omega)
                refine s_X12_negotiate hI  hN23 (by omega) (fun z36 σ35 hI fz36 pz36 => ?_)
                have hfr := hfr.tr fz36 (by decide) (by decide)
                have tk13 : (sI σ35 h0 98).toInt = (sI σ23 h0 98).toInt := by rw [(fz36.1 98 (by decide)).1]
                have tk14 : (sI σ35 h0 99).toInt = (sI σ23 h0 99).toInt := by rw [(fz36.1 99 (by decide)).1]
                have tk15 : (sI σ35 h0 100).toInt = (sI σ23 h0 100).toInt := by rw [(fz36.1 100 (by decide)).1]
                have tk16 : (sI σ35 h0 16).toInt = (sI σ23 h0 16).toInt := by rw [(fz36.1 16 (by decide)).1]
                have hG := hG.fr fz36 (by decide) (by decide)
                exact kk z36 σ35 hI hfr (hG.mono (by omega))
              · have hIp := hI
                have ck : (sI σ23 h0 93).toInt = 1 := by omega
                have b2 := hb.2.2.1 (by omega)
                have b11 := hb.2.2.2.2.2.2.2.2.2.2.2.1 (by omega)
                refine s_X12_setUp hI  hG hN23 hB (by omega) (fun z38 σ37 hI fz38 pz38 => ?_)
                have hfr := hfr.tr fz38 (by decide) (by decide)
                have tk17 : (sI σ37 h0 98).toInt = (sI σ23 h0 98).toInt := by rw [(fz38.1 98 (by decide)).1]
                have tk18 : (sI σ37 h0 99).toInt = (sI σ23 h0 99).toInt := by rw [(fz38.1 99 (by decide)).1]
                have tk19 : (sI σ37 h0 100).toInt = (sI σ23 h0 100).toInt := by rw [(fz38.1 100 (by decide)).1]
                have hG := pz38
                exact kk z38 σ37 hI hfr (hG.mono (by omega))
              · intro z39 ez39
                have vz39 := hI.fI 98 (-1) 7 (by decide) rfl rfl rfl ez39
                have wz39 : z39.toInt = (sI σ23 h0 98).toInt := by rw [ez39]
                have hIp := hI
                refine s_X12_endSession hI z39 hG hB (by omega) (fun σ40 hI fz41 pz41 => ?_)
                have hfr := hfr.tr fz41 (by decide) (by decide)
                have tk21 : (sI σ40 h0 98).toInt = (sI σ23 h0 98).toInt := by rw [(fz41.1 98 (by decide)).1]
                have tk22 : (sI σ40 h0 99).toInt = (sI σ23 h0 99).toInt := by rw [(fz41.1 99 (by decide)).1]
                have tk23 : (sI σ40 h0 100).toInt = (sI σ23 h0 100).toInt := by rw [(fz41.1 100 (by decide)).1]
                have hG := pz41.1
                have hIp := hI
                refine s_X12_small hI 4 (by omega) (fun z43 σ42 hI fz43 pz43 => ?_)
                have hfr := hfr.tr fz43 (by decide) (by decide)
                have tk25 : (sI σ42 h0 98).toInt = (sI σ40 h0 98).toInt := by rw [(fz43.1 98 (by decide)).1]
                have tk26 : (sI σ42 h0 99).toInt = (sI σ40 h0 99).toInt := by rw [(fz43.1 99 (by decide)).1]
                have tk27 : (sI σ42 h0 100).toInt = (sI σ40 h0 100).toInt := by rw [(fz43.1 100 (by decide)).1]
                have tk28 : (sI σ42 h0 16).toInt = (sI σ40 h0 16).toInt := by rw [(fz43.1 16 (by decide)).1]
                have hG := hG.fr fz43 (by decide) (by decide)
                exact kk z43 σ42 hI hfr (hG.mono (by omega))
              · have hIp := hI
                have ck : (sI σ23 h0 93).toInt = 3 := by omega
                have b3 := hb.2.2.2.1 (by omega)
                have b12 := hb.2.2.2.2.2.2.2.2.2.2.2.2.1 (by omega)
                refine s_X12_connectTree hI  hG hN23 (by omega) (fun z45 σ44 hI fz45 pz45 => ?_)
                have hfr := hfr.tr fz45 (by decide) (by decide)
                have tk29 : (sI σ44 h0 98).toInt = (sI σ23 h0 98).toInt := by rw [(fz45.1 98 (by decide)).1]
                have tk30 : (sI σ44 h0 99).toInt = (sI σ23 h0 99).toInt := by rw [(fz45.1 99 (by decide)).1]
                have tk31 : (sI σ44 h0 100).toInt = (sI σ23 h0 100).toInt := by rw [(fz45.1 100 (by decide)).1]
                have tk32 : (sI σ44 h0 16).toInt = (sI σ23 h0 16).toInt := by rw [(fz45.1 16 (by decide)).1]
                have hG := pz45
                exact kk z45 σ44 hI hfr (hG.mono (by omega))
              · intro z46 ez46
                have vz46 := hI.fI 99 (-1) 15 (by decide) rfl rfl rfl ez46
                have wz46 : z46.toInt = (sI σ23 h0 99).toInt := by rw [ez46]
                have hIp := hI
                refine s_X12_endTree hI z46 hG hB (by omega) (fun σ47 hI fz48 pz48 => ?_)
                have hfr := hfr.tr fz48 (by decide) (by decide)
                have tk33 : (sI σ47 h0 98).toInt = (sI σ23 h0 98).toInt := by rw [(fz48.1 98 (by decide)).1]
                have tk34 : (sI σ47 h0 99).toInt = (sI σ23 h0 99).toInt := by rw [(fz48.1 99 (by decide)).1]
                have tk35 : (sI σ47 h0 100).toInt = (sI σ23 h0 100).toInt := by rw [(fz48.1 100 (by decide)).1]
                have hG := pz48.1
                have hIp := hI
                refine s_X12_small hI 4 (by omega) (fun z50 σ49 hI fz50 pz50 => ?_)
                have hfr := hfr.tr fz50 (by decide) (by decide)
                have tk37 : (sI σ49 h0 98).toInt = (sI σ47 h0 98).toInt := by rw [(fz50.1 98 (by decide)).1]
                have tk38 : (sI σ49 h0 99).toInt = (sI σ47 h0 99).toInt := by rw [(fz50.1 99 (by decide)).1]
                have tk39 : (sI σ49 h0 100).toInt = (sI σ47 h0 100).toInt := by rw [(fz50.1 100 (by decide)).1]
                have tk40 : (sI σ49 h0 16).toInt = (sI σ47 h0 16).toInt := by rw [(fz50.1 16 (by decide)).1]
                have hG := hG.fr fz50 (by decide) (by decide)
                exact kk z50 σ49 hI hfr (hG.mono (by omega))
              · have hIp := hI
                have ck : (sI σ23 h0 93).toInt = 5 := by omega
                have b4 := hb.2.2.2.2.1 (by omega)
                have b13 := hb.2.2.2.2.2.2.2.2.2.2.2.2.2.1 (by omega)
                have hT2 : 0 ≤ rts L σ23 (sI σ23 (L 40) (sI σ23 h0 99).toInt.toNat).toInt.toNat := by rcases hTx with h | h | h | h | h | h <;> first | exact h | (exfalso; omega)
                refine s_X12_create hI (-1) hG hN23 hT2 (by omega) (fun _ => q85) hB (by omega) (fun z52 σ51 hI fz52 pz52 => ?_)
                have hfr := hfr.tr fz52 (by decide) (by decide)
                have tk41 : (sI σ51 h0 98).toInt = (sI σ23 h0 98).toInt := by rw [(fz52.1 98 (by decide)).1]
                have tk42 : (sI σ51 h0 99).toInt = (sI σ23 h0 99).toInt := by rw [(fz52.1 99 (by decide)).1]
                have tk43 : (sI σ51 h0 100).toInt = (sI σ23 h0 100).toInt := by rw [(fz52.1 100 (by decide)).1]
                exact kk z52 σ51 hI hfr pz52.1
              · have hIp := hI
                have ck : (sI σ23 h0 93).toInt = 6 := by omega
                have b5 := hb.2.2.2.2.2.1 (by omega)
                have z3v : 72 ≤ z3.toInt := by have fo := pz3.2.1 (by omega); omega
                have ho2 : (0 ≤ (sI σ23 h0 100).toInt ∧ (sJ σ23 (L 41) (sI σ23 h0 100).toInt.toNat).toInt ≠ 0) := by rcases ho with h | h; (exfalso; omega); exact h
                refine s_X12_close hI  hG hN23 hB (by omega) (fun z54 σ53 hI fz54 pz54 => ?_)
                have hfr := hfr.tr fz54 (by decide) (by decide)
                have tk45 : (sI σ53 h0 98).toInt = (sI σ23 h0 98).toInt := by rw [(fz54.1 98 (by decide)).1]
                have tk46 : (sI σ53 h0 99).toInt = (sI σ23 h0 99).toInt := by rw [(fz54.1 99 (by decide)).1]
                have tk47 : (sI σ53 h0 100).toInt = (sI σ23 h0 100).toInt := by rw [(fz54.1 100 (by decide)).1]
                have hG := pz54
                exact kk z54 σ53 hI hfr (hG.mono (by omega))
              · have hIp := hI
                have ck : (sI σ23 h0 93).toInt = 7 := by omega
                have b5 := hb.2.2.2.2.2.1 (by omega)
                have z3v : 72 ≤ z3.toInt := by have fo := pz3.2.1 (by omega); omega
                have ho2 : (0 ≤ (sI σ23 h0 100).toInt ∧ (sJ σ23 (L 41) (sI σ23 h0 100).toInt.toNat).toInt ≠ 0) := by rcases ho with h | h; (exfalso; omega); exact h
                refine s2_X12_flush hI  hG (by omega) (fun z56 σ55 hI fz56 pz56 => ?_)
                have hfr := hfr.tr fz56 (by decide) (by decide)
                have tk49 : (sI σ55 h0 98).toInt = (sI σ23 h0 98).toInt := by rw [(fz56.1 98 (by decide)).1]
                have tk50 : (sI σ55 h0 99).toInt = (sI σ23 h0 99).toInt := by rw [(fz56.1 99 (by decide)).1]
                have tk51 : (sI σ55 h0 100).toInt = (sI σ23 h0 100).toInt := by rw [(fz56.1 100 (by decide)).1]
                have hG := pz56
                exact kk z56 σ55 hI hfr (hG.mono (by omega))
              · have hIp := hI
                have ck : (sI σ23 h0 93).toInt = 8 := by omega
                have b6 := hb.2.2.2.2.2.2.1 (by omega)
                have z3v : 72 ≤ z3.toInt := by have fo := pz3.2.2.1 (by omega); omega
                have ho2 : (0 ≤ (sI σ23 h0 100).toInt ∧ (sJ σ23 (L 41) (sI σ23 h0 100).toInt.toNat).toInt ≠ 0) := by rcases ho with h | h; (exfalso; omega); exact h
                refine s_X12_read hI  hN23 (by omega) (fun z58 σ57 hI fz58 pz58 => ?_)
                have hfr := hfr.tr fz58 (by decide) (by decide)
                have tk53 : (sI σ57 h0 98).toInt = (sI σ23 h0 98).toInt := by rw [(fz58.1 98 (by decide)).1]
                have tk54 : (sI σ57 h0 99).toInt = (sI σ23 h0 99).toInt := by rw [(fz58.1 99 (by decide)).1]
                have tk55 : (sI σ57 h0 100).toInt = (sI σ23 h0 100).toInt := by rw [(fz58.1 100 (by decide)).1]
                have tk56 : (sI σ57 h0 16).toInt = (sI σ23 h0 16).toInt := by rw [(fz58.1 16 (by decide)).1]
                have hG := hG.fr fz58 (by decide) (by decide)
                exact kk z58 σ57 hI hfr (hG.mono (by omega))
              · have hIp := hI
                have ck : (sI σ23 h0 93).toInt = 9 := by omega
                have b6 := hb.2.2.2.2.2.2.1 (by omega)
                have b14 := hb.2.2.2.2.2.2.2.2.2.2.2.2.2.2.1 (by omega)
                have z3v : 72 ≤ z3.toInt := by have fo := pz3.2.2.1 (by omega); omega
                have ho2 : (0 ≤ (sI σ23 h0 100).toInt ∧ (sJ σ23 (L 41) (sI σ23 h0 100).toInt.toNat).toInt ≠ 0) := by rcases ho with h | h; (exfalso; omega); exact h
                refine s_X12_write hI  hG hN23 (by omega) (fun z60 σ59 hI fz60 pz60 => ?_)
                have hfr := hfr.tr fz60 (by decide) (by decide)
                have tk57 : (sI σ59 h0 98).toInt = (sI σ23 h0 98).toInt := by rw [(fz60.1 98 (by decide)).1]
                have tk58 : (sI σ59 h0 99).toInt = (sI σ23 h0 99).toInt := by rw [(fz60.1 99 (by decide)).1]
                have tk59 : (sI σ59 h0 100).toInt = (sI σ23 h0 100).toInt := by rw [(fz60.1 100 (by decide)).1]
                have hG := pz60
                exact kk z60 σ59 hI hfr (hG.mono (by omega))
              · have hIp := hI
                have ck : (sI σ23 h0 93).toInt = 10 := by omega
                have b7 := hb.2.2.2.2.2.2.2.1 (by omega)
                have z3v : 72 ≤ z3.toInt := by have fo := pz3.2.1 (by omega); omega
                have ho2 : (0 ≤ (sI σ23 h0 100).toInt ∧ (sJ σ23 (L 41) (sI σ23 h0 100).toInt.toNat).toInt ≠ 0) := by rcases ho with h | h; (exfalso; omega); exact h
                have hT2 : 0 ≤ rts L σ23 (sI σ23 (L 40) (sI σ23 h0 99).toInt.toNat).toInt.toNat := by rcases hTx with h | h | h | h | h | h <;> first | exact h | (exfalso; omega)
                refine s_X12_lock hI  hN23 (by omega) (fun z62 σ61 hI fz62 pz62 => ?_)
                have hfr := hfr.tr fz62 (by decide) (by decide)
                have tk61 : (sI σ61 h0 98).toInt = (sI σ23 h0 98).toInt := by rw [(fz62.1 98 (by decide)).1]
                have tk62 : (sI σ61 h0 99).toInt = (sI σ23 h0 99).toInt := by rw [(fz62.1 99 (by decide)).1]
                have tk63 : (sI σ61 h0 100).toInt = (sI σ23 h0 100).toInt := by rw [(fz62.1 100 (by decide)).1]
                have tk64 : (sI σ61 h0 16).toInt = (sI σ23 h0 16).toInt := by rw [(fz62.1 16 (by decide)).1]
                have hG23 := hG
                exact kk z62 σ61 hI hfr (by rcases pz62 with h | h; exact (hG23.sub hIp fz62 h (by decide) (by decide)).mono (by omega); exact hG23.wt1 hIp fz62 (by decide) (by decide) h (by omega) hT2)
              · (try dsimp only)
                have hIp := hI
                have ck : (sI σ23 h0 93).toInt = 18 := by omega
                have b5 := hb.2.2.2.2.2.1 (by omega)
                have z3v : 72 ≤ z3.toInt := by have fo := pz3.2.1 (by omega); omega
                have ho2 : (0 ≤ (sI σ23 h0 100).toInt ∧ (sJ σ23 (L 41) (sI σ23 h0 100).toInt.toNat).toInt ≠ 0) := by rcases ho with h | h; (exfalso; omega); exact h
                refine s_X12_broken hI  hG hN23 hB (by omega) (fun z34 σ33 hI fz34 pz34 => ?_)
                have hfr := hfr.tr fz34 (by decide) (by decide)
                have tk65 : (sI σ33 h0 98).toInt = (sI σ23 h0 98).toInt := by rw [(fz34.1 98 (by decide)).1]
                have tk66 : (sI σ33 h0 99).toInt = (sI σ23 h0 99).toInt := by rw [(fz34.1 99 (by decide)).1]
                have tk67 : (sI σ33 h0 100).toInt = (sI σ23 h0 100).toInt := by rw [(fz34.1 100 (by decide)).1]
                have hG := pz34
                exact kk z34 σ33 hI hfr (hG.mono (by omega))
              · (try dsimp only)
                have hIp := hI
                have ck : (sI σ23 h0 93).toInt = 18 := by omega
                have b5 := hb.2.2.2.2.2.1 (by omega)
                have z3v : 72 ≤ z3.toInt := by have fo := pz3.2.1 (by omega); omega
                have ho2 : (0 ≤ (sI σ23 h0 100).toInt ∧ (sJ σ23 (L 41) (sI σ23 h0 100).toInt.toNat).toInt ≠ 0) := by rcases ho with h | h; (exfalso; omega); exact h
                refine s_X12_broken hI  hG hN23 hB (by omega) (fun z34 σ33 hI fz34 pz34 => ?_)
                have hfr := hfr.tr fz34 (by decide) (by decide)
                have tk69 : (sI σ33 h0 98).toInt = (sI σ23 h0 98).toInt := by rw [(fz34.1 98 (by decide)).1]
                have tk70 : (sI σ33 h0 99).toInt = (sI σ23 h0 99).toInt := by rw [(fz34.1 99 (by decide)).1]
                have tk71 : (sI σ33 h0 100).toInt = (sI σ23 h0 100).toInt := by rw [(fz34.1 100 (by decide)).1]
                have hG := pz34
                exact kk z34 σ33 hI hfr (hG.mono (by omega))
              · have hIp := hI
                refine s_X12_small hI 4 (by omega) (fun z64 σ63 hI fz64 pz64 => ?_)
                have hfr := hfr.tr fz64 (by decide) (by decide)
                have tk73 : (sI σ63 h0 98).toInt = (sI σ23 h0 98).toInt := by rw [(fz64.1 98 (by decide)).1]
                have tk74 : (sI σ63 h0 99).toInt = (sI σ23 h0 99).toInt := by rw [(fz64.1 99 (by decide)).1]
                have tk75 : (sI σ63 h0 100).toInt = (sI σ23 h0 100).toInt := by rw [(fz64.1 100 (by decide)).1]
                have tk76 : (sI σ63 h0 16).toInt = (sI σ23 h0 16).toInt := by rw [(fz64.1 16 (by decide)).1]
                have hG := hG.fr fz64 (by decide) (by decide)
                exact kk z64 σ63 hI hfr (hG.mono (by omega))
              · have hIp := hI
                have ck : (sI σ23 h0 93).toInt = 14 := by omega
                have b8 := hb.2.2.2.2.2.2.2.2.1 (by omega)
                have b15 := hb.2.2.2.2.2.2.2.2.2.2.2.2.2.2.2.1 (by omega)
                have z3v : 72 ≤ z3.toInt := by have fo := pz3.2.1 (by omega); omega
                have ho2 : (0 ≤ (sI σ23 h0 100).toInt ∧ (sJ σ23 (L 41) (sI σ23 h0 100).toInt.toNat).toInt ≠ 0) := by rcases ho with h | h; (exfalso; omega); exact h
                refine s_X12_list hI  hN23 (by omega) (fun z66 σ65 hI fz66 pz66 => ?_)
                have hfr := hfr.tr fz66 (by decide) (by decide)
                have tk77 : (sI σ65 h0 98).toInt = (sI σ23 h0 98).toInt := by rw [(fz66.1 98 (by decide)).1]
                have tk78 : (sI σ65 h0 99).toInt = (sI σ23 h0 99).toInt := by rw [(fz66.1 99 (by decide)).1]
                have tk79 : (sI σ65 h0 100).toInt = (sI σ23 h0 100).toInt := by rw [(fz66.1 100 (by decide)).1]
                have tk80 : (sI σ65 h0 16).toInt = (sI σ23 h0 16).toInt := by rw [(fz66.1 16 (by decide)).1]
                have hG := hG.fr fz66 (by decide) (by decide)
                exact kk z66 σ65 hI hfr (hG.mono (by omega))
              · (try dsimp only)
                have hIp := hI
                have ck : (sI σ23 h0 93).toInt = 18 := by omega
                have b5 := hb.2.2.2.2.2.1 (by omega)
                have z3v : 72 ≤ z3.toInt := by have fo := pz3.2.1 (by omega); omega
                have ho2 : (0 ≤ (sI σ23 h0 100).toInt ∧ (sJ σ23 (L 41) (sI σ23 h0 100).toInt.toNat).toInt ≠ 0) := by rcases ho with h | h; (exfalso; omega); exact h
                refine s_X12_broken hI  hG hN23 hB (by omega) (fun z34 σ33 hI fz34 pz34 => ?_)
                have hfr := hfr.tr fz34 (by decide) (by decide)
                have tk81 : (sI σ33 h0 98).toInt = (sI σ23 h0 98).toInt := by rw [(fz34.1 98 (by decide)).1]
                have tk82 : (sI σ33 h0 99).toInt = (sI σ23 h0 99).toInt := by rw [(fz34.1 99 (by decide)).1]
                have tk83 : (sI σ33 h0 100).toInt = (sI σ23 h0 100).toInt := by rw [(fz34.1 100 (by decide)).1]
                have hG := pz34
                exact kk z34 σ33 hI hfr (hG.mono (by omega))
              · have hIp := hI
                have ck : (sI σ23 h0 93).toInt = 16 := by omega
                have b9 := hb.2.2.2.2.2.2.2.2.2.1 (by omega)
                have z3v : 72 ≤ z3.toInt := by have fo := pz3.2.2.2.1 (by omega); omega
                have ho2 : (0 ≤ (sI σ23 h0 100).toInt ∧ (sJ σ23 (L 41) (sI σ23 h0 100).toInt.toNat).toInt ≠ 0) := by rcases ho with h | h; (exfalso; omega); exact h
                refine s_X12_ask hI  hN23 (by omega) (fun z68 σ67 hI fz68 pz68 => ?_)
                have hfr := hfr.tr fz68 (by decide) (by decide)
                have tk85 : (sI σ67 h0 98).toInt = (sI σ23 h0 98).toInt := by rw [(fz68.1 98 (by decide)).1]
                have tk86 : (sI σ67 h0 99).toInt = (sI σ23 h0 99).toInt := by rw [(fz68.1 99 (by decide)).1]
                have tk87 : (sI σ67 h0 100).toInt = (sI σ23 h0 100).toInt := by rw [(fz68.1 100 (by decide)).1]
                have tk88 : (sI σ67 h0 16).toInt = (sI σ23 h0 16).toInt := by rw [(fz68.1 16 (by decide)).1]
                have hG := hG.fr fz68 (by decide) (by decide)
                exact kk z68 σ67 hI hfr (hG.mono (by omega))
              · have hIp := hI
                have ck : (sI σ23 h0 93).toInt = 17 := by omega
                have b8 := hb.2.2.2.2.2.2.2.2.1 (by omega)
                have b16 := hb.2.2.2.2.2.2.2.2.2.2.2.2.2.2.2.2 (by omega)
                have z3v : 72 ≤ z3.toInt := by have fo := pz3.2.2.1 (by omega); omega
                have ho2 : (0 ≤ (sI σ23 h0 100).toInt ∧ (sJ σ23 (L 41) (sI σ23 h0 100).toInt.toNat).toInt ≠ 0) := by rcases ho with h | h; (exfalso; omega); exact h
                have hT2 : 0 ≤ rts L σ23 (sI σ23 (L 40) (sI σ23 h0 99).toInt.toNat).toInt.toNat := by rcases hTx with h | h | h | h | h | h <;> first | exact h | (exfalso; omega)
                refine s_X12_setInfo hI  hG hN23 hT2 (by omega) (fun z70 σ69 hI fz70 pz70 => ?_)
                have hfr := hfr.tr fz70 (by decide) (by decide)
                have tk89 : (sI σ69 h0 98).toInt = (sI σ23 h0 98).toInt := by rw [(fz70.1 98 (by decide)).1]
                have tk90 : (sI σ69 h0 99).toInt = (sI σ23 h0 99).toInt := by rw [(fz70.1 99 (by decide)).1]
                have tk91 : (sI σ69 h0 100).toInt = (sI σ23 h0 100).toInt := by rw [(fz70.1 100 (by decide)).1]
                have hG := pz70
                exact kk z70 σ69 hI hfr (hG.mono (by omega))
            · skip
              refine ⟨fun c6 => ?_, fun c6 => ?_⟩
              · exact hK24 () σ8 ⟨hI, hfr, (by (try dsimp only); omega), (by first | exact hTx | omega | (refine Or.inr (Or.inr (Or.inr (Or.inr (Or.inr ?_)))); rw [show (sI σ126 h0 99).toInt = z125.toInt by omega]; exact hG.2.2.1 z125.toInt.toNat (by omega) (by rw [sJ_ff f1σ126 (by decide) (by decide)]; exact pz125.2.2 (by omega))) | (rw [show (sI σ93 h0 99).toInt = (sI σ8 h0 99).toInt by omega, rts_ff (fS.tr f1σ93 (by decide) (by decide)) (by decide), sI_ff (fS.tr f1σ93 (by decide) (by decide)) (by decide) (by decide)]; exact hTx)), (by first | exact hb8 | exact hb8.fr (fS.tr f1σ93 (by decide) (by decide)) (by decide) (by decide) (by decide) (by decide) (by decide) (by decide)), (by first | (left; omega) | (right; rw [show (sI σ93 h0 100).toInt = x88.toInt by omega]; exact ⟨by omega, by rw [(f1σ93.2.1 41 (by decide) (by decide) _).2]; omega⟩)), hG⟩
              · refine ⟨by omega, ?_⟩
                intro σ71 eσ71
                have hMp := hI.2
                have hI := hI.pF 103 0 1 rfl rfl (by omega) eσ71
                have hfr := hfr.fI hMp eσ71 (by decide) rfl
                have uσ71 : (sI σ71 h0 103).toInt = (1 : Int32).toInt := by rw [eσ71]; exact congrArg Int32.toInt u2_same
                have f1σ71 : Fr h0 L [103] [] σ8 σ71 := Fr.rf.fI hMp eσ71 (by decide) rfl
                have tk93 : (sI σ71 h0 98).toInt = (sI σ8 h0 98).toInt := by rw [(f1σ71.1 98 (by decide)).1]
                have tk94 : (sI σ71 h0 99).toInt = (sI σ8 h0 99).toInt := by rw [(f1σ71.1 99 (by decide)).1]
                have tk95 : (sI σ71 h0 100).toInt = (sI σ8 h0 100).toInt := by rw [(f1σ71.1 100 (by decide)).1]
                have tk96 : (sI σ71 h0 16).toInt = (sI σ8 h0 16).toInt := by rw [(f1σ71.1 16 (by decide)).1]
                have hG := hG.fr f1σ71 (by decide) (by decide)
                have bl : 0 < z3.toInt → z3.toInt + 16 ≤ (sI σ8 h0 87).toInt := fun _ => by
                  have fo := pz3
                  unfold FO at fo
                  have e8 := congrArg Int32.toInt (hfr8.1 93 (by decide)).1
                  rcases fo.1 with q | q | q | q
                  · omega
                  · rcases fo.2.2.2.2.2.2 q with r | r | r | r | r
                    · have := hb8.2.2.2.2.2.1 (by omega); omega
                    · have := hb8.2.2.2.2.2.1 (by omega); omega
                    · have := hb8.2.2.2.2.2.2.2.1 (by omega); omega
                    · have := hb8.2.2.2.2.2.2.2.2.1 (by omega); omega
                    · have := hb8.2.2.2.2.2.1 (by omega); omega
                  · rcases fo.2.2.2.2.2.1 q with r | r | r
                    · have := hb8.2.2.2.2.2.2.1 (by omega); omega
                    · have := hb8.2.2.2.2.2.2.1 (by omega); omega
                    · have := hb8.2.2.2.2.2.2.2.2.1 (by omega); omega
                  · have := hb8.2.2.2.2.2.2.2.2.2.1 (by omega); omega
                have bl := bl (by omega)
                have b87_ := congrArg Int32.toInt (hfr8.1 87 (by decide)).1
                refine s_X12_number hI z3 8 (by omega) ((hN.fr hfr (by decide) (by decide)).le (by omega)) (fun z73 pz73 => ?_)
                intro σ74 eσ74
                have hMp := hI.2
                have hI := hI.pJ eσ74
                have hfr := hfr.fJ hMp eσ74 (by decide) rfl
                have f1σ74 : Fr h0 L [101] [] σ71 σ74 := Fr.rf.fJ hMp eσ74 (by decide) rfl
                have tk97 : (sI σ74 h0 98).toInt = (sI σ71 h0 98).toInt := by rw [(f1σ74.1 98 (by decide)).1]
                have tk98 : (sI σ74 h0 99).toInt = (sI σ71 h0 99).toInt := by rw [(f1σ74.1 99 (by decide)).1]
                have tk99 : (sI σ74 h0 100).toInt = (sI σ71 h0 100).toInt := by rw [(f1σ74.1 100 (by decide)).1]
                have tk100 : (sI σ74 h0 16).toInt = (sI σ71 h0 16).toInt := by rw [(f1σ74.1 16 (by decide)).1]
                have hG := hG.fr f1σ74 (by decide) (by decide)
                intro z75 ez75
                try have hz75 := i_add ez75 (by omega) (by omega)
                have rg_z75 := i_range z75
                refine s_X12_number hI z75 8 (by omega) ((hN.fr hfr (by decide) (by decide)).le (by omega)) (fun z77 pz77 => ?_)
                intro σ78 eσ78
                have hMp := hI.2
                have hI := hI.pJ eσ78
                have hfr := hfr.fJ hMp eσ78 (by decide) rfl
                have f1σ78 : Fr h0 L [102] [] σ74 σ78 := Fr.rf.fJ hMp eσ78 (by decide) rfl
                have tk101 : (sI σ78 h0 98).toInt = (sI σ74 h0 98).toInt := by rw [(f1σ78.1 98 (by decide)).1]
                have tk102 : (sI σ78 h0 99).toInt = (sI σ74 h0 99).toInt := by rw [(f1σ78.1 99 (by decide)).1]
                have tk103 : (sI σ78 h0 100).toInt = (sI σ74 h0 100).toInt := by rw [(f1σ78.1 100 (by decide)).1]
                have tk104 : (sI σ78 h0 16).toInt = (sI σ74 h0 16).toInt := by rw [(f1σ78.1 16 (by decide)).1]
                have hG := hG.fr f1σ78 (by decide) (by decide)
                intro z79 ez79
                have vz79 := hI.fI 94 0 1 (by decide) rfl rfl rfl ez79
                have wz79 : z79.toInt = (sI σ h0 94).toInt := by rw [ez79, (hfr.1 94 (by decide)).1]
                refine jn_in (fun (x : Unit) (σ' : HS) => OKM h0 L σ' ∧ Fr h0 L [16, 59, 60, 61, 62, 63, 69, 90, 91, 96, 97, 98, 99, 100, 101, 102, 103, 109, 111, 115, 116, 117, 118, 119] [1, 2, 3, 4, 5, 6, 7, 8, 9, 10, 14, 15, 16, 17, 18, 19, 20, 21, 22, 23, 24, 26, 27, 28, 34, 35, 36, 37, 38, 39, 40, 41, 42, 43, 44, 45, 46, 47, 48, 49, 50, 51, 52, 53, 54, 55, 56, 57, 58, 59, 60, 61, 62, 63, 64, 65, 66, 67, 68, 69, 70, 71, 72, 73, 74, 75, 76, 77, 78, 79] σ σ' ∧ (((sI σ' h0 98).toInt = (sI σ8 h0 98).toInt) ∧ ((sI σ' h0 99).toInt = (sI σ8 h0 99).toInt)) ∧ (Fr h0 L [100, 101, 102, 103] [] σ8 σ') ∧ (GI h0 L B σ')) (fun x80 σ81 hJ => ?_) (fun K82 hK82 => ?_)
                · obtain ⟨hI, hfr, hv, fS, hG⟩ := hJ
                  (try dsimp only at hv)
                  intro z85 ez85
                  have vz85 := hI.fI 103 0 1 (by decide) rfl rfl rfl ez85
                  have wz85 : z85.toInt = (sI σ81 h0 103).toInt := by rw [ez85]
                  refine ⟨fun c7 => ?_, fun c7 => ?_⟩
                  · intro z86 ez86
                    have wz86 : z86.toInt = (sJ σ81 h0 101).toInt := by rw [ez86]
                    have vz86 := l_range z86
                    intro z87 ez87
                    have wz87 : z87.toInt = (sJ σ81 h0 102).toInt := by rw [ez87]
                    have vz87 := l_range z87
                    refine jn_in (fun (x : Int32) (σ' : HS) => σ81 = σ' ∧ ((-1 ≤ x.toInt ∧ x.toInt ≤ 39) ∧ (0 ≤ x.toInt → (sJ σ81 (L 41) x.toInt.toNat).toInt ≠ 0))) (fun x88 σ89 hJ => ?_) (fun K90 hK90 => ?_)
                    · obtain ⟨hsg, hv⟩ := hJ
                      subst hsg
                      (try dsimp only at hv)
                      have rg_x88 := i_range x88
                      intro σ93 eσ93
                      have hMp := hI.2
                      have hI := hI.pF 100 (-1) 39 rfl rfl (by omega) eσ93
                      have hfr := hfr.fI hMp eσ93 (by decide) rfl
                      have uσ93 : (sI σ93 h0 100).toInt = x88.toInt := by rw [eσ93]; exact congrArg Int32.toInt u2_same
                      have f1σ93 : Fr h0 L [100] [] σ81 σ93 := Fr.rf.fI hMp eσ93 (by decide) rfl
                      have tk105 : (sI σ93 h0 98).toInt = (sI σ81 h0 98).toInt := by rw [(f1σ93.1 98 (by decide)).1]
                      have tk106 : (sI σ93 h0 99).toInt = (sI σ81 h0 99).toInt := by rw [(f1σ93.1 99 (by decide)).1]
                      have tk108 : (sI σ93 h0 16).toInt = (sI σ81 h0 16).toInt := by rw [(f1σ93.1 16 (by decide)).1]
                      have hG := hG.fr f1σ93 (by decide) (by decide)
                      intro z94 ez94
                      have vz94 := hI.fI 100 (-1) 39 (by decide) rfl rfl rfl ez94
                      have wz94 : z94.toInt = (sI σ93 h0 100).toInt := by rw [ez94]
                      refine jn_dup ?_
                      refine ⟨fun c8 => ?_, fun c8 => ?_⟩
                      · (try dsimp only)
                        exact kk 3221225768 σ93 hI hfr (hG.mono (by omega))
                      · intro z100 ez100
                        have vz100 := hI.fI 100 (-1) 39 (by decide) rfl rfl rfl ez100
                        have wz100 : z100.toInt = (sI σ93 h0 100).toInt := by rw [ez100]
                        refine ⟨by omega, ?_⟩
                        intro z101 ez101
                        have vz101 := hI.aI 42 40 0 15 (by decide) (by decide) rfl rfl rfl (i := z100.toInt) (by omega) ez101
                        have wz101 : z101.toInt = (sI σ93 (L 42) z100.toInt.toNat).toInt := by rw [ez101]
                        intro z102 ez102
                        have vz102 := hI.fI 99 (-1) 15 (by decide) rfl rfl rfl ez102
                        have wz102 : z102.toInt = (sI σ93 h0 99).toInt := by rw [ez102]
                        refine ⟨fun c9 => ?_, fun c9 => ?_⟩
                        · exact hK24 () σ93 ⟨hI, hfr, (by (try dsimp only); omega), (by first | exact hTx | omega | (refine Or.inr (Or.inr (Or.inr (Or.inr (Or.inr ?_)))); rw [show (sI σ126 h0 99).toInt = z125.toInt by omega]; exact hG.2.2.1 z125.toInt.toNat (by omega) (by rw [sJ_ff f1σ126 (by decide) (by decide)]; exact pz125.2.2 (by omega))) | (rw [show (sI σ93 h0 99).toInt = (sI σ8 h0 99).toInt by omega, rts_ff (fS.tr f1σ93 (by decide) (by decide)) (by decide), sI_ff (fS.tr f1σ93 (by decide) (by decide)) (by decide) (by decide)]; exact hTx)), (by first | exact hb8 | exact hb8.fr (fS.tr f1σ93 (by decide) (by decide)) (by decide) (by decide) (by decide) (by decide) (by decide) (by decide)), (by first | (left; omega) | (right; rw [show (sI σ93 h0 100).toInt = x88.toInt by omega]; exact ⟨by omega, by rw [(f1σ93.2.1 41 (by decide) (by decide) _).2]; omega⟩)), hG⟩
                        · (try dsimp only)
                          exact kk 3221225768 σ93 hI hfr (hG.mono (by omega))
                    · skip
                      refine ⟨fun c10 => ?_, fun c10 => ?_⟩
                      · exact hK90 (-1) σ81 ⟨rfl, (by (try dsimp only); omega)⟩
                      · intro z103 ez103
                        have wz103 : z103.toInt = (sJ σ81 h0 101).toInt := by rw [ez103]
                        have vz103 := l_range z103
                        refine s_X12_openBy hI z103  (fun z105 pz105 => ?_)
                        have rg_z105 := i_range z105
                        exact hK90 z105 σ81 ⟨rfl, (by (try dsimp only); omega)⟩
                  · exact kk 3221225485 σ81 hI hfr (hG.mono (by omega))
                · skip
                  refine ⟨fun c11 => ?_, fun c11 => ?_⟩
                  · exact hK82 () σ78 ⟨hI, hfr, (by (try dsimp only); omega), (by first | exact Fr.rf | exact fS | exact fS.tr f1σ93 (by decide) (by decide) | exact ((Fr.rf.tr f1σ71 (by decide) (by decide)).tr f1σ74 (by decide) (by decide)).tr f1σ78 (by decide) (by decide) | exact (((((Fr.rf.tr f1σ71 (by decide) (by decide)).tr f1σ74 (by decide) (by decide)).tr f1σ78 (by decide) (by decide)).tr f1σ109 (by decide) (by decide)).tr f1σ111 (by decide) (by decide)).tr f1σ113 (by decide) (by decide)), hG⟩
                  · intro z106 ez106
                    have wz106 : z106.toInt = (sJ σ78 h0 101).toInt := by rw [ez106]
                    have vz106 := l_range z106
                    refine ⟨fun c12 => ?_, fun c12 => ?_⟩
                    · exact hK82 () σ78 ⟨hI, hfr, (by (try dsimp only); omega), (by first | exact Fr.rf | exact fS | exact fS.tr f1σ93 (by decide) (by decide) | exact ((Fr.rf.tr f1σ71 (by decide) (by decide)).tr f1σ74 (by decide) (by decide)).tr f1σ78 (by decide) (by decide) | exact (((((Fr.rf.tr f1σ71 (by decide) (by decide)).tr f1σ74 (by decide) (by decide)).tr f1σ78 (by decide) (by decide)).tr f1σ109 (by decide) (by decide)).tr f1σ111 (by decide) (by decide)).tr f1σ113 (by decide) (by decide)), hG⟩
                    · intro z107 ez107
                      have wz107 : z107.toInt = (sJ σ78 h0 102).toInt := by rw [ez107]
                      have vz107 := l_range z107
                      refine ⟨fun c13 => ?_, fun c13 => ?_⟩
                      · exact hK82 () σ78 ⟨hI, hfr, (by (try dsimp only); omega), (by first | exact Fr.rf | exact fS | exact fS.tr f1σ93 (by decide) (by decide) | exact ((Fr.rf.tr f1σ71 (by decide) (by decide)).tr f1σ74 (by decide) (by decide)).tr f1σ78 (by decide) (by decide) | exact (((((Fr.rf.tr f1σ71 (by decide) (by decide)).tr f1σ74 (by decide) (by decide)).tr f1σ78 (by decide) (by decide)).tr f1σ109 (by decide) (by decide)).tr f1σ111 (by decide) (by decide)).tr f1σ113 (by decide) (by decide)), hG⟩
                      · intro z108 ez108
                        have vz108 := hI.fI 108 0 1 (by decide) rfl rfl rfl ez108
                        have wz108 : z108.toInt = (sI σ h0 108).toInt := by rw [ez108, (hfr.1 108 (by decide)).1]
                        refine ⟨by omega, ?_⟩
                        intro σ109 eσ109
                        have hMp := hI.2
                        have hI := hI.pF 103 0 1 rfl rfl (by omega) eσ109
                        have hfr := hfr.fI hMp eσ109 (by decide) rfl
                        have uσ109 : (sI σ109 h0 103).toInt = z108.toInt := by rw [eσ109]; exact congrArg Int32.toInt u2_same
                        have f1σ109 : Fr h0 L [103] [] σ78 σ109 := Fr.rf.fI hMp eσ109 (by decide) rfl
                        have tk109 : (sI σ109 h0 98).toInt = (sI σ78 h0 98).toInt := by rw [(f1σ109.1 98 (by decide)).1]
                        have tk110 : (sI σ109 h0 99).toInt = (sI σ78 h0 99).toInt := by rw [(f1σ109.1 99 (by decide)).1]
                        have tk111 : (sI σ109 h0 100).toInt = (sI σ78 h0 100).toInt := by rw [(f1σ109.1 100 (by decide)).1]
                        have tk112 : (sI σ109 h0 16).toInt = (sI σ78 h0 16).toInt := by rw [(f1σ109.1 16 (by decide)).1]
                        have hG := hG.fr f1σ109 (by decide) (by decide)
                        intro z110 ez110
                        have wz110 : z110.toInt = (sJ σ109 h0 106).toInt := by rw [ez110]
                        have vz110 := l_range z110
                        intro σ111 eσ111
                        have hMp := hI.2
                        have hI := hI.pJ eσ111
                        have hfr := hfr.fJ hMp eσ111 (by decide) rfl
                        have f1σ111 : Fr h0 L [101] [] σ109 σ111 := Fr.rf.fJ hMp eσ111 (by decide) rfl
                        have tk113 : (sI σ111 h0 98).toInt = (sI σ109 h0 98).toInt := by rw [(f1σ111.1 98 (by decide)).1]
                        have tk114 : (sI σ111 h0 99).toInt = (sI σ109 h0 99).toInt := by rw [(f1σ111.1 99 (by decide)).1]
                        have tk115 : (sI σ111 h0 100).toInt = (sI σ109 h0 100).toInt := by rw [(f1σ111.1 100 (by decide)).1]
                        have tk116 : (sI σ111 h0 16).toInt = (sI σ109 h0 16).toInt := by rw [(f1σ111.1 16 (by decide)).1]
                        have hG := hG.fr f1σ111 (by decide) (by decide)
                        intro z112 ez112
                        have wz112 : z112.toInt = (sJ σ111 h0 107).toInt := by rw [ez112]
                        have vz112 := l_range z112
                        intro σ113 eσ113
                        have hMp := hI.2
                        have hI := hI.pJ eσ113
                        have hfr := hfr.fJ hMp eσ113 (by decide) rfl
                        have f1σ113 : Fr h0 L [102] [] σ111 σ113 := Fr.rf.fJ hMp eσ113 (by decide) rfl
                        have tk117 : (sI σ113 h0 98).toInt = (sI σ111 h0 98).toInt := by rw [(f1σ113.1 98 (by decide)).1]
                        have tk118 : (sI σ113 h0 99).toInt = (sI σ111 h0 99).toInt := by rw [(f1σ113.1 99 (by decide)).1]
                        have tk119 : (sI σ113 h0 100).toInt = (sI σ111 h0 100).toInt := by rw [(f1σ113.1 100 (by decide)).1]
                        have tk120 : (sI σ113 h0 16).toInt = (sI σ111 h0 16).toInt := by rw [(f1σ113.1 16 (by decide)).1]
                        have hG := hG.fr f1σ113 (by decide) (by decide)
                        exact hK82 () σ113 ⟨hI, hfr, (by (try dsimp only); omega), (by first | exact Fr.rf | exact fS | exact fS.tr f1σ93 (by decide) (by decide) | exact ((Fr.rf.tr f1σ71 (by decide) (by decide)).tr f1σ74 (by decide) (by decide)).tr f1σ78 (by decide) (by decide) | exact (((((Fr.rf.tr f1σ71 (by decide) (by decide)).tr f1σ74 (by decide) (by decide)).tr f1σ78 (by decide) (by decide)).tr f1σ109 (by decide) (by decide)).tr f1σ111 (by decide) (by decide)).tr f1σ113 (by decide) (by decide)), hG⟩
          · exact kk 3221225485 σ8 hI hfr (hG.mono (by omega))
        · (try dsimp only)
          exact kk 3221225659 σ8 hI hfr (hG.mono (by omega))
  · skip
    refine ⟨fun c14 => ?_, fun c14 => ?_⟩
    · exact hK9 () σ5 ⟨hI, hfr, (by (try dsimp only); omega), (by first | exact hTx | omega | (refine Or.inr (Or.inr (Or.inr (Or.inr (Or.inr ?_)))); rw [show (sI σ126 h0 99).toInt = z125.toInt by omega]; exact hG.2.2.1 z125.toInt.toNat (by omega) (by rw [sJ_ff f1σ126 (by decide) (by decide)]; exact pz125.2.2 (by omega))) | (rw [show (sI σ93 h0 99).toInt = (sI σ8 h0 99).toInt by omega, rts_ff (fS.tr f1σ93 (by decide) (by decide)) (by decide), sI_ff (fS.tr f1σ93 (by decide) (by decide)) (by decide) (by decide)]; exact hTx)), hG⟩
    · intro z114 ez114
      have vz114 := hI.fI 93 0 65535 (by decide) rfl rfl rfl ez114
      have wz114 : z114.toInt = (sI σ h0 93).toInt := by rw [ez114, (hfr.1 93 (by decide)).1]
      refine ⟨fun c15 => ?_, fun c15 => ?_⟩
      · exact hK9 () σ5 ⟨hI, hfr, (by (try dsimp only); omega), (by first | exact hTx | omega | (refine Or.inr (Or.inr (Or.inr (Or.inr (Or.inr ?_)))); rw [show (sI σ126 h0 99).toInt = z125.toInt by omega]; exact hG.2.2.1 z125.toInt.toNat (by omega) (by rw [sJ_ff f1σ126 (by decide) (by decide)]; exact pz125.2.2 (by omega))) | (rw [show (sI σ93 h0 99).toInt = (sI σ8 h0 99).toInt by omega, rts_ff (fS.tr f1σ93 (by decide) (by decide)) (by decide), sI_ff (fS.tr f1σ93 (by decide) (by decide)) (by decide) (by decide)]; exact hTx)), hG⟩
      · intro z115 ez115
        have vz115 := hI.fI 93 0 65535 (by decide) rfl rfl rfl ez115
        have wz115 : z115.toInt = (sI σ h0 93).toInt := by rw [ez115, (hfr.1 93 (by decide)).1]
        refine ⟨fun c16 => ?_, fun c16 => ?_⟩
        · exact hK9 () σ5 ⟨hI, hfr, (by (try dsimp only); omega), (by first | exact hTx | omega | (refine Or.inr (Or.inr (Or.inr (Or.inr (Or.inr ?_)))); rw [show (sI σ126 h0 99).toInt = z125.toInt by omega]; exact hG.2.2.1 z125.toInt.toNat (by omega) (by rw [sJ_ff f1σ126 (by decide) (by decide)]; exact pz125.2.2 (by omega))) | (rw [show (sI σ93 h0 99).toInt = (sI σ8 h0 99).toInt by omega, rts_ff (fS.tr f1σ93 (by decide) (by decide)) (by decide), sI_ff (fS.tr f1σ93 (by decide) (by decide)) (by decide) (by decide)]; exact hTx)), hG⟩
        · intro z116 ez116
          have wz116 : z116.toInt = (sJ σ5 h0 96).toInt := by rw [ez116]
          have vz116 := l_range z116
          refine s_X12_findSession hI z116  (fun z118 pz118 => ?_)
          have rg_z118 := i_range z118
          intro σ119 eσ119
          have hMp := hI.2
          have hI := hI.pF 98 (-1) 7 rfl rfl (by omega) eσ119
          have hfr := hfr.fI hMp eσ119 (by decide) rfl
          have uσ119 : (sI σ119 h0 98).toInt = z118.toInt := by rw [eσ119]; exact congrArg Int32.toInt u2_same
          have f1σ119 : Fr h0 L [98] [] σ5 σ119 := Fr.rf.fI hMp eσ119 (by decide) rfl
          have tk122 : (sI σ119 h0 99).toInt = (sI σ5 h0 99).toInt := by rw [(f1σ119.1 99 (by decide)).1]
          have tk123 : (sI σ119 h0 100).toInt = (sI σ5 h0 100).toInt := by rw [(f1σ119.1 100 (by decide)).1]
          have tk124 : (sI σ119 h0 16).toInt = (sI σ5 h0 16).toInt := by rw [(f1σ119.1 16 (by decide)).1]
          have hG := hG.fr f1σ119 (by decide) (by decide)
          intro z120 ez120
          have vz120 := hI.fI 98 (-1) 7 (by decide) rfl rfl rfl ez120
          have wz120 : z120.toInt = (sI σ119 h0 98).toInt := by rw [ez120]
          refine ⟨fun c17 => ?_, fun c17 => ?_⟩
          · intro z121 ez121
            have vz121 := hI.fI 93 0 65535 (by decide) rfl rfl rfl ez121
            have wz121 : z121.toInt = (sI σ h0 93).toInt := by rw [ez121, (hfr.1 93 (by decide)).1]
            refine ⟨fun c18 => ?_, fun c18 => ?_⟩
            · exact hK9 () σ119 ⟨hI, hfr, (by (try dsimp only); omega), (by first | exact hTx | omega | (refine Or.inr (Or.inr (Or.inr (Or.inr (Or.inr ?_)))); rw [show (sI σ126 h0 99).toInt = z125.toInt by omega]; exact hG.2.2.1 z125.toInt.toNat (by omega) (by rw [sJ_ff f1σ126 (by decide) (by decide)]; exact pz125.2.2 (by omega))) | (rw [show (sI σ93 h0 99).toInt = (sI σ8 h0 99).toInt by omega, rts_ff (fS.tr f1σ93 (by decide) (by decide)) (by decide), sI_ff (fS.tr f1σ93 (by decide) (by decide)) (by decide) (by decide)]; exact hTx)), hG⟩
            · intro z122 ez122
              have vz122 := hI.fI 93 0 65535 (by decide) rfl rfl rfl ez122
              have wz122 : z122.toInt = (sI σ h0 93).toInt := by rw [ez122, (hfr.1 93 (by decide)).1]
              refine ⟨fun c19 => ?_, fun c19 => ?_⟩
              · exact hK9 () σ119 ⟨hI, hfr, (by (try dsimp only); omega), (by first | exact hTx | omega | (refine Or.inr (Or.inr (Or.inr (Or.inr (Or.inr ?_)))); rw [show (sI σ126 h0 99).toInt = z125.toInt by omega]; exact hG.2.2.1 z125.toInt.toNat (by omega) (by rw [sJ_ff f1σ126 (by decide) (by decide)]; exact pz125.2.2 (by omega))) | (rw [show (sI σ93 h0 99).toInt = (sI σ8 h0 99).toInt by omega, rts_ff (fS.tr f1σ93 (by decide) (by decide)) (by decide), sI_ff (fS.tr f1σ93 (by decide) (by decide)) (by decide) (by decide)]; exact hTx)), hG⟩
              · intro z123 ez123
                have wz123 : z123.toInt = (sJ σ119 h0 97).toInt := by rw [ez123]
                have vz123 := l_range z123
                refine s_X12_findTree hI z123  (fun z125 pz125 => ?_)
                have rg_z125 := i_range z125
                intro σ126 eσ126
                have hMp := hI.2
                have hI := hI.pF 99 (-1) 15 rfl rfl (by omega) eσ126
                have hfr := hfr.fI hMp eσ126 (by decide) rfl
                have uσ126 : (sI σ126 h0 99).toInt = z125.toInt := by rw [eσ126]; exact congrArg Int32.toInt u2_same
                have f1σ126 : Fr h0 L [99] [] σ119 σ126 := Fr.rf.fI hMp eσ126 (by decide) rfl
                have tk125 : (sI σ126 h0 98).toInt = (sI σ119 h0 98).toInt := by rw [(f1σ126.1 98 (by decide)).1]
                have tk127 : (sI σ126 h0 100).toInt = (sI σ119 h0 100).toInt := by rw [(f1σ126.1 100 (by decide)).1]
                have tk128 : (sI σ126 h0 16).toInt = (sI σ119 h0 16).toInt := by rw [(f1σ126.1 16 (by decide)).1]
                have hG := hG.fr f1σ126 (by decide) (by decide)
                intro z127 ez127
                have vz127 := hI.fI 99 (-1) 15 (by decide) rfl rfl rfl ez127
                have wz127 : z127.toInt = (sI σ126 h0 99).toInt := by rw [ez127]
                refine ⟨fun c20 => ?_, fun c20 => ?_⟩
                · exact hK9 () σ126 ⟨hI, hfr, (by (try dsimp only); omega), (by first | exact hTx | omega | (refine Or.inr (Or.inr (Or.inr (Or.inr (Or.inr ?_)))); rw [show (sI σ126 h0 99).toInt = z125.toInt by omega]; exact hG.2.2.1 z125.toInt.toNat (by omega) (by rw [sJ_ff f1σ126 (by decide) (by decide)]; exact pz125.2.2 (by omega))) | (rw [show (sI σ93 h0 99).toInt = (sI σ8 h0 99).toInt by omega, rts_ff (fS.tr f1σ93 (by decide) (by decide)) (by decide), sI_ff (fS.tr f1σ93 (by decide) (by decide)) (by decide) (by decide)]; exact hTx)), hG⟩
                · exact kk 3221225673 σ126 hI hfr (hG.mono (by omega))
          · exact kk 3221225987 σ119 hI hfr (hG.mono (by omega))

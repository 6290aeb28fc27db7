/-! the public face of the reference -/
set_option maxRecDepth 100000 in
set_option maxHeartbeats 4000000 in
theorem s2_X12_connect {h0 : Nat} {L : Nat → Nat} {σ : HS} (hI : OKM h0 L σ) (a1 : Int32)  {post : Int32 → HS → Prop} (kk : ∀ (r : Int32) (σ' : HS), OKM h0 L σ' → Fr h0 L [] [25, 26, 28, 30, 31, 32, 33] σ σ' → (∀ i : Nat, (sI σ' (L 30) i).toInt ≤ (sI σ (L 30) i).toInt ∨ (sI σ' (L 30) i).toInt = 0) → post r σ') : F_X12_connect h0 L a1 post σ := by
  unfold F_X12_connect
  have k_0 : (0 : Int32).toInt = 0 := rfl
  have k_1 : (1 : Int32).toInt = 1 := rfl
  have k_16 : (16 : Int32).toInt = 16 := rfl
  have rg_a1 := i_range a1
  have hfr : Fr h0 L [] [25, 26, 28, 30, 31, 32, 33] σ σ := Fr.rf
  refine s_X12_isLine hI a1  (fun z2 pz2 => ?_)
  have rg_z2 := i_range z2
  refine jn_dup ?_
  refine ⟨fun c1 => ?_, fun c1 => ?_⟩
  · (try dsimp only)
    refine ⟨by omega, ?_⟩
    exact kk 0 σ hI hfr (fun i => by first | exact Or.inl (Int.le_refl _) | omega)
  · refine ⟨by omega, ?_⟩
    intro z8 ez8
    have vz8 := hI.aI 25 6 0 1 (by decide) (by decide) rfl rfl rfl (i := a1.toInt) (by omega) ez8
    have wz8 : z8.toInt = (sI σ (L 25) a1.toInt.toNat).toInt := by rw [ez8]
    refine ⟨fun c2 => ?_, fun c2 => ?_⟩
    · refine ⟨by omega, ?_⟩
      intro σ9 eσ9
      have hMp := hI.2
      have hI := hI.pA 25 0 1 (by decide) (by decide) rfl rfl (i_bool _) eσ9
      have hfr := hfr.aI hMp (by decide) eσ9 (by decide)
      try have nrσ9 : (vp_nar .boolean 1).toInt = (1 : Int32).toInt := by rw [nar_bool (by omega)]
      have f1σ9 : Fr h0 L [] [25] σ σ9 := Fr.rf.aI hMp (by decide) eσ9 (by decide)
      refine ⟨by omega, ?_⟩
      intro σ10 eσ10
      have hMp := hI.2
      have hI := hI.pA 26 0 1 (by decide) (by decide) rfl rfl (i_bool _) eσ10
      have hfr := hfr.aI hMp (by decide) eσ10 (by decide)
      try have nrσ10 : (vp_nar .boolean 0).toInt = (0 : Int32).toInt := by rw [nar_bool (by omega)]
      have f1σ10 : Fr h0 L [] [26] σ9 σ10 := Fr.rf.aI hMp (by decide) eσ10 (by decide)
      refine ⟨by omega, ?_⟩
      intro σ11 eσ11
      have hMp := hI.2
      have hI := hI.pA 28 0 16000 (by decide) (by decide) rfl rfl (by omega) eσ11
      have hfr := hfr.aI hMp (by decide) eσ11 (by decide)
      have f1σ11 : Fr h0 L [] [28] σ10 σ11 := Fr.rf.aI hMp (by decide) eσ11 (by decide)
      refine ⟨by omega, ?_⟩
      intro σ12 eσ12
      have hMp := hI.2
      have hI := hI.pA 30 0 12003 (by decide) (by decide) rfl rfl (by omega) eσ12
      have hfr := hfr.aI hMp (by decide) eσ12 (by decide)
      have f1σ12 : Fr h0 L [] [30] σ11 σ12 := Fr.rf.aI hMp (by decide) eσ12 (by decide)
      refine ⟨by omega, ?_⟩
      intro σ13 eσ13
      have hMp := hI.2
      have hI := hI.pA 32 0 16 (by decide) (by decide) rfl rfl (by omega) eσ13
      have hfr := hfr.aI hMp (by decide) eσ13 (by decide)
      have f1σ13 : Fr h0 L [] [32] σ12 σ13 := Fr.rf.aI hMp (by decide) eσ13 (by decide)
      intro z14 ez14
      try have hz14 := i_mulk 16 rfl ez14 (by omega) (by omega)
      have rg_z14 := i_range z14
      refine ⟨by omega, ?_⟩
      intro σ15 eσ15
      have hMp := hI.2
      have hI := hI.pJ eσ15
      have hfr := hfr.aJ hMp (by decide) eσ15 (by decide)
      have f1σ15 : Fr h0 L [] [31] σ13 σ15 := Fr.rf.aJ hMp (by decide) eσ15 (by decide)
      refine ⟨by omega, ?_⟩
      intro σ16 eσ16
      have hMp := hI.2
      have hI := hI.pJ eσ16
      have hfr := hfr.aJ hMp (by decide) eσ16 (by decide)
      have f1σ16 : Fr h0 L [] [33] σ15 σ16 := Fr.rf.aJ hMp (by decide) eσ16 (by decide)
      refine ⟨by omega, ?_⟩
      exact kk 1 σ16 hI hfr (fun i => by have tt_ := congrArg Int32.toInt (f1σ9.2.1 30 (by decide) (by decide) i).1; have tt_ := congrArg Int32.toInt (f1σ10.2.1 30 (by decide) (by decide) i).1; have tt_ := congrArg Int32.toInt (f1σ11.2.1 30 (by decide) (by decide) i).1; have tt_ := atI eσ12 i; have tt_ := congrArg Int32.toInt (f1σ13.2.1 30 (by decide) (by decide) i).1; have tt_ := congrArg Int32.toInt (f1σ15.2.1 30 (by decide) (by decide) i).1; have tt_ := congrArg Int32.toInt (f1σ16.2.1 30 (by decide) (by decide) i).1; first | exact Or.inl (Int.le_refl _) | omega)
    · (try dsimp only)
      refine ⟨by omega, ?_⟩
      exact kk 0 σ hI hfr (fun i => by first | exact Or.inl (Int.le_refl _) | omega)
section R97
variable {h0 : Nat} {L : Nat → Nat} {σ σ' : HS} {B : Int}
/-- what holds of the reference between calls -/
def RI (h0 : Nat) (L : Nat → Nat) (B : Int) (σ : HS) : Prop := OKM h0 L σ ∧ GI h0 L B σ ∧ ∀ i : Nat, i < 6 → (sI σ (L 30) i).toInt ≤ 4003
theorem RI.up {B' : Int} (h : RI h0 L B σ) (hb : B ≤ B') : RI h0 L B' σ := ⟨h.1, h.2.1.mono hb, h.2.2⟩
theorem RI.fr {fs js : List Nat} (h : RI h0 L B σ) (hI : OKM h0 L σ') (f : Fr h0 L fs js σ σ') (h1 : nof fs [16, 61, 69] = true) (h2 : nof js GJL = true) (h3 : ∀ i : Nat, (sI σ' (L 30) i).toInt ≤ (sI σ (L 30) i).toInt ∨ (sI σ' (L 30) i).toInt = 0) : RI h0 L B σ' := ⟨hI, h.2.1.fr f h1 h2, fun i hi => by have q := h3 i; have q2 := h.2.2 i hi; omega⟩
theorem RI.g {fs js : List Nat} (h : RI h0 L B σ) (hI : OKM h0 L σ') (f : Fr h0 L fs js σ σ') (hj : 30 ∉ js) {B' : Int} (hG : GI h0 L B' σ') : RI h0 L B' σ' := ⟨hI, hG, fun i hi => by rw [(f.2.1 30 (by decide) hj i).1]; exact h.2.2 i hi⟩

theorem r_X12_feed (h : RI h0 L B σ) (hB : B + 2000000 < 4611686018427387904) (a1 : Int32) (a2 : Int32) (a3 : Int32) (a4 : Int32) (a5 : Int32) {post : Int32 → HS → Prop} (kk : ∀ (r : Int32) (σ' : HS), RI h0 L (B + 1000000) σ' → post r σ') : F_X12_feed h0 L a1 a2 a3 a4 a5 post σ := by
  exact s_X12_feed h.1 a1 a2 a3 a4 a5 (fun r σ' hI f _ => kk r σ' ((h.fr hI f (by decide) (by decide) (fun i => Or.inl (by rw [(f.2.1 30 (by decide) (by decide) i).1]; exact Int.le_refl _))).up (by omega)))
theorem r_X12_cut (h : RI h0 L B σ) (hB : B + 2000000 < 4611686018427387904) (a1 : Int32) {post : Int32 → HS → Prop} (kk : ∀ (r : Int32) (σ' : HS), RI h0 L (B + 1000000) σ' → post r σ') : F_X12_cut h0 L a1 post σ := by
  exact s_X12_cut h.1 a1 (fun r σ' hI f _ => kk r σ' ((h.fr hI f (by decide) (by decide) (fun i => Or.inl (by rw [(f.2.1 30 (by decide) (by decide) i).1]; exact Int.le_refl _))).up (by omega)))
theorem r_X12_connect (h : RI h0 L B σ) (hB : B + 2000000 < 4611686018427387904) (a1 : Int32) {post : Int32 → HS → Prop} (kk : ∀ (r : Int32) (σ' : HS), RI h0 L (B + 1000000) σ' → post r σ') : F_X12_connect h0 L a1 post σ := by
  exact s2_X12_connect h.1 a1 (fun r σ' hI f p => kk r σ' ((h.fr hI f (by decide) (by decide) p).up (by omega)))
theorem r_X12_drop (h : RI h0 L B σ) (hB : B + 2000000 < 4611686018427387904) (a1 : Int32) {post : Int32 → HS → Prop} (kk : ∀ (r : Int32) (σ' : HS), RI h0 L (B + 1000000) σ' → post r σ') : F_X12_drop h0 L a1 post σ := by
  exact s_X12_drop h.1 a1 (fun r σ' hI f _ => kk r σ' ((h.fr hI f (by decide) (by decide) (fun i => Or.inl (by rw [(f.2.1 30 (by decide) (by decide) i).1]; exact Int.le_refl _))).up (by omega)))
theorem r_X12_isOpen (h : RI h0 L B σ) (hB : B + 2000000 < 4611686018427387904) (a1 : Int32) {post : Int32 → HS → Prop} (kk : ∀ (r : Int32) (σ' : HS), RI h0 L (B + 1000000) σ' → post r σ') : F_X12_isOpen h0 L a1 post σ := by
  exact s_X12_isOpen h.1 a1 (fun r _ => kk r σ (h.up (by omega)))
theorem r_X12_outs (h : RI h0 L B σ) (hB : B + 2000000 < 4611686018427387904) (a1 : Int32) {post : Int32 → HS → Prop} (kk : ∀ (r : Int32) (σ' : HS), RI h0 L (B + 1000000) σ' → post r σ') : F_X12_outs h0 L a1 post σ := by
  exact s_X12_outs h.1 a1 (fun r _ => kk r σ (h.up (by omega)))
theorem r_X12_out (h : RI h0 L B σ) (hB : B + 2000000 < 4611686018427387904) (a1 : Int32) (a2 : Int32) {post : Int32 → HS → Prop} (kk : ∀ (r : Int32) (σ' : HS), RI h0 L (B + 1000000) σ' → post r σ') : F_X12_out h0 L a1 a2 post σ := by
  exact s_X12_out h.1 a1 a2 (fun r _ => kk r σ (h.up (by omega)))
theorem r_X12_told (h : RI h0 L B σ) (hB : B + 2000000 < 4611686018427387904) (a1 : Int32) {post : Int32 → HS → Prop} (kk : ∀ (r : Int32) (σ' : HS), RI h0 L (B + 1000000) σ' → post r σ') : F_X12_told h0 L a1 post σ := by
  exact s_X12_told h.1 a1 (fun r _ => kk r σ (h.up (by omega)))
theorem r_X12_share (h : RI h0 L B σ) (hB : B + 2000000 < 4611686018427387904) (a1 : Int32) {post : Int32 → HS → Prop} (kk : ∀ (r : Int32) (σ' : HS), RI h0 L (B + 1000000) σ' → post r σ') : F_X12_share h0 L a1 post σ := by
  exact s_X12_share h.1 a1 h.2.1 (fun r σ' hI f p => kk r σ' ((h.g hI f (by decide) p.1).up (by omega)))
theorem r_X12_crash (h : RI h0 L B σ) (hB : B + 2000000 < 4611686018427387904) (a1 : Int32) {post : Int32 → HS → Prop} (kk : ∀ (r : Int32) (σ' : HS), RI h0 L (B + 1000000) σ' → post r σ') : F_X12_crash h0 L a1 post σ := by
  exact s_X12_crash h.1 a1 h.2.1 (fun r σ' hI f p => kk r σ' ((h.g hI f (by decide) p).up (by omega)))
theorem r_X12_hang (h : RI h0 L B σ) (hB : B + 2000000 < 4611686018427387904) (a1 : Int32) {post : Int32 → HS → Prop} (kk : ∀ (r : Int32) (σ' : HS), RI h0 L (B + 1000000) σ' → post r σ') : F_X12_hang h0 L a1 post σ := by
  exact s2_X12_hang h.1 a1 h.2.1 (by omega) (fun r σ' hI f p => kk r σ' ⟨hI, p.1.mono (by omega), fun i hi => by have q := p.2.2 i; have q2 := h.2.2 i hi; omega⟩)
theorem r_X12_come_ (h : RI h0 L B σ) (hB : B + 2000000 < 4611686018427387904) (a1 : Int32) {post : Int32 → HS → Prop} (kk : ∀ (r : Int32) (σ' : HS), RI h0 L (B + 1000000) σ' → post r σ') : F_X12_come_ h0 L a1 post σ := by
  exact s_X12_come_ h.1 a1 h.2.1 (by omega) h.2.2 (fun r σ' hI f p => kk r σ' ⟨hI, p.1.mono (by omega), p.2⟩)
theorem r_X12_tick (h : RI h0 L B σ) (hB : B + 2000000 < 4611686018427387904) (a1 : Int32) {post : Int32 → HS → Prop} (kk : ∀ (r : Int32) (σ' : HS), RI h0 L (B + 1000000) σ' → (0 ≤ a1.toInt ∧ a1.toInt ≤ 1000000 ∧ r.toInt = 1) ∨ ((a1.toInt < 0 ∨ 1000000 < a1.toInt) ∧ r.toInt = 0) → post r σ') : F_X12_tick h0 L a1 post σ := by
  exact s_X12_tick h.1 a1 h.2.1 (by omega) (fun r σ' hI f p => kk r σ' ((h.g hI f (by decide) p.1).up (by omega)) p.2)
end R97

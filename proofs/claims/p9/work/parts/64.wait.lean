/-! those that wait, locks, lines, the tape -/
def kJb (j : Nat) : Bool := j == 65 || j == 66 || j == 69 || j == 71 || j == 72
/-- who waits at w' of the second waits at w of the first -/
def EqW (L : Nat → Nat) (σ σ' : HS) (w w' : Nat) : Prop := (∀ j, 61 ≤ j → j ≤ 74 → (kJb j = true → sJ σ' (L j) w' = sJ σ (L j) w) ∧ (kJb j = false → sI σ' (L j) w' = sI σ (L j) w)) ∧ ∀ i : Nat, i < 4000 → (i : Int) < (sI σ (L 74) w).toInt → sI σ' (L 75) (4000 * w' + i) = sI σ (L 75) (4000 * w + i)
def Sub (h0 : Nat) (L : Nat → Nat) (σ σ' : HS) : Prop := (sI σ' h0 69).toInt ≤ (sI σ h0 69).toInt ∧ ∀ w' : Nat, (w' : Int) < (sI σ' h0 69).toInt → ∃ w : Nat, (w : Int) < (sI σ h0 69).toInt ∧ EqW L σ σ' w w'
section R64
variable {h0 : Nat} {L : Nat → Nat} {σ σ' σ2 : HS}
theorem EqW.rf {w : Nat} : EqW L σ σ w w := ⟨fun _ _ _ => ⟨fun _ => rfl, fun _ => rfl⟩, fun _ _ _ => rfl⟩
theorem EqW.tr {a b c : Nat} (h : EqW L σ σ' a b) (g : EqW L σ' σ2 b c) : EqW L σ σ2 a c := by
  refine ⟨fun j h1 h2 => ⟨fun q => ?_, fun q => ?_⟩, fun i hi4 hi => ?_⟩
  · rw [(g.1 j h1 h2).1 q, (h.1 j h1 h2).1 q]
  · rw [(g.1 j h1 h2).2 q, (h.1 j h1 h2).2 q]
  · rw [g.2 i hi4 (by rw [(h.1 74 (by decide) (by decide)).2 rfl]; exact hi), h.2 i hi4 hi]
theorem EqW.fr {fs js : List Nat} {w : Nat} (f : Fr h0 L fs js σ σ') (hj : ∀ j ∈ js, j < 61 ∨ 75 < j) : EqW L σ σ' w w := by
  have hn : ∀ j, 61 ≤ j → j ≤ 75 → j ∉ js := fun j h1 h2 q => by have := hj j q; omega
  exact ⟨fun j h1 h2 => ⟨fun _ => (f.2.1 j (by omega) (hn j h1 (by omega)) w).2, fun _ => (f.2.1 j (by omega) (hn j h1 (by omega)) w).1⟩, fun i _ _ => (f.2.1 75 (by omega) (hn 75 (by omega) (by omega)) _).1⟩
theorem Sub.rf : Sub h0 L σ σ := ⟨Int.le_refl _, fun w h => ⟨w, h, EqW.rf⟩⟩
theorem Sub.tr (h : Sub h0 L σ σ') (g : Sub h0 L σ' σ2) : Sub h0 L σ σ2 := by
  refine ⟨Int.le_trans g.1 h.1, fun w hw => ?_⟩
  obtain ⟨w1, a, b⟩ := g.2 w hw
  obtain ⟨w2, c, d⟩ := h.2 w1 a
  exact ⟨w2, c, d.tr b⟩
theorem Sub.fr {fs js : List Nat} (f : Fr h0 L fs js σ σ') (hf : 69 ∉ fs) (hj : ∀ j ∈ js, j < 61 ∨ 75 < j) : Sub h0 L σ σ' := by
  have e := (f.1 69 hf).1
  refine ⟨by rw [e]; exact Int.le_refl _, fun w hw => ⟨w, by rw [← e]; exact hw, EqW.fr f hj⟩⟩
/-- one row of the copy -/
def CP (L : Nat → Nat) (σ σ' : HS) (x n : Nat) : Prop := (∀ j, 61 ≤ j → j < n → (kJb j = true → sJ σ' (L j) x = sJ σ (L j) (x + 1)) ∧ (kJb j = false → sI σ' (L j) x = sI σ (L j) (x + 1))) ∧ (∀ j i, j < 80 → n ≤ j ∨ i ≠ x → sI σ' (L j) i = sI σ (L j) i ∧ sJ σ' (L j) i = sJ σ (L j) i)
theorem CP.rf {x : Nat} : CP L σ σ x 61 := ⟨fun j a b => by omega, fun _ _ _ _ => ⟨rfl, rfl⟩⟩
theorem CP.I {x n : Nat} {z : Int32} (h : CP L σ σ' x n) (hM : MdI h0 L σ') (hn : n < 75 ∧ 61 ≤ n) (hk : kJb n = false) (hz : z = sI σ' (L n) (x + 1)) (e : σ2 = h_uI σ' (L n) x z) : CP L σ σ2 x (n + 1) := by
  subst e
  refine ⟨fun j h1 h2 => ?_, fun j i h1 h2 => ?_⟩
  · rcases (show j < n ∨ j = n by omega) with q | q
    · refine ⟨(h.1 j h1 q).1, fun hq => ?_⟩
      have : L j ≠ L n := fun e => by have := hM.inj (by omega) (by omega) e; omega
      show u2 (sI σ') (L n) x z (L j) x = _
      rw [u2_addr this]
      exact (h.1 j h1 q).2 hq
    · subst q
      refine ⟨fun q => (by rw [hk] at q; cases q), fun _ => ?_⟩
      show u2 (sI σ') (L j) x z (L j) x = _
      rw [u2_same, hz]
      exact (h.2 j (x + 1) (by omega) (Or.inl (Nat.le_refl _))).1
  · refine ⟨?_, (h.2 j i h1 (by omega)).2⟩
    show u2 (sI σ') (L n) x z (L j) i = _
    rcases h2 with q | q
    · have : L j ≠ L n := fun e => by have := hM.inj (by omega) (by omega) e; omega
      rw [u2_addr this]
      exact (h.2 j i h1 (by omega)).1
    · rw [u2_pl q]
      exact (h.2 j i h1 (by omega)).1
theorem CP.J {x n : Nat} {z : Int64} (h : CP L σ σ' x n) (hM : MdI h0 L σ') (hn : n < 75 ∧ 61 ≤ n) (hk : kJb n = true) (hz : z = sJ σ' (L n) (x + 1)) (e : σ2 = h_uJ σ' (L n) x z) : CP L σ σ2 x (n + 1) := by
  subst e
  refine ⟨fun j h1 h2 => ?_, fun j i h1 h2 => ?_⟩
  · rcases (show j < n ∨ j = n by omega) with q | q
    · refine ⟨fun hq => ?_, (h.1 j h1 q).2⟩
      have : L j ≠ L n := fun e => by have := hM.inj (by omega) (by omega) e; omega
      show u2 (sJ σ') (L n) x z (L j) x = _
      rw [u2_addr this]
      exact (h.1 j h1 q).1 hq
    · subst q
      refine ⟨fun _ => ?_, fun q => (by rw [hk] at q; cases q)⟩
      show u2 (sJ σ') (L j) x z (L j) x = _
      rw [u2_same, hz]
      exact (h.2 j (x + 1) (by omega) (Or.inl (Nat.le_refl _))).2
  · refine ⟨(h.2 j i h1 (by omega)).1, ?_⟩
    show u2 (sJ σ') (L n) x z (L j) i = _
    rcases h2 with q | q
    · have : L j ≠ L n := fun e => by have := hM.inj (by omega) (by omega) e; omega
      rw [u2_addr this]
      exact (h.2 j i h1 (by omega)).2
    · rw [u2_pl q]
      exact (h.2 j i h1 (by omega)).2
/-- its bytes: m of them are copied -/
def CB (L : Nat → Nat) (σ σ' : HS) (x m : Nat) : Prop := (∀ i, i < m → sI σ' (L 75) (4000 * x + i) = sI σ (L 75) (4000 * (x + 1) + i)) ∧ (∀ k, k < 4000 * x ∨ 4000 * x + m ≤ k → sI σ' (L 75) k = sI σ (L 75) k) ∧ ∀ j, j < 75 → ∀ i, sI σ' (L j) i = sI σ (L j) i ∧ sJ σ' (L j) i = sJ σ (L j) i
theorem CB.rf {x : Nat} : CB L σ σ x 0 := ⟨fun _ h => by omega, fun _ _ => rfl, fun _ _ _ => ⟨rfl, rfl⟩⟩
theorem CB.st {x m k : Nat} {z : Int32} (h : CB L σ σ' x m) (hM : MdI h0 L σ') (hm : m < 4000) (hk : k = 4000 * x + m) (hz : z = sI σ' (L 75) (4000 * (x + 1) + m)) (e : σ2 = h_uI σ' (L 75) k z) : CB L σ σ2 x (m + 1) := by
  subst e; subst hk
  refine ⟨fun i hi => ?_, fun k hk => ?_, fun j hj i => ⟨?_, (h.2.2 j hj i).2⟩⟩
  · show u2 (sI σ') (L 75) (4000 * x + m) z (L 75) (4000 * x + i) = _
    rcases (show i < m ∨ i = m by omega) with q | q
    · rw [u2_pl (by omega)]
      exact h.1 i q
    · subst q
      rw [u2_same, hz]
      exact h.2.1 (4000 * (x + 1) + i) (by omega)
  · show u2 (sI σ') (L 75) (4000 * x + m) z (L 75) k = _
    rw [u2_pl (by omega)]
    exact h.2.1 k (by omega)
  · show u2 (sI σ') (L 75) (4000 * x + m) z (L j) i = _
    have : L j ≠ L 75 := fun e => by have := hM.inj (by omega) (by omega) e; omega
    rw [u2_addr this]
    exact (h.2.2 j hj i).1
/-- all behind a, as far as x, has come one down -/
def FW (L : Nat → Nat) (σ σ' : HS) (a x : Nat) : Prop := (∀ w, w < a → EqW L σ σ' w w) ∧ (∀ w, a ≤ w → w < x → EqW L σ σ' (w + 1) w) ∧ (∀ j w, j < 75 → x ≤ w → sI σ' (L j) w = sI σ (L j) w ∧ sJ σ' (L j) w = sJ σ (L j) w) ∧ ∀ k, 4000 * x ≤ k → sI σ' (L 75) k = sI σ (L 75) k
theorem FW.rf {a : Nat} (hq : ∀ j, j < 76 → ∀ i, sI σ' (L j) i = sI σ (L j) i ∧ sJ σ' (L j) i = sJ σ (L j) i) : FW L σ σ' a a := ⟨fun w _ => ⟨fun j h1 h2 => ⟨fun _ => (hq j (by omega) w).2, fun _ => (hq j (by omega) w).1⟩, fun i _ _ => (hq 75 (by omega) _).1⟩, fun w _ _ => by omega, fun j w h _ => hq j (by omega) w, fun k _ => (hq 75 (by omega) k).1⟩
theorem FW.st {a x m : Nat} {σ3 : HS} (h : FW L σ σ' a x) (ha : a ≤ x) (hc : CP L σ' σ2 x 75) (hb : CB L σ2 σ3 x m) (hm : (sI σ3 (L 74) x).toInt ≤ m) (hm2 : m ≤ 4000) : FW L σ σ3 a (x + 1) := by
  have hw : ∀ w, w < x → EqW L σ' σ3 w w := fun w q => ⟨fun j h1 h2 => ⟨fun _ => by rw [(hb.2.2 j (by omega) w).2, (hc.2 j w (by omega) (by omega)).2], fun _ => by rw [(hb.2.2 j (by omega) w).1, (hc.2 j w (by omega) (by omega)).1]⟩, fun i hi _ => by rw [hb.2.1 (4000 * w + i) (by omega), (hc.2 75 (4000 * w + i) (by omega) (by omega)).1]⟩
  refine ⟨fun w q => (h.1 w q).tr (hw w (by omega)), fun w q1 q2 => ?_, fun j w q1 q2 => ?_, fun k q => ?_⟩
  · rcases (show w < x ∨ w = x by omega) with q | q
    · exact (h.2.1 w q1 q).tr (hw w q)
    · subst q
      have e : sI σ3 (L 74) w = sI σ (L 74) (w + 1) := by rw [(hb.2.2 74 (by omega) w).1, (hc.1 74 (by omega) (by omega)).2 rfl, (h.2.2.1 74 (w + 1) (by omega) (by omega)).1]
      refine ⟨fun j h1 h2 => ⟨fun g => ?_, fun g => ?_⟩, fun i h1 h2 => ?_⟩
      · rw [(hb.2.2 j (by omega) w).2, (hc.1 j (by omega) (by omega)).1 g, (h.2.2.1 j (w + 1) (by omega) (by omega)).2]
      · rw [(hb.2.2 j (by omega) w).1, (hc.1 j (by omega) (by omega)).2 g, (h.2.2.1 j (w + 1) (by omega) (by omega)).1]
      · rw [← e] at h2
        rw [hb.1 i (by omega), (hc.2 75 (4000 * (w + 1) + i) (by omega) (by omega)).1, h.2.2.2 (4000 * (w + 1) + i) (by omega)]
  · rw [(hb.2.2 j q1 w).1, (hb.2.2 j q1 w).2, (hc.2 j w (by omega) (by omega)).1, (hc.2 j w (by omega) (by omega)).2]
    exact h.2.2.1 j w q1 (by omega)
  · rw [hb.2.1 k (by omega), (hc.2 75 k (by omega) (by omega)).1, h.2.2.2 k (by omega)]
/-- one is forgotten -/
def Fg (h0 : Nat) (L : Nat → Nat) (σ σ' : HS) (a : Nat) : Prop := (sI σ' h0 69).toInt = (sI σ h0 69).toInt - 1 ∧ (∀ w, w < a → EqW L σ σ' w w) ∧ ∀ w : Nat, a ≤ w → (w : Int) < (sI σ' h0 69).toInt → EqW L σ σ' (w + 1) w
theorem Fg.sub {a : Nat} (h : Fg h0 L σ σ' a) : Sub h0 L σ σ' := by
  refine ⟨by have := h.1; omega, fun w hw => ?_⟩
  have h1 := h.1
  by_cases q : w < a
  · exact ⟨w, by omega, h.2.1 w q⟩
  · exact ⟨w + 1, by omega, h.2.2 w (by omega) hw⟩
end R64
theorem nar_byte {z : Int32} (h : -128 ≤ z.toInt ∧ z.toInt ≤ 127) : vp_nar .byte z = z := by
  apply Int32.toInt_inj.mp
  rw [vp_nar_byte, Int8.toInt_toInt32, Int32.toInt_toInt8]
  exact Int.bmod_eq_of_le (by omega) (by omega)
theorem nar_bool {z : Int32} (h : 0 ≤ z.toInt ∧ z.toInt ≤ 1) : vp_nar .boolean z = z := by
  rcases (show z.toInt = 0 ∨ z.toInt = 1 by omega) with e | e
  · have e1 : z = 0 := Int32.toInt_inj.mp e
    subst e1; decide
  · have e1 : z = 1 := Int32.toInt_inj.mp e
    subst e1; decide

set_option maxRecDepth 100000 in
set_option maxHeartbeats 4000000 in
theorem s_X12_lay {h0 : Nat} {L : Nat → Nat} {σ : HS} (hI : OKM h0 L σ) (a1 : Int32) (hz : (sI σ h0 1).toInt ≤ 7996) {post : HS → Prop} (kk : ∀ (σ' : HS), OKM h0 L σ' → Fr h0 L [1] [0] σ σ' → ((sI σ' h0 1).toInt = (sI σ h0 1).toInt + 4) → post σ') : F_X12_lay h0 L a1 post σ := by
  unfold F_X12_lay
  have k_m8 : ((-8) : Int32).toInt = (-8) := rfl
  have k_0 : (0 : Int32).toInt = 0 := rfl
  have k_1 : (1 : Int32).toInt = 1 := rfl
  have k_24 : (24 : Int32).toInt = 24 := rfl
  have rg_a1 := i_range a1
  have hfr : Fr h0 L [1] [0] σ σ := Fr.rf
  refine lw_in (fun (x : Int32) (σ' : HS) => OKM h0 L σ' ∧ Fr h0 L [1] [0] σ σ' ∧ ((-8 ≤ x.toInt ∧ x.toInt ≤ 24) ∧ (8 * ((sI σ' h0 1).toInt - (sI σ h0 1).toInt) = 24 - x.toInt) ∧ (-8 ≤ x.toInt) ∧ ((sI σ h0 1).toInt ≤ (sI σ' h0 1).toInt))) (fun (x : Int32) (σ' : HS) => (x.toInt + 8).toNat) ⟨hI, hfr, (by (try dsimp only); omega)⟩ (fun x1 σ2 hJ K3 hK3 => ?_)
  obtain ⟨hI, hfr, hv⟩ := hJ
  (try dsimp only at hv)
  have rg_x1 := i_range x1
  refine ⟨fun c1 => ?_, fun c1 => ?_⟩
  · exact kk σ2 hI hfr (by (try dsimp only); omega)
  · intro z5 ez5
    have vz5 := hI.fI 1 0 8000 (by decide) rfl rfl rfl ez5
    have wz5 : z5.toInt = (sI σ2 h0 1).toInt := by rw [ez5]
    intro z6 ez6
    have rg_z6 := i_range z6
    intro z7 ez7
    have hz7 := i_b8 ez7
    have rg_z7 := i_range z7
    refine ⟨by omega, ?_⟩
    intro σ8 eσ8
    have hMp := hI.2
    have hI := hI.pA 0 (-128) 127 (by decide) (by decide) rfl rfl (i_byte _) eσ8
    have hfr := hfr.aI hMp (by decide) eσ8 (by decide)
    have f1σ8 : Fr h0 L [] [0] σ2 σ8 := Fr.rf.aI hMp (by decide) eσ8 (by decide)
    have tk1 : (sI σ8 h0 1).toInt = (sI σ2 h0 1).toInt := by rw [(f1σ8.1 1 (by decide)).1]
    intro z9 ez9
    have vz9 := hI.fI 1 0 8000 (by decide) rfl rfl rfl ez9
    have wz9 : z9.toInt = (sI σ8 h0 1).toInt := by rw [ez9]
    intro z10 ez10
    try have hz10 := i_add ez10 (by omega) (by omega)
    have rg_z10 := i_range z10
    intro σ11 eσ11
    have hMp := hI.2
    have hI := hI.pF 1 0 8000 rfl rfl (by omega) eσ11
    have hfr := hfr.fI hMp eσ11 (by decide) rfl
    have uσ11 : (sI σ11 h0 1).toInt = z10.toInt := by rw [eσ11]; exact congrArg Int32.toInt u2_same
    have f1σ11 : Fr h0 L [1] [] σ8 σ11 := Fr.rf.fI hMp eσ11 (by decide) rfl
    intro z12 ez12
    try have hz12 := i_add ez12 (by omega) (by omega)
    have rg_z12 := i_range z12
    exact hK3 z12 σ11 ⟨hI, hfr, (by (try dsimp only); omega)⟩ (by (try dsimp only); omega)
set_option maxRecDepth 100000 in
set_option maxHeartbeats 4000000 in
theorem s_X12_feed {h0 : Nat} {L : Nat → Nat} {σ : HS} (hI : OKM h0 L σ) (a1 : Int32) (a2 : Int32) (a3 : Int32) (a4 : Int32) (a5 : Int32)  {post : Int32 → HS → Prop} (kk : ∀ (r : Int32) (σ' : HS), OKM h0 L σ' → Fr h0 L [1] [0] σ σ' → ((r.toInt = -1 ∧ 7980 < (sI σ h0 1).toInt ∧ (sI σ' h0 1).toInt = (sI σ h0 1).toInt) ∨ (r.toInt = (sI σ h0 1).toInt + 20 ∧ r.toInt = (sI σ' h0 1).toInt)) → post r σ') : F_X12_feed h0 L a1 a2 a3 a4 a5 post σ := by
  unfold F_X12_feed
  have k_m1 : ((-1) : Int32).toInt = (-1) := rfl
  have k_0 : (0 : Int32).toInt = 0 := rfl
  have k_20 : (20 : Int32).toInt = 20 := rfl
  have k_8000 : (8000 : Int32).toInt = 8000 := rfl
  have rg_a1 := i_range a1
  have rg_a2 := i_range a2
  have rg_a3 := i_range a3
  have rg_a4 := i_range a4
  have rg_a5 := i_range a5
  have hfr : Fr h0 L [1] [0] σ σ := Fr.rf
  intro z1 ez1
  have vz1 := hI.fI 1 0 8000 (by decide) rfl rfl rfl ez1
  have wz1 : z1.toInt = (sI σ h0 1).toInt := by rw [ez1]
  intro z2 ez2
  try have hz2 := i_add ez2 (by omega) (by omega)
  have rg_z2 := i_range z2
  refine ⟨fun c1 => ?_, fun c1 => ?_⟩
  · refine s_X12_lay hI a1 (by omega) (fun σ3 hI fz4 pz4 => ?_)
    have hfr := hfr.tr fz4 (by decide) (by decide)
    refine s_X12_lay hI a2 (by omega) (fun σ5 hI fz6 pz6 => ?_)
    have hfr := hfr.tr fz6 (by decide) (by decide)
    refine s_X12_lay hI a3 (by omega) (fun σ7 hI fz8 pz8 => ?_)
    have hfr := hfr.tr fz8 (by decide) (by decide)
    refine s_X12_lay hI a4 (by omega) (fun σ9 hI fz10 pz10 => ?_)
    have hfr := hfr.tr fz10 (by decide) (by decide)
    refine s_X12_lay hI a5 (by omega) (fun σ11 hI fz12 pz12 => ?_)
    have hfr := hfr.tr fz12 (by decide) (by decide)
    intro z13 ez13
    have vz13 := hI.fI 1 0 8000 (by decide) rfl rfl rfl ez13
    have wz13 : z13.toInt = (sI σ11 h0 1).toInt := by rw [ez13]
    exact kk z13 σ11 hI hfr (by (try dsimp only); omega)
  · exact kk (-1) σ hI hfr (by (try dsimp only); omega)
set_option maxRecDepth 100000 in
set_option maxHeartbeats 4000000 in
theorem s_X12_cut {h0 : Nat} {L : Nat → Nat} {σ : HS} (hI : OKM h0 L σ) (a1 : Int32)  {post : Int32 → HS → Prop} (kk : ∀ (r : Int32) (σ' : HS), OKM h0 L σ' → Fr h0 L [1] [] σ σ' → ((r.toInt = -1 ∧ (a1.toInt < 0 ∨ (sI σ h0 1).toInt < a1.toInt) ∧ (sI σ' h0 1).toInt = (sI σ h0 1).toInt) ∨ (0 ≤ a1.toInt ∧ a1.toInt ≤ (sI σ h0 1).toInt ∧ r.toInt = (sI σ h0 1).toInt - a1.toInt ∧ (sI σ' h0 1).toInt = a1.toInt)) → post r σ') : F_X12_cut h0 L a1 post σ := by
  unfold F_X12_cut
  have k_m1 : ((-1) : Int32).toInt = (-1) := rfl
  have k_0 : (0 : Int32).toInt = 0 := rfl
  have rg_a1 := i_range a1
  have hfr : Fr h0 L [1] [] σ σ := Fr.rf
  refine jn_dup ?_
  refine ⟨fun c1 => ?_, fun c1 => ?_⟩
  · (try dsimp only)
    exact kk (-1) σ hI hfr (by (try dsimp only); omega)
  · intro z6 ez6
    have vz6 := hI.fI 1 0 8000 (by decide) rfl rfl rfl ez6
    have wz6 : z6.toInt = (sI σ h0 1).toInt := by rw [ez6]
    refine ⟨fun c2 => ?_, fun c2 => ?_⟩
    · intro z7 ez7
      have vz7 := hI.fI 1 0 8000 (by decide) rfl rfl rfl ez7
      have wz7 : z7.toInt = (sI σ h0 1).toInt := by rw [ez7]
      intro z8 ez8
      try have hz8 := i_sub ez8 (by omega) (by omega)
      have rg_z8 := i_range z8
      intro σ9 eσ9
      have hMp := hI.2
      have hI := hI.pF 1 0 8000 rfl rfl (by omega) eσ9
      have hfr := hfr.fI hMp eσ9 (by decide) rfl
      have uσ9 : (sI σ9 h0 1).toInt = a1.toInt := by rw [eσ9]; exact congrArg Int32.toInt u2_same
      have f1σ9 : Fr h0 L [1] [] σ σ9 := Fr.rf.fI hMp eσ9 (by decide) rfl
      exact kk z8 σ9 hI hfr (by (try dsimp only); omega)
    · (try dsimp only)
      exact kk (-1) σ hI hfr (by (try dsimp only); omega)
set_option maxRecDepth 100000 in
set_option maxHeartbeats 4000000 in
theorem s_X12_connect {h0 : Nat} {L : Nat → Nat} {σ : HS} (hI : OKM h0 L σ) (a1 : Int32)  {post : Int32 → HS → Prop} (kk : ∀ (r : Int32) (σ' : HS), OKM h0 L σ' → Fr h0 L [] [25, 26, 28, 30, 31, 32, 33] σ σ' → (0 ≤ r.toInt ∧ r.toInt ≤ 1) → post r σ') : F_X12_connect h0 L a1 post σ := by
  unfold F_X12_connect
  have k_0 : (0 : Int32).toInt = 0 := rfl
  have k_1 : (1 : Int32).toInt = 1 := rfl
  have k_16 : (16 : Int32).toInt = 16 := rfl
  have rg_a1 := i_range a1
  have hfr : Fr h0 L [] [25, 26, 28, 30, 31, 32, 33] σ σ := Fr.rf
  refine s_X12_isLine hI a1  (fun z2 pz2 => ?_)
  have rg_z2 := i_range z2
  refine jn_dup ?_
  refine ⟨fun c1 => ?_, fun c1 => ?_⟩
  · (try dsimp only)
    refine ⟨by omega, ?_⟩
    exact kk 0 σ hI hfr (by (try dsimp only); omega)
  · refine ⟨by omega, ?_⟩
    intro z8 ez8
    have vz8 := hI.aI 25 6 0 1 (by decide) (by decide) rfl rfl rfl (i := a1.toInt) (by omega) ez8
    have wz8 : z8.toInt = (sI σ (L 25) a1.toInt.toNat).toInt := by rw [ez8]
    refine ⟨fun c2 => ?_, fun c2 => ?_⟩
    · refine ⟨by omega, ?_⟩
      intro σ9 eσ9
      have hMp := hI.2
      have hI := hI.pA 25 0 1 (by decide) (by decide) rfl rfl (i_bool _) eσ9
      have hfr := hfr.aI hMp (by decide) eσ9 (by decide)
      refine ⟨by omega, ?_⟩
      intro σ10 eσ10
      have hMp := hI.2
      have hI := hI.pA 26 0 1 (by decide) (by decide) rfl rfl (i_bool _) eσ10
      have hfr := hfr.aI hMp (by decide) eσ10 (by decide)
      refine ⟨by omega, ?_⟩
      intro σ11 eσ11
      have hMp := hI.2
      have hI := hI.pA 28 0 16000 (by decide) (by decide) rfl rfl (by omega) eσ11
      have hfr := hfr.aI hMp (by decide) eσ11 (by decide)
      refine ⟨by omega, ?_⟩
      intro σ12 eσ12
      have hMp := hI.2
      have hI := hI.pA 30 0 12003 (by decide) (by decide) rfl rfl (by omega) eσ12
      have hfr := hfr.aI hMp (by decide) eσ12 (by decide)
      refine ⟨by omega, ?_⟩
      intro σ13 eσ13
      have hMp := hI.2
      have hI := hI.pA 32 0 16 (by decide) (by decide) rfl rfl (by omega) eσ13
      have hfr := hfr.aI hMp (by decide) eσ13 (by decide)
      intro z14 ez14
      try have hz14 := i_mulk 16 rfl ez14 (by omega) (by omega)
      have rg_z14 := i_range z14
      refine ⟨by omega, ?_⟩
      intro σ15 eσ15
      have hMp := hI.2
      have hI := hI.pJ eσ15
      have hfr := hfr.aJ hMp (by decide) eσ15 (by decide)
      refine ⟨by omega, ?_⟩
      intro σ16 eσ16
      have hMp := hI.2
      have hI := hI.pJ eσ16
      have hfr := hfr.aJ hMp (by decide) eσ16 (by decide)
      refine ⟨by omega, ?_⟩
      exact kk 1 σ16 hI hfr (by (try dsimp only); omega)
    · (try dsimp only)
      refine ⟨by omega, ?_⟩
      exact kk 0 σ hI hfr (by (try dsimp only); omega)
set_option maxRecDepth 100000 in
set_option maxHeartbeats 4000000 in
theorem s_X12_late {h0 : Nat} {L : Nat → Nat} {σ : HS} (hI : OKM h0 L σ) (a1 : Int32) (a2 : Int64) (hz : 0 ≤ a1.toInt ∧ a1.toInt < 16) {post : HS → Prop} (kk : ∀ (σ' : HS), OKM h0 L σ' → Fr h0 L [91] [27, 28, 76] σ σ' → (True) → post σ') : F_X12_late h0 L a1 a2 post σ := by
  unfold F_X12_late
  have k_0 : (0 : Int32).toInt = 0 := rfl
  have k_2 : (2 : Int32).toInt = 2 := rfl
  have k_3 : (3 : Int32).toInt = 3 := rfl
  have k_9 : (9 : Int32).toInt = 9 := rfl
  have k_64 : (64 : Int32).toInt = 64 := rfl
  have kl_0 : (0 : Int64).toInt = 0 := rfl
  have kl_3 : (3 : Int64).toInt = 3 := rfl
  have kl_4 : (4 : Int64).toInt = 4 := rfl
  have kl_9 : (9 : Int64).toInt = 9 := rfl
  have rg_a1 := i_range a1
  have rg_a2 := l_range a2
  have hfr : Fr h0 L [91] [27, 28, 76] σ σ := Fr.rf
  refine jn_in (fun (x : Unit) (σ' : HS) => OKM h0 L σ' ∧ Fr h0 L [91] [27, 28, 76] σ σ' ∧ (True)) (fun x1 σ2 hJ => ?_) (fun K3 hK3 => ?_)
  · obtain ⟨hI, hfr, hv⟩ := hJ
    (try dsimp only at hv)
    intro z6 ez6
    have vz6 := hI.fI 91 0 1200 (by decide) rfl rfl rfl ez6
    have wz6 : z6.toInt = (sI σ2 h0 91).toInt := by rw [ez6]
    refine ⟨by omega, ?_⟩
    intro z7 ez7
    have vz7 := hI.aI 62 16 0 65535 (by decide) (by decide) rfl rfl rfl (i := a1.toInt) (by omega) ez7
    have wz7 : z7.toInt = (sI σ2 (L 62) a1.toInt.toNat).toInt := by rw [ez7]
    refine ⟨by omega, ?_⟩
    intro z8 ez8
    have vz8 := hI.aI 63 16 0 65535 (by decide) (by decide) rfl rfl rfl (i := a1.toInt) (by omega) ez8
    have wz8 : z8.toInt = (sI σ2 (L 63) a1.toInt.toNat).toInt := by rw [ez8]
    refine ⟨by omega, ?_⟩
    intro z9 ez9
    have vz9 := hI.aI 64 16 0 1 (by decide) (by decide) rfl rfl rfl (i := a1.toInt) (by omega) ez9
    have wz9 : z9.toInt = (sI σ2 (L 64) a1.toInt.toNat).toInt := by rw [ez9]
    refine jn_in (fun (x : Int64) (σ' : HS) => OKM h0 L σ' ∧ Fr h0 L [91] [27, 28, 76] σ σ' ∧ ((0 ≤ x.toInt ∧ x.toInt ≤ 4))) (fun x10 σ11 hJ => ?_) (fun K12 hK12 => ?_)
    · obtain ⟨hI, hfr, hv⟩ := hJ
      (try dsimp only at hv)
      have rg_x10 := l_range x10
      intro z15 ez15
      have rg_z15 := l_range z15
      refine ⟨by omega, ?_⟩
      intro z16 ez16
      have wz16 : z16.toInt = (sJ σ11 (L 65) a1.toInt.toNat).toInt := by rw [ez16]
      refine ⟨by omega, ?_⟩
      intro z17 ez17
      have wz17 : z17.toInt = (sJ σ11 (L 66) a1.toInt.toNat).toInt := by rw [ez17]
      refine ⟨by omega, ?_⟩
      intro z18 ez18
      have vz18 := hI.aI 67 16 0 7 (by decide) (by decide) rfl rfl rfl (i := a1.toInt) (by omega) ez18
      have wz18 : z18.toInt = (sI σ11 (L 67) a1.toInt.toNat).toInt := by rw [ez18]
      refine ⟨by omega, ?_⟩
      intro z19 ez19
      have wz19 : z19.toInt = (sJ σ11 (L 34) z18.toInt.toNat).toInt := by rw [ez19]
      refine s_X12_header hI a2 z7 z8 0 z15 z16 z17 z19  (fun σ20 hI fz21 pz21 => ?_)
      have hfr := hfr.tr fz21 (by decide) (by decide)
      refine ⟨by omega, ?_⟩
      intro z22 ez22
      have vz22 := hI.aI 61 16 0 5 (by decide) (by decide) rfl rfl rfl (i := a1.toInt) (by omega) ez22
      have wz22 : z22.toInt = (sI σ20 (L 61) a1.toInt.toNat).toInt := by rw [ez22]
      intro z23 ez23
      have vz23 := hI.fI 90 0 85000 (by decide) rfl rfl rfl ez23
      have wz23 : z23.toInt = (sI σ20 h0 90).toInt := by rw [ez23]
      refine s_X12_send hI z22 z23 z6 (by omega) (fun σ24 hI fz25 pz25 => ?_)
      have hfr := hfr.tr fz25 (by decide) (by decide)
      exact kk σ24 hI hfr trivial
    · skip
      refine ⟨fun c1 => ?_, fun c1 => ?_⟩
      · exact hK12 0 σ2 ⟨hI, hfr, (by (try dsimp only); omega)⟩
      · exact hK12 4 σ2 ⟨hI, hfr, (by (try dsimp only); omega)⟩
  · skip
    refine ⟨fun c2 => ?_, fun c2 => ?_⟩
    · exact hK3 () σ ⟨hI, hfr, trivial⟩
    · refine s_X12_body hI 9 (by omega) (fun σ26 hI fz27 pz27 => ?_)
      have hfr := hfr.tr fz27 (by decide) (by decide)
      refine s_X12_set hI 64 2 9 (by omega) (fun σ28 hI fz29 pz29 => ?_)
      have hfr := hfr.tr fz29 (by decide) (by decide)
      exact hK3 () σ28 ⟨hI, hfr, trivial⟩

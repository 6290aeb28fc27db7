/-! what a method of the reference leaves as it was: fields but fs, arrays but js -/
def Fr (h0 : Nat) (L : Nat → Nat) (fs js : List Nat) (σ σ' : HS) : Prop := (∀ k, k ∉ fs → sI σ' h0 k = sI σ h0 k ∧ sJ σ' h0 k = sJ σ h0 k ∧ sP σ' h0 k = sP σ h0 k) ∧ (∀ j, j < 80 → j ∉ js → ∀ i, sI σ' (L j) i = sI σ (L j) i ∧ sJ σ' (L j) i = sJ σ (L j) i) ∧ ∀ k, (fkc 0 k ≠ 0 → sI σ' h0 k = sI σ h0 k) ∧ (fkc 0 k ≠ 1 → sJ σ' h0 k = sJ σ h0 k) ∧ (fkc 0 k ≠ 2 → sP σ' h0 k = sP σ h0 k)
theorem MdI.inj {h0 : Nat} {L : Nat → Nat} {σ : HS} (h : MdI h0 L σ) {i j : Nat} (hi : i < 80) (hj : j < 80) (e : L i = L j) : i = j := by
  have h1 := (h.2 i hi).2.2.1
  have h2 := (h.2 j hj).2.2.1
  rw [e, h2] at h1
  omega
theorem MdI.ne {h0 : Nat} {L : Nat → Nat} {σ : HS} (h : MdI h0 L σ) {j : Nat} (hj : j < 80) : L j ≠ h0 := fun e => by
  have h1 := (h.2 j hj).2.2.1
  rw [e, h.1.2] at h1
  omega
theorem Fr.rf {h0 : Nat} {L : Nat → Nat} {fs js : List Nat} {σ : HS} : Fr h0 L fs js σ σ := ⟨fun _ _ => ⟨rfl, rfl, rfl⟩, fun _ _ _ _ => ⟨rfl, rfl⟩, fun _ => ⟨fun _ => rfl, fun _ => rfl, fun _ => rfl⟩⟩
theorem Fr.tr {h0 : Nat} {L : Nat → Nat} {fs js fs2 js2 : List Nat} {a b c : HS} (h1 : Fr h0 L fs js a b) (h2 : Fr h0 L fs2 js2 b c) (hf : ∀ k ∈ fs2, k ∈ fs) (hj : ∀ k ∈ js2, k ∈ js) : Fr h0 L fs js a c := by
  refine ⟨fun k hk => ?_, fun j hj1 hj2 i => ?_, fun k => ?_⟩
  · obtain ⟨a1, a2, a3⟩ := h1.1 k hk
    obtain ⟨b1, b2, b3⟩ := h2.1 k (fun q => hk (hf k q))
    exact ⟨b1.trans a1, b2.trans a2, b3.trans a3⟩
  · obtain ⟨a1, a2⟩ := h1.2.1 j hj1 hj2 i
    obtain ⟨b1, b2⟩ := h2.2.1 j hj1 (fun q => hj2 (hj j q)) i
    exact ⟨b1.trans a1, b2.trans a2⟩
  · obtain ⟨a1, a2, a3⟩ := h1.2.2 k
    obtain ⟨b1, b2, b3⟩ := h2.2.2 k
    exact ⟨fun q => (b1 q).trans (a1 q), fun q => (b2 q).trans (a2 q), fun q => (b3 q).trans (a3 q)⟩
theorem Fr.fI {h0 : Nat} {L : Nat → Nat} {fs js : List Nat} {a b c : HS} {k : Nat} {v : Int32} (h1 : Fr h0 L fs js a b) (hM : MdI h0 L b) (e : c = h_uI b h0 k v) (hk : k ∈ fs) (hq : fkc 0 k = 0) : Fr h0 L fs js a c := by
  subst e
  refine ⟨fun x hx => ?_, fun j hj1 hj2 i => ?_, fun x => ?_⟩
  · have hne : x ≠ k := fun q => hx (q ▸ hk)
    exact ⟨(u2_pl hne).trans (h1.1 x hx).1, (h1.1 x hx).2.1, (h1.1 x hx).2.2⟩
  · exact ⟨(u2_addr (hM.ne hj1)).trans (h1.2.1 j hj1 hj2 i).1, (h1.2.1 j hj1 hj2 i).2⟩
  · obtain ⟨a1, a2, a3⟩ := h1.2.2 x
    refine ⟨fun q => ?_, a2, a3⟩
    have hne : x ≠ k := fun w => q (w ▸ hq)
    exact (u2_pl hne).trans (a1 q)
theorem Fr.fJ {h0 : Nat} {L : Nat → Nat} {fs js : List Nat} {a b c : HS} {k : Nat} {v : Int64} (h1 : Fr h0 L fs js a b) (hM : MdI h0 L b) (e : c = h_uJ b h0 k v) (hk : k ∈ fs) (hq : fkc 0 k = 1) : Fr h0 L fs js a c := by
  subst e
  refine ⟨fun x hx => ?_, fun j hj1 hj2 i => ?_, fun x => ?_⟩
  · have hne : x ≠ k := fun q => hx (q ▸ hk)
    exact ⟨(h1.1 x hx).1, (u2_pl hne).trans (h1.1 x hx).2.1, (h1.1 x hx).2.2⟩
  · exact ⟨(h1.2.1 j hj1 hj2 i).1, (u2_addr (hM.ne hj1)).trans (h1.2.1 j hj1 hj2 i).2⟩
  · obtain ⟨a1, a2, a3⟩ := h1.2.2 x
    refine ⟨a1, fun q => ?_, a3⟩
    have hne : x ≠ k := fun w => q (w ▸ hq)
    exact (u2_pl hne).trans (a2 q)
theorem Fr.aI {h0 : Nat} {L : Nat → Nat} {fs js : List Nat} {a b c : HS} {j k : Nat} {v : Int32} (h1 : Fr h0 L fs js a b) (hM : MdI h0 L b) (hj : j < 80) (e : c = h_uI b (L j) k v) (hk : j ∈ js) : Fr h0 L fs js a c := by
  subst e
  refine ⟨fun x hx => ?_, fun i hi1 hi2 n => ?_, fun x => ?_⟩
  · exact ⟨(u2_addr (hM.ne hj).symm).trans (h1.1 x hx).1, (h1.1 x hx).2.1, (h1.1 x hx).2.2⟩
  · have hne : L i ≠ L j := fun q => hi2 (hM.inj hi1 hj q ▸ hk)
    exact ⟨(u2_addr hne).trans (h1.2.1 i hi1 hi2 n).1, (h1.2.1 i hi1 hi2 n).2⟩
  · obtain ⟨a1, a2, a3⟩ := h1.2.2 x
    exact ⟨fun q => (u2_addr (hM.ne hj).symm).trans (a1 q), a2, a3⟩
theorem Fr.aJ {h0 : Nat} {L : Nat → Nat} {fs js : List Nat} {a b c : HS} {j k : Nat} {v : Int64} (h1 : Fr h0 L fs js a b) (hM : MdI h0 L b) (hj : j < 80) (e : c = h_uJ b (L j) k v) (hk : j ∈ js) : Fr h0 L fs js a c := by
  subst e
  refine ⟨fun x hx => ?_, fun i hi1 hi2 n => ?_, fun x => ?_⟩
  · exact ⟨(h1.1 x hx).1, (u2_addr (hM.ne hj).symm).trans (h1.1 x hx).2.1, (h1.1 x hx).2.2⟩
  · have hne : L i ≠ L j := fun q => hi2 (hM.inj hi1 hj q ▸ hk)
    exact ⟨(h1.2.1 i hi1 hi2 n).1, (u2_addr hne).trans (h1.2.1 i hi1 hi2 n).2⟩
  · obtain ⟨a1, a2, a3⟩ := h1.2.2 x
    exact ⟨a1, fun q => (u2_addr (hM.ne hj).symm).trans (a2 q), a3⟩
theorem Fr.fP {h0 : Nat} {L : Nat → Nat} {fs js : List Nat} {a b c : HS} {k : Nat} {v : Option Nat} (h1 : Fr h0 L fs js a b) (e : c = h_uP b h0 k v) (hk : k ∈ fs) (hq : fkc 0 k = 2) : Fr h0 L fs js a c := by
  subst e
  refine ⟨fun x hx => ?_, h1.2.1, fun x => ?_⟩
  · have hne : x ≠ k := fun q => hx (q ▸ hk)
    exact ⟨(h1.1 x hx).1, (h1.1 x hx).2.1, (u2_pl hne).trans (h1.1 x hx).2.2⟩
  · obtain ⟨a1, a2, a3⟩ := h1.2.2 x
    refine ⟨a1, a2, fun q => ?_⟩
    have hne : x ≠ k := fun w => q (w ▸ hq)
    exact (u2_pl hne).trans (a3 q)
/-- a field that has its first number again is no longer among those that may have changed -/
theorem Fr.dI {h0 : Nat} {L : Nat → Nat} {fs js fs2 : List Nat} {a b : HS} (h1 : Fr h0 L fs js a b) (k : Nat) (hq : fkc 0 k = 0) (e : sI b h0 k = sI a h0 k) (hs : ∀ x ∈ fs, x ≠ k → x ∈ fs2) : Fr h0 L fs2 js a b := by
  refine ⟨fun x hx => ?_, h1.2⟩
  by_cases hxk : x = k
  · subst hxk
    exact ⟨e, (h1.2.2 x).2.1 (by rw [hq]; decide), (h1.2.2 x).2.2 (by rw [hq]; decide)⟩
  · exact h1.1 x (fun q => hx (hs x q hxk))
theorem Fr.dJ {h0 : Nat} {L : Nat → Nat} {fs js fs2 : List Nat} {a b : HS} (h1 : Fr h0 L fs js a b) (k : Nat) (hq : fkc 0 k = 1) (e : sJ b h0 k = sJ a h0 k) (hs : ∀ x ∈ fs, x ≠ k → x ∈ fs2) : Fr h0 L fs2 js a b := by
  refine ⟨fun x hx => ?_, h1.2⟩
  by_cases hxk : x = k
  · subst hxk
    exact ⟨(h1.2.2 x).1 (by rw [hq]; decide), e, (h1.2.2 x).2.2 (by rw [hq]; decide)⟩
  · exact h1.1 x (fun q => hx (hs x q hxk))
theorem Fr.dP {h0 : Nat} {L : Nat → Nat} {fs js fs2 : List Nat} {a b : HS} (h1 : Fr h0 L fs js a b) (k : Nat) (hq : fkc 0 k = 2) (e : sP b h0 k = sP a h0 k) (hs : ∀ x ∈ fs, x ≠ k → x ∈ fs2) : Fr h0 L fs2 js a b := by
  refine ⟨fun x hx => ?_, h1.2⟩
  by_cases hxk : x = k
  · subst hxk
    exact ⟨(h1.2.2 x).1 (by rw [hq]; decide), (h1.2.2 x).2.1 (by rw [hq]; decide), e⟩
  · exact h1.1 x (fun q => hx (hs x q hxk))

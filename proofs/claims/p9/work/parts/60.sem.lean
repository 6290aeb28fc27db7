/-! what holds of the reference's numbers: they lie in their bounds, its arrays lie where they lay -/
def OKM (h0 : Nat) (L : Nat → Nat) (σ : HS) : Prop := OK ph τ0 σ ∧ MdI h0 L σ
section R60
variable {h0 : Nat} {L : Nat → Nat} {σ σ' : HS}
theorem OKM.fI (hI : OKM h0 L σ) (k : Nat) (lo hi : Int) (hk : k < 120) (hf : fkc 0 k = 0) (hlo : τ0.1 0 k = lo) (hhi : τ0.2.1 0 k = hi) {z : Int32} (e : z = sI σ h0 k) : lo ≤ z.toInt ∧ z.toInt ≤ hi := by
  have h := hI.1.int hI.2.1.1 hI.2.1.2 rfl (by decide) hk hf
  rw [← hlo, ← hhi, e]
  exact h
theorem OKM.aI (hI : OKM h0 L σ) (j N : Nat) (lo hi : Int) (hj : j < 80) (hp : ph (30 + j) = 20 ∨ ph (30 + j) = 21 ∨ ph (30 + j) = 23) (hN : lnL.getD j 0 = N) (hlo : τ0.1 (30 + j) 0 = lo) (hhi : τ0.2.1 (30 + j) 0 = hi) {i : Int} (hb : 0 ≤ i ∧ i < N) {z : Int32} (e : z = sI σ (L j) i.toNat) : lo ≤ z.toInt ∧ z.toInt ≤ hi := by
  obtain ⟨-, a1, a2, a3⟩ := hI.2.2 j hj
  have hn : i.toNat < sN σ (L j) := by rw [a3, hN]; omega
  have h : iv τ0 (30 + j) 0 (sI σ (L j) i.toNat) := by
    rcases hp with hp | hp | hp
    · exact hI.1.elt a1 a2 hp (by decide) hn (by unfold ek; rw [hp]; rfl)
    · exact hI.1.elt a1 a2 hp (by decide) hn (by unfold ek; rw [hp]; rfl)
    · exact hI.1.elt a1 a2 hp (by decide) hn (by unfold ek; rw [hp]; rfl)
  rw [← hlo, ← hhi, e]
  exact h
theorem OKM.pF {v : Int32} (hI : OKM h0 L σ) (k : Nat) (lo hi : Int) (hlo : τ0.1 0 k = lo) (hhi : τ0.2.1 0 k = hi) (hv : lo ≤ v.toInt ∧ v.toInt ≤ hi) (e : σ' = h_uI σ h0 k v) : OKM h0 L σ' := by
  subst e
  refine ⟨hI.1.uI (fun _ => ?_), hI.2⟩
  rw [hI.2.1.2, (ek_obj (ph := ph) (r := 0) (ci := 0) (k := k) rfl (by decide)).2]
  show τ0.1 0 k ≤ _ ∧ _ ≤ τ0.2.1 0 k
  rw [hlo, hhi]
  exact hv
theorem OKM.pJ {v : Int64} {a k : Nat} (hI : OKM h0 L σ) (e : σ' = h_uJ σ a k v) : OKM h0 L σ' := by
  subst e
  exact ⟨hI.1.uJ, hI.2⟩
theorem OKM.pA {v : Int32} {n : Nat} (hI : OKM h0 L σ) (j : Nat) (lo hi : Int) (hj : j < 80) (hp : ¬ ph (30 + j) < 20) (hlo : τ0.1 (30 + j) 0 = lo) (hhi : τ0.2.1 (30 + j) 0 = hi) (hv : lo ≤ v.toInt ∧ v.toInt ≤ hi) (e : σ' = h_uI σ (L j) n v) : OKM h0 L σ' := by
  subst e
  obtain ⟨-, a1, a2, a3⟩ := hI.2.2 j hj
  refine ⟨hI.1.uI (fun _ => ?_), hI.2⟩
  rw [a2, ix_arr (ph := ph) (r := 30 + j) rfl hp]
  show τ0.1 (30 + j) 0 ≤ _ ∧ _ ≤ τ0.2.1 (30 + j) 0
  rw [hlo, hhi]
  exact hv
theorem OKM.pQ {v : Option Nat} (hI : OKM h0 L σ) (e : σ' = h_uP σ h0 85 v) : OKM h0 L σ' := by
  subst e
  refine ⟨hI.1.uP (fun _ => Or.inl ?_), hI.2.1, fun j hj => ⟨?_, (hI.2.2 j hj).2⟩⟩
  · rw [hI.2.1.2, (ek_obj (ph := ph) (r := 0) (ci := 0) (k := 85) rfl (by decide)).2]
    rfl
  · show u2 (sP σ) h0 85 v h0 (slF.getD j 0) = _
    rw [u2_pl (slF_ne j hj)]
    exact (hI.2.2 j hj).1
end R60
theorem i_mulr {x k z : Int32} (K : Int) (hk : k.toInt = K) (h : z = x * k) (h1 : -2147483648 ≤ K * x.toInt) (h2 : K * x.toInt ≤ 2147483647) : z.toInt = K * x.toInt := by
  rw [h, Int32.toInt_mul, hk, Int.mul_comm]
  exact bm h1 h2
theorem jn_dup {β : Type} {B : (β → HS → Prop) → Prop} {D : β → HS → Prop} (h : B D) : jn B D := h
theorem i_orm {x y z : Int32} (h : z = x ||| y) (hx : 0 ≤ x.toInt ∧ x.toInt ≤ 1) (hy : 0 ≤ y.toInt ∧ y.toInt ≤ 1) : z.toInt = max x.toInt y.toInt := by
  rcases (show x.toInt = 0 ∨ x.toInt = 1 by omega) with e | e <;> rcases (show y.toInt = 0 ∨ y.toInt = 1 by omega) with f | f
  · have e1 : x = 0 := Int32.toInt_inj.mp e
    have f1 : y = 0 := Int32.toInt_inj.mp f
    subst e1; subst f1; subst h; decide
  · have e1 : x = 0 := Int32.toInt_inj.mp e
    have f1 : y = 1 := Int32.toInt_inj.mp f
    subst e1; subst f1; subst h; decide
  · have e1 : x = 1 := Int32.toInt_inj.mp e
    have f1 : y = 0 := Int32.toInt_inj.mp f
    subst e1; subst f1; subst h; decide
  · have e1 : x = 1 := Int32.toInt_inj.mp e
    have f1 : y = 1 := Int32.toInt_inj.mp f
    subst e1; subst f1; subst h; decide
theorem i_and1 {x z : Int32} (h : z = x &&& 1) (hx : 0 ≤ x.toInt) : z.toInt = x.toInt % 2 := by
  subst h
  have e : (x &&& 1).toBitVec = x.toBitVec &&& 1#32 := rfl
  have n1 : (x.toBitVec &&& 1#32).toNat = x.toBitVec.toNat % 2 := by rw [BitVec.toNat_and]; exact Nat.and_one_is_mod _
  have hl := x.toBitVec.isLt
  have hx2 : 0 ≤ x.toBitVec.toInt := hx
  show (x &&& 1).toBitVec.toInt = x.toBitVec.toInt % 2
  rw [e]
  rw [BitVec.toInt_eq_toNat_cond] at hx2 ⊢
  rw [BitVec.toInt_eq_toNat_cond, n1]
  by_cases c : 2 * x.toBitVec.toNat < 2 ^ 32
  · rw [if_pos c, if_pos (by omega)]
    omega
  · rw [if_neg c] at hx2
    omega
theorem atI {σ σ' : HS} {a n : Nat} {v : Int32} (e : σ' = h_uI σ a n v) (i : Nat) : (i = n ∧ (sI σ' a i).toInt = v.toInt) ∨ (i ≠ n ∧ (sI σ' a i).toInt = (sI σ a i).toInt) := by
  subst e
  by_cases h : i = n
  · subst h
    exact Or.inl ⟨rfl, congrArg Int32.toInt u2_same⟩
  · exact Or.inr ⟨h, congrArg Int32.toInt (u2_pl h)⟩
theorem atJ {σ σ' : HS} {a n : Nat} {v : Int64} (e : σ' = h_uJ σ a n v) (i : Nat) : (i = n ∧ (sJ σ' a i).toInt = v.toInt) ∨ (i ≠ n ∧ (sJ σ' a i).toInt = (sJ σ a i).toInt) := by
  subst e
  by_cases h : i = n
  · subst h
    exact Or.inl ⟨rfl, congrArg Int64.toInt u2_same⟩
  · exact Or.inr ⟨h, congrArg Int64.toInt (u2_pl h)⟩
theorem i_b8 {x z : Int32} (h : z = x.toInt8.toInt32) : -128 ≤ z.toInt ∧ z.toInt ≤ 127 := by
  rw [h, Int8.toInt_toInt32]
  have h1 := Int8.le_toInt x.toInt8
  have h2 := Int8.toInt_lt x.toInt8
  omega

/-! a typed heap: addresses with roles; numbers and references by address and place -/
abbrev HS : Type := List Nat × (Nat → Nat) × (Nat → Nat) × (Nat → Nat → Int32) × (Nat → Nat → Int64) × (Nat → Nat → Option Nat)
abbrev sL (σ : HS) : List Nat := σ.1
abbrev sK (σ : HS) : Nat → Nat := σ.2.1
abbrev sN (σ : HS) : Nat → Nat := σ.2.2.1
abbrev sI (σ : HS) : Nat → Nat → Int32 := σ.2.2.2.1
abbrev sJ (σ : HS) : Nat → Nat → Int64 := σ.2.2.2.2.1
abbrev sP (σ : HS) : Nat → Nat → Option Nat := σ.2.2.2.2.2
/-- the types of a class's fields, how many there are -/
def tyC (c : Nat) : Nat → FieldType := match c with
  | 0 => tyX12 | 1 => tyX11 | 2 => tyX6 | 3 => tyX2 | 4 => tyX1 | 5 => tyX4 | 6 => tyX9 | 7 => tyJx4a65c | 8 => tyX0 | 9 => tyX3 | 10 => tyX5 | 11 => tyX7 | 12 => tyX8 | _ => tyX10
def nfc (c : Nat) : Nat := match c with
  | 0 => 120 | 1 => 18 | 2 => 2 | 3 => 15 | 4 => 15 | 5 => 14 | 6 => 2 | 7 => 3 | 8 => 21 | 9 => 4 | 10 => 15 | 11 => 5 | 12 => 4 | _ => 13
def kty (ty : FieldType) : Nat := match ty with
  | .long => 1 | .object _ => 2 | .array _ => 2 | _ => 0
def fkc (c k : Nat) : Nat := kty (tyC c k)
def fv (c : Nat) (i : Int32) (j : Int64) (q : Option Nat) : Value := if c = 0 then .int i else if c = 1 then .long j else va_rf q
def flds (σ : HS) (a c : Nat) : List Value := (List.range (nfc c)).map (fun k => fv (fkc c k) (sI σ a k) (sJ σ a k) (sP σ a k))
def arrE (t : Nat → ClassId) (p n : Nat) (i : Nat → Int32) (j : Nat → Int64) (q : Nat → Option Nat) : va_E := if p = 22 then .inl (t 2, n, .inr (.inl j)) else if p < 24 then .inl (t (p - 20), n, .inl i) else .inl (t (p - 20), n, .inr (.inr (.inr (.inr q))))
section HP
variable (ph : Nat → Nat)
def ent (t : Nat → ClassId) (σ : HS) (a : Nat) : va_E := if ph (sK σ a) < 20 then .inr (ph (sK σ a), flds σ a (ph (sK σ a))) else arrE t (ph (sK σ a)) (sN σ a) (sI σ a) (sJ σ a) (sP σ a)
def hWd (t : Nat → ClassId) (σ : HS) : va_W := va_pl (sL σ) (ent ph t σ)
end HP
def u2 {α : Type} (f : Nat → Nat → α) (a k : Nat) (v : α) : Nat → Nat → α := fun x i => if x = a then (if i = k then v else f x i) else f x i
def h_uI (σ : HS) (a k : Nat) (v : Int32) : HS := (sL σ, sK σ, sN σ, u2 (sI σ) a k v, sJ σ, sP σ)
def h_uJ (σ : HS) (a k : Nat) (v : Int64) : HS := (sL σ, sK σ, sN σ, sI σ, u2 (sJ σ) a k v, sP σ)
def h_uP (σ : HS) (a k : Nat) (v : Option Nat) : HS := (sL σ, sK σ, sN σ, sI σ, sJ σ, u2 (sP σ) a k v)
theorem u2_same {α : Type} {f : Nat → Nat → α} {a k : Nat} {v : α} : u2 f a k v a k = v := by simp [u2]
theorem u2_addr {α : Type} {f : Nat → Nat → α} {a k x i : Nat} {v : α} (h : x ≠ a) : u2 f a k v x i = f x i := by simp [u2, h]
theorem u2_pl {α : Type} {f : Nat → Nat → α} {a k x i : Nat} {v : α} (h : i ≠ k) : u2 f a k v x i = f x i := by
  unfold u2
  by_cases hx : x = a
  · rw [if_pos hx, if_neg h]
  · rw [if_neg hx]
theorem flds_get {σ : HS} {a c k : Nat} (h : k < nfc c) : (flds σ a c)[k]? = some (fv (fkc c k) (sI σ a k) (sJ σ a k) (sP σ a k)) := by
  unfold flds
  rw [List.getElem?_map, List.getElem?_range h]
  rfl
theorem flds_len {σ : HS} {a c : Nat} : (flds σ a c).length = nfc c := by
  unfold flds
  rw [List.length_map, List.length_range]
theorem flds_ne {σ σ' : HS} {a c : Nat} (h : ∀ k, k < nfc c → fv (fkc c k) (sI σ' a k) (sJ σ' a k) (sP σ' a k) = fv (fkc c k) (sI σ a k) (sJ σ a k) (sP σ a k)) : flds σ' a c = flds σ a c := by
  unfold flds
  exact List.map_congr_left (fun k hk => h k (List.mem_range.mp hk))
theorem flds_set {σ σ' : HS} {a c k : Nat} {v : Value} (hk : k < nfc c) (hv : fv (fkc c k) (sI σ' a k) (sJ σ' a k) (sP σ' a k) = v) (h : ∀ i, i ≠ k → fv (fkc c i) (sI σ' a i) (sJ σ' a i) (sP σ' a i) = fv (fkc c i) (sI σ a i) (sJ σ a i) (sP σ a i)) : (flds σ a c).set k v = flds σ' a c := by
  apply List.ext_getElem?
  intro i
  by_cases hi : i < nfc c
  · rw [flds_get hi]
    by_cases hik : i = k
    · subst hik
      rw [List.getElem?_set_self (by rw [flds_len]; exact hk), hv]
    · rw [List.getElem?_set_ne (Ne.symm hik), flds_get hi, h i hik]
  · rw [List.getElem?_eq_none (by rw [List.length_set, flds_len]; omega), List.getElem?_eq_none (by rw [flds_len]; omega)]
section HQ
variable {ph : Nat → Nat} {t : Nat → ClassId}
theorem ent_obj {σ : HS} {a c : Nat} (h : ph (sK σ a) = c) (hc : c < 20) : ent ph t σ a = .inr (c, flds σ a c) := by
  unfold ent
  rw [h, if_pos hc]
theorem ent_arr {σ : HS} {a c : Nat} (h : ph (sK σ a) = c) (hc : ¬ c < 20) : ent ph t σ a = arrE t c (sN σ a) (sI σ a) (sJ σ a) (sP σ a) := by
  unfold ent
  rw [h, if_neg hc]
theorem h_in {σ : HS} {a : Nat} (h : a ∈ sL σ) : ∃ q : Nat, (hWd ph t σ)[q]? = some (a, ent ph t σ a) := by
  obtain ⟨k, hk⟩ := va_pl_get (X := []) (f := ent ph t σ) h
  exact ⟨k, by simpa [hWd] using hk⟩
theorem h_set {A : Nat → Prop} {σ σ' : HS} {a q : Nat} {e : va_E} (hD : va_D A (hWd ph t σ)) (h : a ∈ sL σ) (hq : (hWd ph t σ)[q]? = some (a, ent ph t σ a)) (hL : sL σ' = sL σ) (he : ent ph t σ' a = e) (ho : ∀ x, x ≠ a → ent ph t σ' x = ent ph t σ x) : (hWd ph t σ).set q (a, e) = hWd ph t σ' := by
  have h1 := va_pl_set (A := A) (X := []) (e := e) (by simpa [hWd] using hD) h (by simpa [hWd] using hq)
  simp only [List.nil_append] at h1
  unfold hWd
  rw [h1, hL]
  refine va_pl_congr (fun x => ?_)
  by_cases hx : x = a
  · subst hx
    rw [va_up_self, he]
  · rw [va_up_ne _ _ hx, ho x hx]
theorem ent_uI {σ : HS} {a k x : Nat} {v : Int32} (h : x ≠ a) : ent ph t (h_uI σ a k v) x = ent ph t σ x := by
  have hI : sI (h_uI σ a k v) x = sI σ x := funext fun i => u2_addr h
  unfold ent
  show (if ph (sK σ x) < 20 then _ else _) = _
  by_cases hc : ph (sK σ x) < 20
  · rw [if_pos hc, if_pos hc]
    congr 2
    exact flds_ne (fun i _ => by rw [hI]; rfl)
  · rw [if_neg hc, if_neg hc, hI]
    rfl
theorem ent_uJ {σ : HS} {a k x : Nat} {v : Int64} (h : x ≠ a) : ent ph t (h_uJ σ a k v) x = ent ph t σ x := by
  have hI : sJ (h_uJ σ a k v) x = sJ σ x := funext fun i => u2_addr h
  unfold ent
  show (if ph (sK σ x) < 20 then _ else _) = _
  by_cases hc : ph (sK σ x) < 20
  · rw [if_pos hc, if_pos hc]
    congr 2
    exact flds_ne (fun i _ => by rw [hI]; rfl)
  · rw [if_neg hc, if_neg hc, hI]
    rfl
theorem ent_uP {σ : HS} {a k x : Nat} {v : Option Nat} (h : x ≠ a) : ent ph t (h_uP σ a k v) x = ent ph t σ x := by
  have hI : sP (h_uP σ a k v) x = sP σ x := funext fun i => u2_addr h
  unfold ent
  show (if ph (sK σ x) < 20 then _ else _) = _
  by_cases hc : ph (sK σ x) < 20
  · rw [if_pos hc, if_pos hc]
    congr 2
    exact flds_ne (fun i _ => by rw [hI]; rfl)
  · rw [if_neg hc, if_neg hc, hI]
    rfl
end HQ
/-! what a role asks of its numbers and references: lowest, highest, whom it refers to, whether null may stand there, how long an array is -/
abbrev TS : Type := (Nat → Nat → Int) × (Nat → Nat → Int) × (Nat → Nat → Nat) × (Nat → Nat → Bool) × (Nat → Nat → Prop)
section HO
variable (ph : Nat → Nat) (τ : TS)
def ek (r k : Nat) : Nat := if ph r < 20 then fkc (ph r) k else if ph r = 22 then 1 else if ph r < 24 then 0 else 2
def ix (r k : Nat) : Nat := if ph r < 20 then k else 0
def nb (σ : HS) (a : Nat) : Nat := if ph (sK σ a) < 20 then nfc (ph (sK σ a)) else sN σ a
def iv (r k : Nat) (x : Int32) : Prop := τ.1 r k ≤ x.toInt ∧ x.toInt ≤ τ.2.1 r k
def rv (σ : HS) (r k : Nat) (q : Option Nat) : Prop := τ.2.2.1 r k = 999 ∨ (q = none ∧ τ.2.2.2.1 r k = true) ∨ ∃ b, q = some b ∧ b ∈ sL σ ∧ sK σ b = τ.2.2.1 r k
def OK (σ : HS) : Prop := ∀ a ∈ sL σ, (ph (sK σ a) < 20 ∨ τ.2.2.2.2 (sK σ a) (sN σ a)) ∧ ∀ k, k < nb ph σ a → (ek ph (sK σ a) k = 0 → iv τ (sK σ a) (ix ph (sK σ a) k) (sI σ a k)) ∧ (ek ph (sK σ a) k = 2 → rv τ σ (sK σ a) (ix ph (sK σ a) k) (sP σ a k))
/-- later heaps: what was there is there, with its role and its length -/
def HLe (σ σ' : HS) : Prop := ∀ a ∈ sL σ, a ∈ sL σ' ∧ sK σ' a = sK σ a ∧ sN σ' a = sN σ a
end HO
section HR
variable {ph : Nat → Nat} {τ : TS}
theorem HLe.rf {σ : HS} : HLe σ σ := fun _ h => ⟨h, rfl, rfl⟩
theorem HLe.tr {a b c : HS} (h1 : HLe a b) (h2 : HLe b c) : HLe a c := fun x hx => by
  obtain ⟨p1, p2, p3⟩ := h1 x hx
  obtain ⟨q1, q2, q3⟩ := h2 x p1
  exact ⟨q1, q2.trans p2, q3.trans p3⟩
theorem rv.mono {σ σ' : HS} (h : HLe σ σ') {r k : Nat} {q : Option Nat} (hr : rv τ σ r k q) : rv τ σ' r k q := by
  rcases hr with h1 | h1 | ⟨b, h1, h2, h3⟩
  · exact Or.inl h1
  · exact Or.inr (Or.inl h1)
  · exact Or.inr (Or.inr ⟨b, h1, (h b h2).1, (h b h2).2.1.trans h3⟩)
theorem OK.uI {σ : HS} {a k : Nat} {v : Int32} (h : OK ph τ σ) (hv : ek ph (sK σ a) k = 0 → iv τ (sK σ a) (ix ph (sK σ a) k) v) : OK ph τ (h_uI σ a k v) := by
  intro x hx
  refine ⟨(h x hx).1, fun i hi => ⟨fun he => ?_, ((h x hx).2 i hi).2⟩⟩
  show iv τ (sK σ x) _ (u2 (sI σ) a k v x i)
  by_cases hxa : x = a
  · subst hxa
    by_cases hik : i = k
    · subst hik
      rw [u2_same]
      exact hv he
    · rw [u2_pl hik]
      exact ((h x hx).2 i hi).1 he
  · rw [u2_addr hxa]
    exact ((h x hx).2 i hi).1 he
theorem OK.uJ {σ : HS} {a k : Nat} {v : Int64} (h : OK ph τ σ) : OK ph τ (h_uJ σ a k v) := fun x hx => ⟨(h x hx).1, fun i hi => ((h x hx).2 i hi)⟩
theorem OK.uP {σ : HS} {a k : Nat} {v : Option Nat} (h : OK ph τ σ) (hv : ek ph (sK σ a) k = 2 → rv τ σ (sK σ a) (ix ph (sK σ a) k) v) : OK ph τ (h_uP σ a k v) := by
  intro x hx
  refine ⟨(h x hx).1, fun i hi => ⟨((h x hx).2 i hi).1, fun he => ?_⟩⟩
  show rv τ σ (sK σ x) _ (u2 (sP σ) a k v x i)
  by_cases hxa : x = a
  · subst hxa
    by_cases hik : i = k
    · subst hik
      rw [u2_same]
      exact hv he
    · rw [u2_pl hik]
      exact ((h x hx).2 i hi).2 he
  · rw [u2_addr hxa]
    exact ((h x hx).2 i hi).2 he
theorem HLe.uI {σ : HS} {a k : Nat} {v : Int32} : HLe σ (h_uI σ a k v) := fun _ h => ⟨h, rfl, rfl⟩
theorem HLe.uJ {σ : HS} {a k : Nat} {v : Int64} : HLe σ (h_uJ σ a k v) := fun _ h => ⟨h, rfl, rfl⟩
theorem HLe.uP {σ : HS} {a k : Nat} {v : Option Nat} : HLe σ (h_uP σ a k v) := fun _ h => ⟨h, rfl, rfl⟩
/-- a new cell -/
def h_uN (σ : HS) (q r n : Nat) : HS := (sL σ ++ [q], va_up (sK σ) q r, va_up (sN σ) q n, va_up (sI σ) q (fun _ => 0), va_up (sJ σ) q (fun _ => 0), va_up (sP σ) q (fun _ => none))
theorem HLe.uN {σ : HS} {q r n : Nat} (hq : q ∉ sL σ) : HLe σ (h_uN σ q r n) := fun x hx => by
  have hne : x ≠ q := fun e => hq (e ▸ hx)
  exact ⟨List.mem_append_left _ hx, va_up_ne _ _ hne, va_up_ne _ _ hne⟩
theorem OK.uN {σ : HS} {q r n : Nat} (h : OK ph τ σ) (hq : q ∉ sL σ) (hln : ph r < 20 ∨ τ.2.2.2.2 r n) (h0 : ∀ k, k < (if ph r < 20 then nfc (ph r) else n) → (ek ph r k = 0 → iv τ r (ix ph r k) 0) ∧ (ek ph r k = 2 → τ.2.2.1 r (ix ph r k) = 999 ∨ τ.2.2.2.1 r (ix ph r k) = true)) : OK ph τ (h_uN σ q r n) := by
  intro x hx
  rcases List.mem_append.mp hx with hx | hx
  · have hne : x ≠ q := fun e => hq (e ▸ hx)
    have eK : sK (h_uN σ q r n) x = sK σ x := va_up_ne _ _ hne
    have eN : sN (h_uN σ q r n) x = sN σ x := va_up_ne _ _ hne
    have eI : sI (h_uN σ q r n) x = sI σ x := va_up_ne _ _ hne
    have eP : sP (h_uN σ q r n) x = sP σ x := va_up_ne _ _ hne
    unfold nb
    rw [eK, eN, eI, eP]
    refine ⟨(h x hx).1, fun i hi => ⟨((h x hx).2 i hi).1, fun he => rv.mono (HLe.uN hq) (((h x hx).2 i hi).2 he)⟩⟩
  · have hxq : x = q := List.mem_singleton.mp hx
    subst hxq
    have eK : sK (h_uN σ x r n) x = r := va_up_self _ _ _
    have eN : sN (h_uN σ x r n) x = n := va_up_self _ _ _
    have eI : sI (h_uN σ x r n) x = fun _ => 0 := va_up_self _ _ _
    have eP : sP (h_uN σ x r n) x = fun _ => none := va_up_self _ _ _
    unfold nb
    rw [eK, eN, eI, eP]
    exact ⟨hln, fun i hi => ⟨(h0 i hi).1, fun he => (h0 i hi).2 he |>.elim Or.inl (fun q => Or.inr (Or.inl ⟨rfl, q⟩))⟩⟩
end HR

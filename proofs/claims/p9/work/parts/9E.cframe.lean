/-! the class: what a step leaves as it was -/
/-- only fields of M (role, field; arrays: field 0) may have changed of the cells told of; nothing of the others -/
def CF (M : List (Nat × Nat)) (W : CW) (κ κ' : CS) : Prop := (∀ a, W.1 a ≠ 0 → ∀ k, (W.1 a, ixC (W.1 a) k) ∉ M → sI κ'.1 a k = sI κ.1 a k ∧ sJ κ'.1 a k = sJ κ.1 a k ∧ sP κ'.1 a k = sP κ.1 a k) ∧ ∀ a ∈ sL κ.1, (a ∈ sL κ'.1 ∧ sK κ'.1 a = sK κ.1 a ∧ sN κ'.1 a = sN κ.1 a) ∧ (W.1 a = 0 → ∀ k, sI κ'.1 a k = sI κ.1 a k ∧ sJ κ'.1 a k = sJ κ.1 a k ∧ sP κ'.1 a k = sP κ.1 a k)
section R9E
variable {G : GE} {E : CE} {W W' : CW} {κ κ' κ2 : CS} {M M2 : List (Nat × Nat)} {a b k r t : Nat} {c : Int}
theorem CF.rf : CF M W κ κ := ⟨fun _ _ _ _ => ⟨rfl, rfl, rfl⟩, fun _ h => ⟨⟨h, rfl, rfl⟩, fun _ _ => ⟨rfl, rfl, rfl⟩⟩⟩
theorem CF.tr (h : CF M W κ κ') (g : CF M2 W κ' κ2) (hm : ∀ x ∈ M2, x ∈ M) : CF M W κ κ2 := by
  refine ⟨fun a ha k hk => ?_, fun a ha => ?_⟩
  · have h1 := h.1 a ha k hk
    have h2 := g.1 a ha k (fun q => hk (hm _ q))
    exact ⟨h2.1.trans h1.1, h2.2.1.trans h1.2.1, h2.2.2.trans h1.2.2⟩
  · have h1 := h.2 a ha
    have h2 := g.2 a h1.1.1
    refine ⟨⟨h2.1.1, h2.1.2.1.trans h1.1.2.1, h2.1.2.2.trans h1.1.2.2⟩, fun e k => ?_⟩
    have q1 := h1.2 e k
    have q2 := h2.2 e k
    exact ⟨q2.1.trans q1.1, q2.2.1.trans q1.2.1, q2.2.2.trans q1.2.2⟩
theorem CF.uI {v : Int32} (h : CF M W κ κ') (ha : W.1 a = r) (hr : r ≠ 0) (hm : (r, ixC r k) ∈ M) (e : κ2 = (h_uI κ'.1 a k v, κ'.2)) : CF M W κ κ2 := by
  subst e
  have n : ∀ x i, W.1 x ≠ 0 → (W.1 x, ixC (W.1 x) i) ∉ M → u2 (sI κ'.1) a k v x i = sI κ'.1 x i := fun x i hx hi => by
    by_cases c : x = a
    · subst c
      exact u2_pl (fun e => hi (by rw [e, ha]; exact hm))
    · exact u2_addr c
  refine ⟨fun x hx i hi => ?_, fun x hx => ?_⟩
  · have h1 := h.1 x hx i hi
    exact ⟨(n x i hx hi).trans h1.1, h1.2⟩
  · have h1 := h.2 x hx
    refine ⟨h1.1, fun e i => ?_⟩
    have q := h1.2 e i
    exact ⟨(u2_addr (fun e' => by rw [e', ha] at e; exact hr e)).trans q.1, q.2⟩
theorem CF.uJ {v : Int64} (h : CF M W κ κ') (ha : W.1 a = r) (hr : r ≠ 0) (hm : (r, ixC r k) ∈ M) (e : κ2 = (h_uJ κ'.1 a k v, κ'.2)) : CF M W κ κ2 := by
  subst e
  have n : ∀ x i, W.1 x ≠ 0 → (W.1 x, ixC (W.1 x) i) ∉ M → u2 (sJ κ'.1) a k v x i = sJ κ'.1 x i := fun x i hx hi => by
    by_cases c : x = a
    · subst c
      exact u2_pl (fun e => hi (by rw [e, ha]; exact hm))
    · exact u2_addr c
  refine ⟨fun x hx i hi => ?_, fun x hx => ?_⟩
  · have h1 := h.1 x hx i hi
    exact ⟨h1.1, (n x i hx hi).trans h1.2.1, h1.2.2⟩
  · have h1 := h.2 x hx
    refine ⟨h1.1, fun e i => ?_⟩
    have q := h1.2 e i
    exact ⟨q.1, (u2_addr (fun e' => by rw [e', ha] at e; exact hr e)).trans q.2.1, q.2.2⟩
theorem CF.uP {v : Option Nat} (h : CF M W κ κ') (ha : W.1 a = r) (hr : r ≠ 0) (hm : (r, ixC r k) ∈ M) (e : κ2 = (h_uP κ'.1 a k v, κ'.2)) : CF M W κ κ2 := by
  subst e
  have n : ∀ x i, W.1 x ≠ 0 → (W.1 x, ixC (W.1 x) i) ∉ M → u2 (sP κ'.1) a k v x i = sP κ'.1 x i := fun x i hx hi => by
    by_cases c : x = a
    · subst c
      exact u2_pl (fun e => hi (by rw [e, ha]; exact hm))
    · exact u2_addr c
  refine ⟨fun x hx i hi => ?_, fun x hx => ?_⟩
  · have h1 := h.1 x hx i hi
    exact ⟨h1.1, h1.2.1, (n x i hx hi).trans h1.2.2⟩
  · have h1 := h.2 x hx
    refine ⟨h1.1, fun e i => ?_⟩
    have q := h1.2 e i
    exact ⟨q.1, q.2.1, (u2_addr (fun e' => by rw [e', ha] at e; exact hr e)).trans q.2.2⟩
/-- a Row's length -/
theorem CV.uRL {v : Int32} (h : CV G E W c κ) (ha : W.1 a = r) (hr : isRw r = true) (hb : sP κ.1 a 0 = some b) (hv : 0 ≤ v.toInt ∧ v.toInt ≤ (ivC r 1).2) (hl : v.toInt ≤ W.2 b) (e : κ' = (h_uI κ.1 a 1 v, κ.2)) : CV G E W c κ' := by
  subst e
  obtain ⟨h1, h2, h3, h6, h7, hm, h8⟩ := h
  have n0 : r ≠ 0 := rw_ne hr
  have i0 : (ivC r 1).1 = 0 := by rcases isRw_c hr with rfl | rfl | rfl | rfl | rfl <;> rfl
  have hx1 : ixC r 1 = 1 := by unfold ixC; rw [rw_ob hr]; rfl
  have rc := isRw_c hr
  refine ⟨h1.uI (fun q => by rw [ha, hx1, i0]; exact hv), fun x hx y hy => ?_, fun x hx y hy => ?_, fun l q hl' g1 g2 => ?_, h7, hm, ?_⟩
  · have g := h2 x hx y hy
    show (u2 (sI κ.1) a 1 v x 1).toInt ≤ _ ∧ _
    by_cases e : x = a
    · subst e
      have hy : sP κ.1 x 0 = some y := hy
      rw [hb] at hy
      cases hy
      rw [u2_same]
      exact ⟨hl, g.2⟩
    · rw [u2_addr e]
      exact g
  · have g := h3 x hx y hy
    show (u2 (sI κ.1) a 1 v x 12).toInt ≤ _ ∧ _
    rw [u2_pl (by decide)]
    exact g
  · have g := h6 l q hl' g1 g2
    have e2 : u2 (sI κ.1) a 1 v l 2 = sI κ.1 l 2 := u2_pl (by decide)
    show (_ → _ → (u2 (sI κ.1) a 1 v l 2).toInt = 0) ∧ ∀ e, _ → _ → (u2 (sI κ.1) a 1 v l 2).toInt ≤ _ ∧ _ ∧ ∀ k' : Nat, (k' : Int) < (u2 (sI κ.1) a 1 v l 2).toInt → _
    rw [e2]
    exact g
  · have e2 : u2 (sI κ.1) a 1 v E.2.2 2 = sI κ.1 E.2.2 2 := u2_pl (by decide)
    have : pot E W (h_uI κ.1 a 1 v) = pot E W κ.1 := by
      unfold pot
      show sm _ _ + sm _ _ + 400 * (u2 (sI κ.1) a 1 v E.2.2 2).toInt.toNat = _
      rw [e2]
      rfl
    show (pot E W (h_uI κ.1 a 1 v) : Int) + c ≤ κ.2
    rw [this]
    exact h8
def isBy (r : Nat) : Bool := r == 20 || r == 30 || r == 31
theorem by_c (h : isBy r = true) : r = 20 ∨ r = 30 ∨ r = 31 := by
  unfold isBy at h
  simp at h
  omega
/-- bytes are copied -/
theorem CV.cpI {a0 a1 r0 r1 sp dp n : Nat} (h : CV G E W c κ) (h0 : W.1 a0 = r0) (hr0 : isBy r0 = true) (h1' : W.1 a1 = r1) (hr1 : isBy r1 = true) (hs : sp + n ≤ W.2 a0) (e : κ' = (h_cpI κ.1 a0 a1 sp dp n, κ.2)) : CV G E W c κ' := by
  subst e
  obtain ⟨h1, h2, h3, h6, h7, hm, h8⟩ := h
  have iv : ∀ q, isBy q = true → ivC q 0 = (-128, 127) ∧ isOb q = false ∧ q ≠ 0 := fun q hq => by rcases by_c hq with rfl | rfl | rfl <;> exact ⟨rfl, rfl, by decide⟩
  have ne : ∀ x, isOb (W.1 x) = true → x ≠ a1 := fun x hx e => by
    rw [e, h1', (iv r1 hr1).2.1] at hx
    cases hx
  have eI : ∀ x, x ≠ a1 → sI (h_cpI κ.1 a0 a1 sp dp n) x = sI κ.1 x := fun x hx => va_up_ne _ _ hx
  refine ⟨fun x hx => ?_, fun x hx y hy => ?_, fun x hx y hy => ?_, fun l q hl g1 g2 => ?_, h7, hm, ?_⟩
  · obtain ⟨g1, g2, g3⟩ := h1 x hx
    refine ⟨g1, g2, fun i hi => ⟨?_, (g3 i hi).2⟩⟩
    by_cases e : x = a1
    · subst e
      have q : sI (h_cpI κ.1 a0 x sp dp n) x = va_cpy (sI κ.1 a0) (sI κ.1 x) sp dp n := va_up_self _ _ _
      rw [q]
      unfold va_cpy
      split
      · have q2 := (h1.el h0 (iv r0 hr0).2.2 (iv r0 hr0).2.1 (sp + (i - dp)) (by omega)).1
        rw [(iv r0 hr0).1] at q2
        unfold ixC
        rw [h1', (iv r1 hr1).2.1]
        show (ivC r1 0).1 ≤ _ ∧ _ ≤ (ivC r1 0).2
        rw [(iv r1 hr1).1]
        exact q2
      · exact (g3 i hi).1
    · rw [eI x e]
      exact (g3 i hi).1
  · rw [eI x (ne x (rw_ob hx))]
    exact h2 x hx y hy
  · rw [eI x (ne x (by rw [hx]; rfl))]
    exact h3 x hx y hy
  · rw [eI l (ne l (by rw [hl]; rcases ls_c ⟨g1, g2⟩ with rfl | rfl | rfl | rfl | rfl <;> rfl))]
    exact h6 l q hl g1 g2
  · have : pot E W (h_cpI κ.1 a0 a1 sp dp n) = pot E W κ.1 := by
      unfold pot
      rw [eI E.2.2 (fun e => by have q := h7.2.2.2.2.1.1; rw [e, h1'] at q; rcases by_c hr1 with rfl | rfl | rfl <;> omega)]
      rfl
    show (pot E W (h_cpI κ.1 a0 a1 sp dp n) : Int) + c ≤ κ.2
    rw [this]
    exact h8
theorem CF.cpI {a0 a1 r1 sp dp n : Nat} (h : CF M W κ κ') (h1 : W.1 a1 = r1) (hr : isBy r1 = true) (hm : (r1, 0) ∈ M) (e : κ2 = (h_cpI κ'.1 a0 a1 sp dp n, κ'.2)) : CF M W κ κ2 := by
  subst e
  have hq : r1 ≠ 0 ∧ isOb r1 = false := by rcases by_c hr with rfl | rfl | rfl <;> exact ⟨by decide, rfl⟩
  have eI : ∀ x, x ≠ a1 → sI (h_cpI κ'.1 a0 a1 sp dp n) x = sI κ'.1 x := fun x hx => va_up_ne _ _ hx
  refine ⟨fun x hx i hi => ?_, fun x hx => ?_⟩
  · have h1' := h.1 x hx i hi
    have : x ≠ a1 := fun e => hi (by rw [e, h1]; unfold ixC; rw [hq.2]; exact hm)
    exact ⟨by rw [eI x this]; exact h1'.1, h1'.2⟩
  · have h1' := h.2 x hx
    refine ⟨h1'.1, fun e i => ?_⟩
    have q := h1'.2 e i
    have : x ≠ a1 := fun e' => by rw [e', h1] at e; exact hq.1 e
    exact ⟨by rw [eI x this]; exact q.1, q.2⟩
end R9E

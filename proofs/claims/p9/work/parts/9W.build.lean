/-! the class: a new house, its parts -/
section R9W
variable {G : GE} {E E' : CE} {W W' : CW} {κ κ' κ2 : CS} {q r n b h : Nat} {c c' : Int} {D D2 M : List Nat}
/-- a cell is told of from now on: what is owed then -/
theorem CV.addG (h : CV G E W c κ) (p1 : W.1 q = 0) (hr : r ≠ 0 ∧ ¬ (50 ≤ r ∧ r < 55)) (h1 : q ∈ sL κ.1 ∧ sK κ.1 q = kcr r) (h2 : isOb r = false → sN κ.1 q = n ∧ (fxl r ≠ 0 → n = fxl r) ∧ n ≤ 1000000) (h3 : ∀ k, (isOb r = false → k < n) → ((ivC r (ixC r k)).1 ≤ (sI κ.1 q k).toInt ∧ (sI κ.1 q k).toInt ≤ (ivC r (ixC r k)).2) ∧ RV G W (sP κ.1 q k) (tgC r (ixC r k))) (h4 : isRw r = true → ∀ b, sP κ.1 q 0 = some b → b ≠ q ∧ (sI κ.1 q 1).toInt ≤ W.2 b ∧ W.2 b ≤ cpR r ∧ 64 ≤ W.2 b) (h5 : r = 5 → ∀ b, sP κ.1 q 13 = some b → b ≠ q ∧ (sI κ.1 q 12).toInt ≤ W.2 b ∧ W.2 b ≤ 4096 ∧ W.2 b % 1024 = 0) (h6 : 40 ≤ r → r < 45 → (sI κ.1 q 2).toInt = 0 ∧ sP κ.1 q 1 = some G.1 ∧ W.1 G.1 ≠ r + 10) (hE : CC G E' (upW W q r n)) (hm : E'.2.2 ∈ sL κ.1) (hp : (pot E' (upW W q r n) κ.1 : Int) + c' ≤ κ.2) : CV G E' (upW W q r n) c' κ := by
  have le := upW_le (W := W) (r := r) (n := n) p1
  have at_ : ∀ x, x ≠ q → (upW W q r n).1 x = W.1 x ∧ (upW W q r n).2 x = W.2 x := fun x hx => ⟨if_neg hx, if_neg hx⟩
  have nw : ∀ x, W.1 x ≠ 0 → x ≠ q := fun x hx e => hx (by rw [e]; exact p1)
  refine ⟨h.1.add p1 h1 h2 h3, fun x hx y hy => ?_, fun x hx y hy => ?_, fun l r' hl g1 g2 => ?_, hE, hm, hp⟩
  · by_cases e : x = q
    · subst e
      rw [upW_at] at hx ⊢
      obtain ⟨g1, g2⟩ := h4 hx y hy
      rw [(at_ y g1).2]
      exact g2
    · rw [(at_ x e).1] at hx ⊢
      obtain ⟨y', ey, wy⟩ := h.1.nn rfl (rw_ne hx) (rw_ob hx) 0 (rw_t hx) (by decide)
      rw [ey] at hy
      cases hy
      rw [(at_ y (nw y (by rw [wy]; decide))).2]
      exact h.2.1 x hx y ey
  · by_cases e : x = q
    · subst e
      rw [upW_at] at hx
      obtain ⟨g1, g2⟩ := h5 hx y hy
      rw [(at_ y g1).2]
      exact g2
    · rw [(at_ x e).1] at hx
      obtain ⟨y', ey, wy⟩ := h.1.nn hx (by decide) rfl 13 rfl (by decide)
      rw [ey] at hy
      cases hy
      rw [(at_ y (nw y (by rw [wy]; decide))).2]
      exact h.2.2.1 x hx y ey
  · by_cases e : l = q
    · subst e
      rw [upW_at] at hl
      subst hl
      obtain ⟨k1, k2, k3⟩ := h6 g1 g2
      refine ⟨fun _ _ => k1, fun y hy hw => ?_⟩
      rw [k2] at hy
      cases hy
      by_cases e2 : G.1 = l
      · rw [e2, upW_at] at hw
        omega
      · rw [(at_ G.1 e2).1] at hw
        exact absurd hw k3
    · rw [(at_ l e).1] at hl
      obtain ⟨g3, g4⟩ := h.2.2.2.1 l r' hl g1 g2
      refine ⟨fun y1 y2 => g3 y1 (fun e => y2 ?_), fun y hy hw => ?_⟩
      · rw [(at_ G.1 (nw _ (by rw [e]; omega))).1]
        exact e
      · have yn : y ≠ q := fun e2 => by
          rw [e2, upW_at] at hw
          omega
        rw [(at_ y yn).1] at hw
        rw [(at_ y yn).2]
        exact g4 y hy hw
/-- which roles there are -/
def RS (R : List Nat) (W : CW) : Prop := ∀ a, W.1 a = 0 ∨ W.1 a ∈ R
def NWR (R : List Nat) (W W' : CW) : Prop := ∀ a, W'.1 a = W.1 a ∨ W'.1 a ∈ R
theorem NWR.rf {R : List Nat} : NWR R W W := fun _ => Or.inl rfl
theorem NWR.tr {R : List Nat} {W2 : CW} (h : NWR R W W') (g : NWR R W' W2) : NWR R W W2 := fun a => by
  rcases g a with e | e
  · rcases h a with e2 | e2
    · exact Or.inl (e.trans e2)
    · exact Or.inr (by rw [e]; exact e2)
  · exact Or.inr e
theorem NWR.up {R R2 : List Nat} (h : NWR R W W') (hs : ∀ x ∈ R, x ∈ R2) : NWR R2 W W' := fun a => (h a).imp id (fun e => hs _ e)
theorem NWR.one {R : List Nat} (hr : r ∈ R) : NWR R W (upW W q r n) := fun a => by
  by_cases e : a = q
  · rw [e, upW_at]
    exact Or.inr hr
  · exact Or.inl (if_neg e)
theorem RS.nw {R R2 : List Nat} (h : RS R W) (g : NWR R2 W W') (hs : ∀ x ∈ R2, x ∈ R) : RS R W' := fun a => by
  rcases g a with e | e
  · rw [e]
    exact h a
  · exact Or.inr (hs _ e)
/-- CC, when a cell is told of that is no Row, no Node and no list -/
theorem CC.add0 (cc : CC G E W) (p1 : W.1 q = 0) (hq : q ≠ E.2.2) (hr : isRw r = false ∧ r ≠ 5 ∧ ¬ (40 ≤ r ∧ r < 45)) : CC G E (upW W q r n) := by
  obtain ⟨c1, c2, c3, c4, c5, c6, c7⟩ := cc
  have at_ : ∀ x, x ≠ q → (upW W q r n).1 x = W.1 x := fun x hx => if_neg hx
  have nw : ∀ x, W.1 x ≠ 0 → x ≠ q := fun x hx e => hx (by rw [e]; exact p1)
  refine ⟨c1, fun x hx => ?_, fun x hx => ?_, fun x y e g1 g2 => ?_, ⟨?_, fun x hx => ?_⟩, fun x hx => ?_, fun x hx => ?_⟩
  · by_cases e : x = q
    · rw [e, upW_at, hr.1] at hx
      cases hx
    · rw [at_ x e] at hx
      exact c2 x hx
  · by_cases e : x = q
    · rw [e, upW_at] at hx
      exact absurd hx hr.2.1
    · rw [at_ x e] at hx
      exact c3 x hx
  · by_cases e1 : x = q
    · rw [e1, upW_at] at g1 g2
      exact absurd ⟨g1, g2⟩ hr.2.2
    · by_cases e2 : y = q
      · rw [e2, upW_at] at e
        rw [e] at g1 g2
        exact absurd ⟨g1, g2⟩ hr.2.2
      · rw [at_ x e1] at e g1 g2
        rw [at_ y e2] at e
        exact c4 x y e g1 g2
  · rw [at_ E.2.2 (Ne.symm hq)]
    exact c5.1
  · by_cases e : x = q
    · rw [e, upW_at] at hx
      exact absurd ⟨by omega, by omega⟩ hr.2.2
    · rw [at_ x e] at hx
      exact c5.2 x hx
  · rw [at_ x (nw x (rw_ne (c6 x hx)))]
    exact c6 x hx
  · rw [at_ x (nw x (by rw [c7 x hx]; decide))]
    exact c7 x hx
/-- an object that is being made, whatever waits -/
def HO (G : GE) (W : CW) (κ : CS) (q r : Nat) (D : List Nat) : Prop := PO G ([], [], q + 1) W κ q r D
theorem PO.ho (p : PO G E W κ q r D) : HO G W κ q r D := ⟨p.1, p.2.1, by show q ≠ q + 1; omega, p.2.2.2⟩
theorem HO.po (p : HO G W κ q r D) (h : q ≠ E.2.2) : PO G E W κ q r D := ⟨p.1, p.2.1, h, p.2.2.2⟩
/-- a Row is told of -/
theorem CV.addR (h : CV G E W c κ) (p : PO G E W κ q r []) (hr : isRw r = true) (eb : sP κ.1 q 0 = some b) (wb : W.1 b = 20) (nb : W.2 b = 64) (hl : (sI κ.1 q 1).toInt = 0) : CV G (q :: E.1, E.2) (upW W q r 0) (c - (dcR r * (cpR r - 64) : Nat)) κ := by
  obtain ⟨p1, p2, p3, p4⟩ := p
  have ob := rw_ob hr
  have le := upW_le (W := W) (r := r) (n := 0) p1
  have at_ : ∀ x, x ≠ q → (upW W q r 0).1 x = W.1 x := fun x hx => if_neg hx
  have nw : ∀ x, W.1 x ≠ 0 → x ≠ q := fun x hx e => hx (by rw [e]; exact p1)
  have bq : b ≠ q := nw b (by rw [wb]; decide)
  have ix : ∀ i, ixC r i = i := fun i => by
    unfold ixC
    rw [ob]
    rfl
  have rc := isRw_c hr
  have cc := h.2.2.2.2.1
  refine h.addG (E' := (q :: E.1, E.2)) p1 ⟨by omega, by omega⟩ p2 (fun e => by rw [ob] at e; cases e) (fun i _ => by rw [ix]; exact ⟨(p4 i).1, (p4 i).2 (fun x => by cases x)⟩) (fun _ b' e' => ?_) (fun e => by omega) (fun e1 e2 => by omega) ?_ h.2.2.2.2.2.1 ?_
  · rw [eb] at e'
    cases e'
    refine ⟨bq, by rw [nb]; omega, ?_, by rw [nb]; exact Nat.le_refl _⟩
    rw [nb]
    rcases rc with rfl | rfl | rfl | rfl | rfl <;> decide
  · obtain ⟨c1, c2, c3, c4, c5, c6, c7⟩ := cc
    refine ⟨c1, fun x hx => ?_, fun x hx => ?_, fun x y e g1 g2 => ?_, ⟨?_, fun x hx => ?_⟩, fun x hx => ?_, fun x hx => ?_⟩
    · by_cases e : x = q
      · rw [e]
        exact List.mem_cons_self
      · rw [at_ x e] at hx
        exact List.mem_cons_of_mem _ (c2 x hx)
    · by_cases e : x = q
      · rw [e, upW_at] at hx
        omega
      · rw [at_ x e] at hx
        exact c3 x hx
    · have n1 : x ≠ q := fun e1 => by rw [e1, upW_at] at g2; omega
      have n2 : y ≠ q := fun e1 => by rw [e1, upW_at] at e; omega
      rw [at_ x n1] at e g1 g2
      rw [at_ y n2] at e
      exact c4 x y e g1 g2
    · show (upW W q r 0).1 E.2.2 = 44 ∨ (upW W q r 0).1 E.2.2 = 0
      rw [at_ E.2.2 (Ne.symm p3)]
      exact c5.1
    · by_cases e : x = q
      · rw [e, upW_at] at hx
        omega
      · rw [at_ x e] at hx
        exact c5.2 x hx
    · rcases List.mem_cons.mp hx with e | e
      · rw [e, upW_at]
        exact hr
      · rw [at_ x (nw x (rw_ne (c6 x e)))]
        exact c6 x e
    · rw [at_ x (nw x (by rw [c7 x hx]; decide))]
      exact c7 x hx
  · have pu := pot_up (κ' := κ) h le (fun x hx => rfl) (fun x hx => rfl) rfl
    have hb := h.2.2.2.2.2.2
    have ln : lnF (upW W q r 0) κ.1 q 0 = 64 := by
      unfold lnF
      rw [eb]
      show (upW W q r 0).2 b = 64
      rw [show (upW W q r 0).2 b = W.2 b from if_neg bq, nb]
    have e1 : pot (q :: E.1, E.2) (upW W q r 0) κ.1 = dcR r * (cpR r - 64) + pot E (upW W q r 0) κ.1 := by
      show dcR ((upW W q r 0).1 q) * (cpR ((upW W q r 0).1 q) - lnF (upW W q r 0) κ.1 q 0) + sm (fun a => dcR ((upW W q r 0).1 a) * (cpR ((upW W q r 0).1 a) - lnF (upW W q r 0) κ.1 a 0)) E.1 + sm (fun a => nP (lnF (upW W q r 0) κ.1 a 13)) E.2.1 + 400 * (sI κ.1 E.2.2 2).toInt.toNat = dcR r * (cpR r - 64) + (sm (fun a => dcR ((upW W q r 0).1 a) * (cpR ((upW W q r 0).1 a) - lnF (upW W q r 0) κ.1 a 0)) E.1 + sm (fun a => nP (lnF (upW W q r 0) κ.1 a 13)) E.2.1 + 400 * (sI κ.1 E.2.2 2).toInt.toNat)
      rw [upW_at, ln]
      omega
    rw [e1, pu]
    omega
/-- a Node is told of -/
theorem CV.addN (h : CV G E W c κ) (p : PO G E W κ q 5 []) (eb : sP κ.1 q 13 = some b) (wb : W.1 b = 20) (nb : W.2 b = 0) (hl : (sI κ.1 q 12).toInt = 0) : CV G (E.1, q :: E.2.1, E.2.2) (upW W q 5 0) (c - 10288) κ := by
  obtain ⟨p1, p2, p3, p4⟩ := p
  have le := upW_le (W := W) (r := 5) (n := 0) p1
  have at_ : ∀ x, x ≠ q → (upW W q 5 0).1 x = W.1 x := fun x hx => if_neg hx
  have nw : ∀ x, W.1 x ≠ 0 → x ≠ q := fun x hx e => hx (by rw [e]; exact p1)
  have bq : b ≠ q := nw b (by rw [wb]; decide)
  have cc := h.2.2.2.2.1
  refine h.addG (E' := (E.1, q :: E.2.1, E.2.2)) p1 ⟨by decide, by decide⟩ p2 (fun e => by cases e) (fun i _ => ⟨(p4 i).1, (p4 i).2 (fun x => by cases x)⟩) (fun e => by cases e) (fun _ b' e' => ?_) (fun e1 e2 => by omega) ?_ h.2.2.2.2.2.1 ?_
  · rw [eb] at e'
    cases e'
    exact ⟨bq, by rw [nb]; omega, by rw [nb]; decide, by rw [nb]⟩
  · obtain ⟨c1, c2, c3, c4, c5, c6, c7⟩ := cc
    refine ⟨c1, fun x hx => ?_, fun x hx => ?_, fun x y e g1 g2 => ?_, ⟨?_, fun x hx => ?_⟩, fun x hx => ?_, fun x hx => ?_⟩
    · by_cases e : x = q
      · rw [e, upW_at] at hx
        cases hx
      · rw [at_ x e] at hx
        exact c2 x hx
    · by_cases e : x = q
      · rw [e]
        exact List.mem_cons_self
      · rw [at_ x e] at hx
        exact List.mem_cons_of_mem _ (c3 x hx)
    · have n1 : x ≠ q := fun e1 => by rw [e1, upW_at] at g1; omega
      have n2 : y ≠ q := fun e1 => by rw [e1, upW_at] at e; omega
      rw [at_ x n1] at e g1 g2
      rw [at_ y n2] at e
      exact c4 x y e g1 g2
    · show (upW W q 5 0).1 E.2.2 = 44 ∨ (upW W q 5 0).1 E.2.2 = 0
      rw [at_ E.2.2 (Ne.symm p3)]
      exact c5.1
    · by_cases e : x = q
      · rw [e, upW_at] at hx
        omega
      · rw [at_ x e] at hx
        exact c5.2 x hx
    · rw [at_ x (nw x (rw_ne (c6 x hx)))]
      exact c6 x hx
    · rcases List.mem_cons.mp hx with e | e
      · rw [e, upW_at]
      · rw [at_ x (nw x (by rw [c7 x e]; decide))]
        exact c7 x e
  · have pu := pot_up (κ' := κ) h le (fun x hx => rfl) (fun x hx => rfl) rfl
    have hb := h.2.2.2.2.2.2
    have ln : lnF (upW W q 5 0) κ.1 q 13 = 0 := by
      unfold lnF
      rw [eb]
      show (upW W q 5 0).2 b = 0
      rw [show (upW W q 5 0).2 b = W.2 b from if_neg bq, nb]
    have e1 : pot (E.1, q :: E.2.1, E.2.2) (upW W q 5 0) κ.1 = 10288 + pot E (upW W q 5 0) κ.1 := by
      show sm (fun a => dcR ((upW W q 5 0).1 a) * (cpR ((upW W q 5 0).1 a) - lnF (upW W q 5 0) κ.1 a 0)) E.1 + (nP (lnF (upW W q 5 0) κ.1 q 13) + sm (fun a => nP (lnF (upW W q 5 0) κ.1 a 13)) E.2.1) + 400 * (sI κ.1 E.2.2 2).toInt.toNat = 10288 + (sm (fun a => dcR ((upW W q 5 0).1 a) * (cpR ((upW W q 5 0).1 a) - lnF (upW W q 5 0) κ.1 a 0)) E.1 + sm (fun a => nP (lnF (upW W q 5 0) κ.1 a 13)) E.2.1 + 400 * (sI κ.1 E.2.2 2).toInt.toNat)
      rw [ln]
      have : nP 0 = 10288 := rfl
      omega
    rw [e1, pu]
    omega
/-- a list is told of; of those that wait: E knows it -/
theorem CV.addL {R : List Nat} (h : CV G E W c κ) (p : PO G E W κ q r []) (hr : 40 ≤ r ∧ r < 45) (hR : RS R W) (hn : ∀ x ∈ R, ¬ (40 ≤ x ∧ x < 55) ∨ (x < 44 ∧ x ≠ r)) (eb : sP κ.1 q 1 = some G.1) (hl : (sI κ.1 q 2).toInt = 0) (h44 : r = 44 → E'.2.2 = q) (h43 : r ≠ 44 → E'.2.2 = E.2.2) (e1 : E'.1 = E.1) (e2 : E'.2.1 = E.2.1) : CV G E' (upW W q r 0) c κ := by
  obtain ⟨p1, p2, p3, p4⟩ := p
  have le := upW_le (W := W) (r := r) (n := 0) p1
  have at_ : ∀ x, x ≠ q → (upW W q r 0).1 x = W.1 x := fun x hx => if_neg hx
  have nw : ∀ x, W.1 x ≠ 0 → x ≠ q := fun x hx e => hx (by rw [e]; exact p1)
  have rn : ∀ x, W.1 x ≠ r := fun x e => by
    rcases hR x with g | g
    · omega
    · rw [e] at g
      have := hn r g
      omega
  have gn : W.1 G.1 ≠ r + 10 := fun e => by
    rcases hR G.1 with g | g
    · omega
    · rw [e] at g
      have := hn _ g
      omega
  have ob : isOb r = true := by rcases ls_c hr with rfl | rfl | rfl | rfl | rfl <;> rfl
  have nr : isRw r = false := by rcases ls_c hr with rfl | rfl | rfl | rfl | rfl <;> rfl
  have ix : ∀ i, ixC r i = i := fun i => by
    unfold ixC
    rw [ob]
    rfl
  have cc := h.2.2.2.2.1
  refine h.addG (E' := E') p1 ⟨by omega, by omega⟩ p2 (fun e => by rw [ob] at e; cases e) (fun i _ => by rw [ix]; exact ⟨(p4 i).1, (p4 i).2 (fun x => by cases x)⟩) (fun e => by rw [nr] at e; cases e) (fun e => by omega) (fun _ _ => ⟨hl, eb, gn⟩) ?_ ?_ ?_
  · obtain ⟨c1, c2, c3, c4, c5, c6, c7⟩ := cc
    refine ⟨c1, fun x hx => ?_, fun x hx => ?_, fun x y e g1 g2 => ?_, ⟨?_, fun x hx => ?_⟩, fun x hx => ?_, fun x hx => ?_⟩
    · by_cases e : x = q
      · rw [e, upW_at, nr] at hx
        cases hx
      · rw [at_ x e] at hx
        rw [e1]
        exact c2 x hx
    · by_cases e : x = q
      · rw [e, upW_at] at hx
        omega
      · rw [at_ x e] at hx
        rw [e2]
        exact c3 x hx
    · by_cases n1 : x = q
      · by_cases n2 : y = q
        · rw [n1, n2]
        · rw [n1, upW_at, at_ y n2] at e
          exact absurd e.symm (rn y)
      · by_cases n2 : y = q
        · rw [n2, upW_at, at_ x n1] at e
          exact absurd e (rn x)
        · rw [at_ x n1] at e g1 g2
          rw [at_ y n2] at e
          exact c4 x y e g1 g2
    · by_cases e : r = 44
      · rw [(h44 e), upW_at]
        exact Or.inl e
      · rw [h43 e, at_ E.2.2 (Ne.symm p3)]
        exact c5.1
    · by_cases e : x = q
      · rw [e, upW_at] at hx
        rw [(h44 hx), e]
      · rw [at_ x e] at hx
        by_cases e4 : r = 44
        · exact absurd (hx.trans e4.symm) (rn x)
        · rw [h43 e4]
          exact c5.2 x hx
    · rw [e1] at hx
      rw [at_ x (nw x (rw_ne (c6 x hx)))]
      exact c6 x hx
    · rw [e2] at hx
      rw [at_ x (nw x (by rw [c7 x hx]; decide))]
      exact c7 x hx
  · by_cases e : r = 44
    · rw [(h44 e)]
      exact p2.1
    · rw [h43 e]
      exact h.2.2.2.2.2.1
  · have pu := pot_up (κ' := κ) h le (fun x hx => rfl) (fun x hx => rfl) rfl
    have hb := h.2.2.2.2.2.2
    have e3 : pot E' (upW W q r 0) κ.1 ≤ pot E (upW W q r 0) κ.1 := by
      unfold pot
      rw [e1, e2]
      by_cases e : r = 44
      · rw [(h44 e), hl]
        omega
      · rw [h43 e]
        exact Nat.le_refl _
    rw [pu] at e3
    omega
/-- a row of rows that is being filled -/
def PA (W : CW) (κ : CS) (q t n m r : Nat) : Prop := W.1 q = 0 ∧ (q ∈ sL κ.1 ∧ sK κ.1 q = t) ∧ sN κ.1 q = n ∧ ∀ k : Nat, k < m → ∃ b, sP κ.1 q k = some b ∧ W.1 b = r
theorem PA.fr {t m : Nat} {M : List (Nat × Nat)} (p : PA W κ q t n m r) (f : CF M W κ κ') (x : WX W W' κ) (hr : r ≠ 0) : PA W' κ' q t n m r := by
  obtain ⟨p1, p2, p3, p4⟩ := p
  have g := f.2 q p2.1
  refine ⟨x.2 q p2.1 p1, ⟨g.1.1, g.1.2.1.trans p2.2⟩, g.1.2.2.trans p3, fun k hk => ?_⟩
  obtain ⟨b, e, w⟩ := p4 k hk
  exact ⟨b, (g.2 p1 k).2.2.trans e, x.1.at w hr⟩
theorem PA.st {t m : Nat} (p : PA W κ q t n m r) (hb : W.1 b = r) (e : κ' = (h_uP κ.1 q m (some b), κ.2)) : PA W κ' q t n (m + 1) r := by
  obtain ⟨p1, p2, p3, p4⟩ := p
  subst e
  refine ⟨p1, p2, p3, fun k hk => ?_⟩
  by_cases c : k = m
  · rw [c]
    exact ⟨b, u2_same, hb⟩
  · obtain ⟨b', e, w⟩ := p4 k (by omega)
    exact ⟨b', (u2_pl c).trans e, w⟩
theorem CV.addA {t : Nat} (h : CV G E W c κ) (p : PA W κ q r n n t) (hr : (r = 24 ∧ n = 8 ∧ t = 4) ∨ (r = 25 ∧ n = 6 ∧ t = 3) ∨ (r = 26 ∧ n = 80 ∧ t = 5)) (hq : q ≠ E.2.2) : CV G E (upW W q r n) c κ := by
  obtain ⟨p1, p2, p3, p4⟩ := p
  have le := upW_le (W := W) (r := r) (n := n) p1
  have pu := pot_up (κ' := κ) h le (fun x hx => rfl) (fun x hx => rfl) rfl
  have hb := h.2.2.2.2.2.2
  have hk : kcr r = r ∧ isOb r = false ∧ isRw r = false ∧ fxl r = n ∧ n ≤ 1000000 ∧ tgC r 0 = (t, 0) ∧ ivC r 0 = (-2147483648, 2147483647) := by
    rcases hr with ⟨rfl, rfl, rfl⟩ | ⟨rfl, rfl, rfl⟩ | ⟨rfl, rfl, rfl⟩ <;> decide
  have ix : ∀ i, ixC r i = 0 := fun i => by
    unfold ixC
    rw [hk.2.1]
    rfl
  refine h.addG (E' := E) p1 ⟨by omega, by omega⟩ ⟨p2.1, by rw [hk.1]; exact p2.2⟩ (fun _ => ⟨p3, fun _ => hk.2.2.2.1.symm, hk.2.2.2.2.1⟩) (fun i hi => ?_) (fun e => by rw [hk.2.2.1] at e; cases e) (fun e => by omega) (fun e1 e2 => by omega) (h.2.2.2.2.1.add0 p1 hq ⟨hk.2.2.1, by omega, by omega⟩) h.2.2.2.2.2.1 (by rw [pu]; exact hb)
  rw [ix, hk.2.2.2.2.2.1, hk.2.2.2.2.2.2]
  obtain ⟨b, e, w⟩ := p4 i (hi hk.2.1)
  exact ⟨i_range _, Or.inr (Or.inr (Or.inr ⟨b, e, w⟩))⟩
/-- all Rows are empty -/
def ZL (W : CW) (κ : CS) : Prop := ∀ b, isRw (W.1 b) = true → (sI κ.1 b 1).toInt = 0
theorem ZL.fr {M : List (Nat × Nat)} (z : ZL W κ) (f : CF M W κ κ') (hm : ∀ r, isRw r = true → (r, 1) ∉ M) (le : WLe W W') (hn : ∀ a, isRw (W'.1 a) = true → W.1 a ≠ 0 ∨ (sI κ'.1 a 1).toInt = 0) : ZL W' κ' := fun a ha => by
  rcases hn a ha with e | e
  · have w := (le a e).1
    rw [w] at ha
    rw [(f.1 a e 1 (by unfold ixC; rw [rw_ob ha]; exact hm _ ha)).1]
    exact z a ha
  · exact e
/-- no Row is new -/
theorem ZL.nr {R : List Nat} (z : ZL W κ) (f : CF [] W κ κ') (x : WX W W' κ) (g : NWR R W W') (hR : ∀ r ∈ R, isRw r = false) : ZL W' κ' := z.fr f (fun _ _ => by simp) x.1 (fun a ha => by
  rcases g a with e | e
  · exact Or.inl (by rw [← e]; exact rw_ne ha)
  · rw [hR _ e] at ha
    cases ha)
/-- the same E: no Row is new -/
theorem ZL.cc {M : List (Nat × Nat)} (z : ZL W κ) (hV : CV G E W c κ) (hV' : CV G E W' c' κ') (f : CF M W κ κ') (le : WLe W W') (hm : ∀ r, isRw r = true → (r, 1) ∉ M) : ZL W' κ' := z.fr f hm le (fun a ha => Or.inl (rw_ne (hV.2.2.2.2.1.2.2.2.2.2.1 a (hV'.2.2.2.2.1.2.1 a ha))))
/-- a Row is made -/
theorem i_row (hV : CV G E W c κ) (hr : isRw r = true) (hc : (90 + dcR r * (cpR r - 64) : Nat) ≤ c) {post : Nat → CS → Prop} (kk : ∀ (o : Nat) (E' : CE) (W' : CW) (κ' : CS), o ∉ sL κ.1 → E'.2.2 = E.2.2 → WX W W' κ → CV G E' W' (c - (90 + dcR r * (cpR r - 64) : Nat)) κ' → CF [] W κ κ' → W'.1 o = r → (ZL W κ → ZL W' κ') → NWR [20, r] W W' → post o κ') : (2 + 12 ≤ κ.2) ∧ ∀ o : Nat, o ∉ sL κ.1 → ∀ κ3 : CS, κ3 = (h_uN κ.1 o 2 0, κ.2 - (2 + 12)) → F_X6_init G o (fun (κ4 : CS) => post o κ4) κ3 := by
  have hbd := hV.bud
  refine ⟨by omega, fun o ho κ3 e3 => ?_⟩
  have hV3 := hV.newO ho (by omega) e3
  have f3 : CF [] W κ κ3 := CF.rf.uN hV.1 ho e3
  have hp3 : PO G E W κ3 o r [0] := PO.new hV ho e3 (rw_k hr) (by rcases isRw_c hr with rfl | rfl | rfl | rfl | rfl <;> decide)
  have i3 : sI κ3.1 o = fun _ => 0 := by
    rw [e3]
    exact va_up_self _ _ _
  have b3 := hV3.bud
  unfold F_X6_init
  refine ⟨by decide, by show 64 + 12 ≤ _; omega, fun o2 ho2 κ4 e4 => ?_⟩
  obtain ⟨g1, x1⟩ := hV3.newA (r := 20) (n := 64) ho2 (fun h => absurd h (by decide)) rfl rfl (Or.inl rfl) (by decide) (by decide) (Or.inl rfl) (by omega) e4
  have f4 : CF [] W κ3 κ4 := CF.rf.uN hV3.1 ho2 e4
  have hp4 := hp3.fr f4 x1
  have i4 : sI κ4.1 o = fun _ => 0 := by
    rw [e4]
    exact (va_up_ne _ _ (fun e => ho2 (by rw [← e]; exact hp3.2.1.1))).trans i3
  refine ⟨by have q := hp4.2.1; rw [rw_k hr] at q; exact q, fun κ5 e5 => ?_⟩
  have hV5 := g1.uP0 hp4 e5
  have hp5 := hp4.uP (k := 0) (v := some o2) (D2 := []) (by rw [rw_t hr]; exact Or.inr (Or.inr (Or.inr ⟨o2, rfl, upW_at⟩))) (by decide) e5
  have s5 : sP κ5.1 o 0 = some o2 := by
    rw [e5]
    exact u2_same
  have i5 : (sI κ5.1 o 1).toInt = 0 := by
    rw [e5]
    show (sI κ4.1 o 1).toInt = 0
    rw [i4]
    rfl
  have hV6 := hV5.addR hp5 hr s5 upW_at upW_ln i5
  have g : CFx [] W o κ3 κ4 := CFx.rf.trW WX.rf f4 (fun y hy => hy)
  have f5 : CF [] W κ κ5 := CF.trX f3 WX.rf ho hp3.1 (g.pP hp3.1 e5) (fun y hy => hy)
  have x2 : WX W (upW W o2 20 64) κ := ⟨x1.1, fun a ha e => x1.2 a (f3.sl a ha) e⟩
  have x3 : WX W (upW (upW W o2 20 64) o r 0) κ := x2.add ho ⟨upW_le hp5.1, fun a ha => if_neg ha⟩
  have no : o2 ≠ o := fun e => ho2 (by rw [e]; exact hp3.2.1.1)
  exact kk o (o :: E.1, E.2) _ κ5 ho rfl x3 (hV6.dn (by omega)) f5 upW_at (fun z => z.fr f5 (fun _ _ => by simp) x3.1 (fun a ha => by
    by_cases e : a = o
    · exact Or.inr (by rw [e]; exact i5)
    · by_cases e2 : a = o2
      · have w : (upW (upW W o2 20 64) o r 0).1 o2 = 20 := (if_neg no).trans upW_at
        rw [e2, w] at ha
        cases ha
      · have w : (upW (upW W o2 20 64) o r 0).1 a = W.1 a := (if_neg e).trans (if_neg e2)
        exact Or.inl (by rw [← w]; exact rw_ne ha))) ((NWR.one (by simp)).tr (NWR.one (by simp)))
end R9W

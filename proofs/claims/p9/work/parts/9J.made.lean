/-! the class: what is made -/
/-- cells that were there and not told of are not told of -/
def WX (W W' : CW) (κ : CS) : Prop := WLe W W' ∧ ∀ a ∈ sL κ.1, W.1 a = 0 → W'.1 a = 0
section R9J
variable {G : GE} {E : CE} {W W' W2 : CW} {κ κ' κ2 : CS} {M M2 : List (Nat × Nat)} {a b k r t o n q : Nat} {c : Int}
theorem WX.rf : WX W W κ := ⟨WLe.rf, fun _ _ h => h⟩
theorem WX.tr (h : WX W W' κ) (g : WX W' W2 κ') (hL : ∀ a ∈ sL κ.1, a ∈ sL κ'.1) : WX W W2 κ := ⟨h.1.tr g.1, fun a ha e => g.2 a (hL a ha) (h.2 a ha e)⟩
theorem CF.sl (h : CF M W κ κ') : ∀ a ∈ sL κ.1, a ∈ sL κ'.1 := fun a ha => (h.2 a ha).1.1
theorem CF.trW (h : CF M W κ κ') (x : WX W W' κ) (g : CF M2 W' κ' κ2) (hm : ∀ y ∈ M2, y ∈ M) : CF M W κ κ2 := by
  refine ⟨fun a ha k hk => ?_, fun a ha => ?_⟩
  · have h1 := h.1 a ha k hk
    have e := (x.1 a ha).1
    have h2 := g.1 a (by rw [e]; exact ha) k (fun q => hk (hm _ (by rw [e] at q; exact q)))
    exact ⟨h2.1.trans h1.1, h2.2.1.trans h1.2.1, h2.2.2.trans h1.2.2⟩
  · have h1 := h.2 a ha
    have h2 := g.2 a h1.1.1
    refine ⟨⟨h2.1.1, h2.1.2.1.trans h1.1.2.1, h2.1.2.2.trans h1.1.2.2⟩, fun e k => ?_⟩
    have q1 := h1.2 e k
    have q2 := h2.2 (x.2 a ha e) k
    exact ⟨q2.1.trans q1.1, q2.2.1.trans q1.2.1, q2.2.2.trans q1.2.2⟩
theorem CF.uN {d : Nat} (h : CF M W κ κ') (hV : TV G W κ'.1) (hq : q ∉ sL κ'.1) (e : κ2 = (h_uN κ'.1 q t n, κ'.2 - d)) : CF M W κ κ2 := by
  subst e
  have ne : ∀ x ∈ sL κ.1, x ≠ q := fun x hx e => hq (by rw [← e]; exact (h.2 x hx).1.1)
  have hn : ∀ x, x ≠ q → sI (h_uN κ'.1 q t n) x = sI κ'.1 x ∧ sJ (h_uN κ'.1 q t n) x = sJ κ'.1 x ∧ sP (h_uN κ'.1 q t n) x = sP κ'.1 x ∧ sK (h_uN κ'.1 q t n) x = sK κ'.1 x ∧ sN (h_uN κ'.1 q t n) x = sN κ'.1 x := fun x hx => ⟨va_up_ne _ _ hx, va_up_ne _ _ hx, va_up_ne _ _ hx, va_up_ne _ _ hx, va_up_ne _ _ hx⟩
  refine ⟨fun x hx i hi => ?_, fun x hx => ?_⟩
  · have h1 := h.1 x hx i hi
    by_cases c : x = q
    · exact absurd (by rw [← c]; exact (hV x hx).1.1) hq
    · obtain ⟨a1, a2, a3, -, -⟩ := hn x c
      exact ⟨by rw [a1]; exact h1.1, by rw [a2]; exact h1.2.1, by rw [a3]; exact h1.2.2⟩
  · have h1 := h.2 x hx
    obtain ⟨a1, a2, a3, a4, a5⟩ := hn x (ne x hx)
    refine ⟨⟨List.mem_append_left _ h1.1.1, by rw [a4]; exact h1.1.2.1, by rw [a5]; exact h1.1.2.2⟩, fun e i => ?_⟩
    have g := h1.2 e i
    exact ⟨by rw [a1]; exact g.1, by rw [a2]; exact g.2.1, by rw [a3]; exact g.2.2⟩
/-- a cell more: what is left beside is less -/
theorem lnF_up (h : TV G W κ.1) (hl : WLe W W') (ha : W.1 a = r) (hr : r ≠ 0) (hob : isOb r = true) (ht : tgC r k = (20, 0)) (e : sP κ'.1 a k = sP κ.1 a k) : lnF W' κ'.1 a k = lnF W κ.1 a k := by
  obtain ⟨b, eb, hb⟩ := h.nn ha hr hob k ht (by decide)
  unfold lnF
  rw [e, eb]
  exact (hl b (by rw [hb]; decide)).2
theorem pot_up (h : CV G E W c κ) (hl : WLe W W') (h0 : ∀ x ∈ E.1, sP κ'.1 x 0 = sP κ.1 x 0) (h13 : ∀ x ∈ E.2.1, sP κ'.1 x 13 = sP κ.1 x 13) (hs : sI κ'.1 E.2.2 2 = sI κ.1 E.2.2 2) : pot E W' κ'.1 = pot E W κ.1 := by
  have cc := h.2.2.2.2.1
  have p1 : sm (fun x => dcR (W'.1 x) * (cpR (W'.1 x) - lnF W' κ'.1 x 0)) E.1 = sm (fun x => dcR (W.1 x) * (cpR (W.1 x) - lnF W κ.1 x 0)) E.1 := sm_ev _ (fun x hx => by
    have hr := cc.2.2.2.2.2.1 x hx
    have e := (hl x (rw_ne hr)).1
    have := lnF_up (κ' := κ') h.1 hl rfl (rw_ne hr) (rw_ob hr) (rw_t hr) (h0 x hx)
    rw [this, e])
  have p2 : sm (fun x => nP (lnF W' κ'.1 x 13)) E.2.1 = sm (fun x => nP (lnF W κ.1 x 13)) E.2.1 := sm_ev _ (fun x hx => by
    have hr := cc.2.2.2.2.2.2 x hx
    have := lnF_up (κ' := κ') h.1 hl hr (by decide) rfl (by rfl) (h13 x hx)
    rw [this])
  unfold pot
  rw [p1, p2, hs]
/-- a new array -/
theorem CV.newA (h : CV G E W c κ) (hq : q ∉ sL κ.1) (h100 : 50 ≤ r → r < 55 → n ≤ 100) (hob : isOb r = false) (hc : kcr r = t) (hf : fxl r = 0 ∨ n = fxl r) (hn : n ≤ 1000000) (hi : (ivC r 0).1 ≤ 0 ∧ 0 ≤ (ivC r 0).2) (ht : (tgC r 0).1 = 0 ∨ (tgC r 0).2 = 1) (hk : n + 12 ≤ κ.2) (e : κ' = (h_uN κ.1 q t n, κ.2 - (n + 12))) : CV G E (upW W q r n) (c - (n + 12)) κ' ∧ WX W (upW W q r n) κ := by
  subst e
  have f0 := h.1.fresh hq
  have le := upW_le (W := W) (r := r) (n := n) f0
  have at_ : ∀ x, x ≠ q → (upW W q r n).1 x = W.1 x ∧ (upW W q r n).2 x = W.2 x := fun x hx => ⟨if_neg hx, if_neg hx⟩
  have hn' : ∀ x, x ≠ q → sI (h_uN κ.1 q t n) x = sI κ.1 x ∧ sP (h_uN κ.1 q t n) x = sP κ.1 x := fun x hx => ⟨va_up_ne _ _ hx, va_up_ne _ _ hx⟩
  have nq : ∀ x, isOb ((upW W q r n).1 x) = true → x ≠ q := fun x hx e => by
    rw [e, upW_at, hob] at hx
    cases hx
  have nw : ∀ x, W.1 x ≠ 0 → x ≠ q := fun x hx e => hx (by rw [e]; exact f0)
  have rb : ∀ x y i, x ≠ q → W.1 x ≠ 0 → isOb (W.1 x) = true → sP κ.1 x i = some y → (tgC (W.1 x) i).1 ≠ 0 → (tgC (W.1 x) i).2 = 0 → y ≠ q := fun x y i _ hx hxo hy h1 h2 e => by
    have g := h.1.rv rfl hx hxo i
    rcases g with g | g | g | ⟨b', g1, g2⟩
    · exact h1 g
    · exact absurd (h2.symm.trans g.1) (by decide)
    · exact absurd (h2.symm.trans g.1) (by decide)
    · rw [hy] at g1
      cases g1
      rw [e, f0] at g2
      exact h1 g2.symm
  refine ⟨⟨h.1.newA hq hob hc hf hn hi ht, fun x hx y hy => ?_, fun x hx y hy => ?_, fun l r' hl g1 g2 => ?_, ?_, List.mem_append_left _ h.2.2.2.2.2.1, ?_⟩, le, fun x hx e0 => ?_⟩
  · have ne := nq x (rw_ob hx)
    rw [(at_ x ne).1] at hx ⊢
    rw [(hn' x ne).2] at hy
    have g := h.2.1 x hx y hy
    have yn := rb x y 0 ne (rw_ne hx) (rw_ob hx) hy (by rw [rw_t hx]; decide) (by rw [rw_t hx])
    rw [(hn' x ne).1, (at_ y yn).2]
    exact g
  · have ne := nq x (by rw [hx]; rfl)
    rw [(at_ x ne).1] at hx
    rw [(hn' x ne).2] at hy
    have g := h.2.2.1 x hx y hy
    have yn := rb x y 13 ne (by rw [hx]; decide) (by rw [hx]; rfl) hy (by rw [hx]; decide) (by rw [hx]; rfl)
    rw [(hn' x ne).1, (at_ y yn).2]
    exact g
  · have obl : isOb r' = true := by rcases ls_c ⟨g1, g2⟩ with rfl | rfl | rfl | rfl | rfl <;> rfl
    have ne := nq l (by rw [hl]; exact obl)
    rw [(at_ l ne).1] at hl
    obtain ⟨p1, p2⟩ := h.2.2.2.1 l r' hl g1 g2
    rw [(hn' l ne).1, (hn' l ne).2]
    refine ⟨fun y1 y2 => p1 y1 (fun e => y2 ?_), fun y hy hw => ?_⟩
    · rw [(at_ G.1 (nw _ (by rw [e]; omega))).1]
      exact e
    by_cases yn : y = q
    · have z0 : (sI κ.1 l 2).toInt = 0 := by
        rcases h.lel hl ⟨g1, g2⟩ with e1 | ⟨y', e1, e2⟩
        · exact p1 e1.1 e1.2
        · rw [e1] at hy
          have : y' = y := Option.some.inj hy
          rw [this, yn, f0] at e2
          omega
      rw [yn, upW_at] at hw
      rw [yn, upW_ln, z0]
      exact ⟨by omega, h100 (by omega) (by omega), fun i hi => by omega⟩
    rw [(at_ y yn).1] at hw
    obtain ⟨q1, q2, q3⟩ := p2 y hy hw
    rw [(at_ y yn).2]
    exact ⟨q1, q2, fun i hi => by rw [(hn' y yn).2]; exact q3 i hi⟩
  · obtain ⟨c1, c2, c3, c4, c5, c6, c7⟩ := h.2.2.2.2.1
    refine ⟨?_, fun x hx => ?_, fun x hx => ?_, fun x y e g1 g2 => ?_, ?_, fun x hx => ?_, fun x hx => ?_⟩
    · exact c1
    · have ne := nq x (rw_ob hx)
      rw [(at_ x ne).1] at hx
      exact c2 x hx
    · have ne := nq x (by rw [hx]; rfl)
      rw [(at_ x ne).1] at hx
      exact c3 x hx
    · have obl : isOb ((upW W q r n).1 x) = true := by
        have := ls_c ⟨g1, g2⟩
        rcases this with e' | e' | e' | e' | e' <;> rw [e'] <;> rfl
      have n1 := nq x obl
      have n2 := nq y (by rw [← e]; exact obl)
      rw [(at_ x n1).1] at e g1 g2
      rw [(at_ y n2).1] at e
      exact c4 x y e g1 g2
    · have ne : E.2.2 ≠ q := fun e => hq (by rw [← e]; exact h.2.2.2.2.2.1)
      rw [(at_ E.2.2 ne).1]
      refine ⟨c5.1, fun x hx => ?_⟩
      have nx := nq x (by rw [hx]; rfl)
      rw [(at_ x nx).1] at hx
      exact c5.2 x hx
    · rw [(at_ x (nw x (rw_ne (c6 x hx)))).1]
      exact c6 x hx
    · rw [(at_ x (nw x (by rw [c7 x hx]; decide))).1]
      exact c7 x hx
  · have cc := h.2.2.2.2.1
    have := pot_up (κ' := (h_uN κ.1 q t n, κ.2 - (n + 12))) h le (fun x hx => by show sP (h_uN κ.1 q t n) x 0 = _; rw [(hn' x (nw x (rw_ne (cc.2.2.2.2.2.1 x hx)))).2]) (fun x hx => by show sP (h_uN κ.1 q t n) x 13 = _; rw [(hn' x (nw x (by rw [cc.2.2.2.2.2.2 x hx]; decide))).2]) (by show sI (h_uN κ.1 q t n) E.2.2 2 = _; rw [(hn' _ (fun e => hq (by rw [← e]; exact h.2.2.2.2.2.1))).1])
    have h8 := h.2.2.2.2.2.2
    show (pot E (upW W q r n) (h_uN κ.1 q t n) : Int) + (c - (n + 12)) ≤ ((κ.2 - (n + 12) : Nat) : Int)
    have this : pot E (upW W q r n) (h_uN κ.1 q t n) = pot E W κ.1 := this
    rw [this]
    omega
  · have : x ≠ q := fun e => hq (by rw [← e]; exact hx)
    rw [(at_ x this).1]
    exact e0
end R9J

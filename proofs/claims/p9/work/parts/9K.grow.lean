/-! the class: objects while they are made, rows that grow -/
section R9K
variable {G : GE} {E : CE} {W W' W2 : CW} {κ κ' κ2 : CS} {M M2 : List (Nat × Nat)} {a b b2 k r t o n q d : Nat} {c : Int} {D D2 : List Nat}
theorem ivC_0 : (ivC r k).1 ≤ 0 ∧ 0 ≤ (ivC r k).2 := by
  unfold ivC
  split <;> decide
theorem tgC_big (h : 25 ≤ k) : tgC r k = (0, 0) := by
  unfold tgC
  split <;> first | rfl | omega
theorem sm_mem {f : Nat → Nat} {y : Nat} : ∀ l : List Nat, y ∈ l → f y ≤ sm f l
  | [], h => by cases h
  | x :: l, h => by
    show f y ≤ f x + sm f l
    rcases List.mem_cons.mp h with e | e
    · rw [e]
      omega
    · have := sm_mem (f := f) l e
      omega
theorem CV.potR (h : CV G E W c κ) (hc : 0 ≤ c) (ha : W.1 a = r) (hr : isRw r = true) (hb : sP κ.1 a 0 = some b) : ((dcR r * (cpR r - W.2 b) : Nat) : Int) + c ≤ κ.2 := by
  have cc := h.2.2.2.2.1
  have p := h.2.2.2.2.2.2
  have m := sm_mem (f := fun a => dcR (W.1 a) * (cpR (W.1 a) - lnF W κ.1 a 0)) E.1 (cc.2.1 a (by rw [ha]; exact hr))
  have e : lnF W κ.1 a 0 = W.2 b := by unfold lnF; rw [hb]
  have m : dcR (W.1 a) * (cpR (W.1 a) - lnF W κ.1 a 0) ≤ sm (fun a => dcR (W.1 a) * (cpR (W.1 a) - lnF W κ.1 a 0)) E.1 := m
  rw [e, ha] at m
  unfold pot at p
  omega
theorem CV.potN (h : CV G E W c κ) (hc : 0 ≤ c) (ha : W.1 a = 5) (hb : sP κ.1 a 13 = some b) : nP (W.2 b) + c ≤ κ.2 := by
  have cc := h.2.2.2.2.1
  have p := h.2.2.2.2.2.2
  have m := sm_mem (f := fun a => nP (lnF W κ.1 a 13)) E.2.1 (cc.2.2.1 a ha)
  have e : lnF W κ.1 a 13 = W.2 b := by unfold lnF; rw [hb]
  have m : nP (lnF W κ.1 a 13) ≤ sm (fun a => nP (lnF W κ.1 a 13)) E.2.1 := m
  rw [e] at m
  unfold pot at p
  omega
/-- a Row gets other bytes -/
theorem CV.uRB (h : CV G E W c κ) (ha : W.1 a = r) (hr : isRw r = true) (hb : sP κ.1 a 0 = some b) (hb2 : W.1 b2 = 20) (hl : (sI κ.1 a 1).toInt ≤ W.2 b2) (h64 : 64 ≤ W.2 b2) (hc : W.2 b2 ≤ cpR r) (hd : d + dcR r * (cpR r - W.2 b2) ≤ dcR r * (cpR r - W.2 b)) (e : κ' = (h_uP κ.1 a 0 (some b2), κ.2)) : CV G E W (c + d) κ' := by
  subst e
  obtain ⟨h1, h2, h3, g6, h7, hm, h8⟩ := h
  have rc := isRw_c hr
  have hx0 : ixC r 0 = 0 := by unfold ixC; split <;> rfl
  have n13 : ∀ x, W.1 x = 5 → u2 (sP κ.1) a 0 (some b2) x 13 = sP κ.1 x 13 := fun x hx => u2_pl (by decide)
  have e0 : ∀ x, x ≠ a → u2 (sP κ.1) a 0 (some b2) x = sP κ.1 x := fun x hx => funext fun i => u2_addr hx
  refine ⟨h1.uP (fun q => by rw [ha, hx0, rw_t hr]; exact Or.inr (Or.inr (Or.inr ⟨b2, rfl, hb2⟩))), fun x hx y hy => ?_, fun x hx y hy => ?_, fun l q hl' g1 g2 => ?_, h7, hm, ?_⟩
  · have hy : u2 (sP κ.1) a 0 (some b2) x 0 = some y := hy
    by_cases e : x = a
    · subst e
      rw [u2_same] at hy
      cases hy
      rw [ha]
      exact ⟨hl, hc, h64⟩
    · rw [u2_addr e] at hy
      exact h2 x hx y hy
  · have hy : u2 (sP κ.1) a 0 (some b2) x 13 = some y := hy
    rw [n13 x hx] at hy
    exact h3 x hx y hy
  · have g := g6 l q hl' g1 g2
    have e1 : u2 (sP κ.1) a 0 (some b2) l 1 = sP κ.1 l 1 := u2_pl (by decide)
    refine ⟨fun hq hw => ?_, fun e he hr' => ?_⟩
    · have hq : u2 (sP κ.1) a 0 (some b2) l 1 = some G.1 := hq
      rw [e1] at hq
      exact g.1 hq hw
    · have he : u2 (sP κ.1) a 0 (some b2) l 1 = some e := he
      rw [e1] at he
      obtain ⟨q1, q2, q3⟩ := g.2 e he hr'
      refine ⟨q1, q2, fun k' hk => ?_⟩
      show u2 (sP κ.1) a 0 (some b2) e k' ≠ none
      rw [u2_addr (fun e' => by rw [e', ha] at hr'; omega)]
      exact q3 k' hk
  · have lo : lnF W κ.1 a 0 = W.2 b := by unfold lnF; rw [hb]
    have ln : lnF W (h_uP κ.1 a 0 (some b2)) a 0 = W.2 b2 := by
      unfold lnF
      have : sP (h_uP κ.1 a 0 (some b2)) a 0 = some b2 := u2_same
      rw [this]
    have ls : ∀ x, x ≠ a → lnF W (h_uP κ.1 a 0 (some b2)) x 0 = lnF W κ.1 x 0 := fun x hx => lnF_eq (u2_addr hx)
    have p1 : sm (fun x => dcR (W.1 x) * (cpR (W.1 x) - lnF W (h_uP κ.1 a 0 (some b2)) x 0)) E.1 + d ≤ sm (fun x => dcR (W.1 x) * (cpR (W.1 x) - lnF W κ.1 x 0)) E.1 := by
      refine sm_dn (y := a) _ (h7.2.1 a (by rw [ha]; exact hr)) (fun x hx => ?_) ?_
      · by_cases e : x = a
        · subst e
          show dcR (W.1 x) * (cpR (W.1 x) - lnF W (h_uP κ.1 x 0 (some b2)) x 0) ≤ dcR (W.1 x) * (cpR (W.1 x) - lnF W κ.1 x 0)
          rw [ln, lo, ha]
          omega
        · show dcR (W.1 x) * (cpR (W.1 x) - lnF W (h_uP κ.1 a 0 (some b2)) x 0) ≤ dcR (W.1 x) * (cpR (W.1 x) - lnF W κ.1 x 0)
          rw [ls x e]
          exact Nat.le_refl _
      · show dcR (W.1 a) * (cpR (W.1 a) - lnF W (h_uP κ.1 a 0 (some b2)) a 0) + d ≤ dcR (W.1 a) * (cpR (W.1 a) - lnF W κ.1 a 0)
        rw [ln, lo, ha]
        omega
    have p2 : sm (fun x => nP (lnF W (h_uP κ.1 a 0 (some b2)) x 13)) E.2.1 = sm (fun x => nP (lnF W κ.1 x 13)) E.2.1 := sm_ev _ (fun x hx => by
      have := lnF_eq (W := W) (a := x) (k := 13) (σ := κ.1) (σ' := h_uP κ.1 a 0 (some b2)) (n13 x (h7.2.2.2.2.2.2 x hx))
      rw [this])
    have p3 : sI (h_uP κ.1 a 0 (some b2)) = sI κ.1 := rfl
    show (pot E W (h_uP κ.1 a 0 (some b2)) : Int) + (c + d) ≤ κ.2
    unfold pot at h8 ⊢
    rw [p2, p3]
    omega
/-- a Node gets other bytes -/
theorem CV.uND (h : CV G E W c κ) (ha : W.1 a = 5) (hb : sP κ.1 a 13 = some b) (hb2 : W.1 b2 = 20) (hl : (sI κ.1 a 12).toInt ≤ W.2 b2) (hc : W.2 b2 ≤ 4096 ∧ W.2 b2 % 1024 = 0) (hd : d + nP (W.2 b2) ≤ nP (W.2 b)) (e : κ' = (h_uP κ.1 a 13 (some b2), κ.2)) : CV G E W (c + d) κ' := by
  subst e
  obtain ⟨h1, h2, h3, g6, h7, hm, h8⟩ := h
  have n0 : ∀ x, isRw (W.1 x) = true → u2 (sP κ.1) a 13 (some b2) x 0 = sP κ.1 x 0 := fun x hx => u2_pl (by decide)
  refine ⟨h1.uP (fun q => by rw [ha]; exact Or.inr (Or.inr (Or.inr ⟨b2, rfl, hb2⟩))), fun x hx y hy => ?_, fun x hx y hy => ?_, fun l q hl' g1 g2 => ?_, h7, hm, ?_⟩
  · have hy : u2 (sP κ.1) a 13 (some b2) x 0 = some y := hy
    rw [n0 x hx] at hy
    exact h2 x hx y hy
  · have hy : u2 (sP κ.1) a 13 (some b2) x 13 = some y := hy
    by_cases e : x = a
    · subst e
      rw [u2_same] at hy
      cases hy
      exact ⟨hl, hc.1, hc.2⟩
    · rw [u2_addr e] at hy
      exact h3 x hx y hy
  · have g := g6 l q hl' g1 g2
    have e1 : u2 (sP κ.1) a 13 (some b2) l 1 = sP κ.1 l 1 := u2_pl (by decide)
    refine ⟨fun hq hw => ?_, fun e he hr' => ?_⟩
    · have hq : u2 (sP κ.1) a 13 (some b2) l 1 = some G.1 := hq
      rw [e1] at hq
      exact g.1 hq hw
    · have he : u2 (sP κ.1) a 13 (some b2) l 1 = some e := he
      rw [e1] at he
      obtain ⟨q1, q2, q3⟩ := g.2 e he hr'
      refine ⟨q1, q2, fun k' hk => ?_⟩
      show u2 (sP κ.1) a 13 (some b2) e k' ≠ none
      rw [u2_addr (fun e' => by rw [e', ha] at hr'; omega)]
      exact q3 k' hk
  · have lo : lnF W κ.1 a 13 = W.2 b := by unfold lnF; rw [hb]
    have ln : lnF W (h_uP κ.1 a 13 (some b2)) a 13 = W.2 b2 := by
      unfold lnF
      have : sP (h_uP κ.1 a 13 (some b2)) a 13 = some b2 := u2_same
      rw [this]
    have ls : ∀ x, x ≠ a → lnF W (h_uP κ.1 a 13 (some b2)) x 13 = lnF W κ.1 x 13 := fun x hx => lnF_eq (u2_addr hx)
    have p1 : sm (fun x => nP (lnF W (h_uP κ.1 a 13 (some b2)) x 13)) E.2.1 + d ≤ sm (fun x => nP (lnF W κ.1 x 13)) E.2.1 := by
      refine sm_dn (y := a) _ (h7.2.2.1 a ha) (fun x hx => ?_) ?_
      · by_cases e : x = a
        · subst e
          show nP (lnF W (h_uP κ.1 x 13 (some b2)) x 13) ≤ nP (lnF W κ.1 x 13)
          rw [ln, lo]
          omega
        · show nP (lnF W (h_uP κ.1 a 13 (some b2)) x 13) ≤ nP (lnF W κ.1 x 13)
          rw [ls x e]
          exact Nat.le_refl _
      · show nP (lnF W (h_uP κ.1 a 13 (some b2)) a 13) + d ≤ nP (lnF W κ.1 a 13)
        rw [ln, lo]
        omega
    have p2 : sm (fun x => dcR (W.1 x) * (cpR (W.1 x) - lnF W (h_uP κ.1 a 13 (some b2)) x 0)) E.1 = sm (fun x => dcR (W.1 x) * (cpR (W.1 x) - lnF W κ.1 x 0)) E.1 := sm_ev _ (fun x hx => by
      have := lnF_eq (W := W) (a := x) (k := 0) (σ := κ.1) (σ' := h_uP κ.1 a 13 (some b2)) (n0 x (h7.2.2.2.2.2.1 x hx))
      rw [this])
    have p3 : sI (h_uP κ.1 a 13 (some b2)) = sI κ.1 := rfl
    show (pot E W (h_uP κ.1 a 13 (some b2)) : Int) + (c + d) ≤ κ.2
    unfold pot at h8 ⊢
    rw [p2, p3]
    omega
/-- a Node's size -/
theorem CV.uNS {v : Int32} (h : CV G E W c κ) (ha : W.1 a = 5) (hb : sP κ.1 a 13 = some b) (hv : 0 ≤ v.toInt ∧ v.toInt ≤ 4096) (hl : v.toInt ≤ W.2 b) (e : κ' = (h_uI κ.1 a 12 v, κ.2)) : CV G E W c κ' := by
  subst e
  obtain ⟨h1, h2, h3, h6, h7, hm, h8⟩ := h
  refine ⟨h1.uI (fun q => by rw [ha]; exact hv), fun x hx y hy => ?_, fun x hx y hy => ?_, fun l q hl' g1 g2 => ?_, h7, hm, ?_⟩
  · have g := h2 x hx y hy
    show (u2 (sI κ.1) a 12 v x 1).toInt ≤ _ ∧ _
    rw [u2_pl (by decide)]
    exact g
  · have g := h3 x hx y hy
    show (u2 (sI κ.1) a 12 v x 12).toInt ≤ _ ∧ _
    by_cases e : x = a
    · subst e
      have hy : sP κ.1 x 13 = some y := hy
      rw [hb] at hy
      cases hy
      rw [u2_same]
      exact ⟨hl, g.2⟩
    · rw [u2_addr e]
      exact g
  · have g := h6 l q hl' g1 g2
    have e2 : u2 (sI κ.1) a 12 v l 2 = sI κ.1 l 2 := u2_pl (by decide)
    show (_ → _ → (u2 (sI κ.1) a 12 v l 2).toInt = 0) ∧ ∀ e, _ → _ → (u2 (sI κ.1) a 12 v l 2).toInt ≤ _ ∧ _ ∧ ∀ k' : Nat, (k' : Int) < (u2 (sI κ.1) a 12 v l 2).toInt → _
    rw [e2]
    exact g
  · have e2 : u2 (sI κ.1) a 12 v E.2.2 2 = sI κ.1 E.2.2 2 := u2_pl (by decide)
    have : pot E W (h_uI κ.1 a 12 v) = pot E W κ.1 := by
      unfold pot
      show sm _ _ + sm _ _ + 400 * (u2 (sI κ.1) a 12 v E.2.2 2).toInt.toNat = _
      rw [e2]
      rfl
    show (pot E W (h_uI κ.1 a 12 v) : Int) + c ≤ κ.2
    rw [this]
    exact h8
/-- an object that is being made: D, what must still be put -/
def PO (G : GE) (E : CE) (W : CW) (κ : CS) (q r : Nat) (D : List Nat) : Prop := W.1 q = 0 ∧ (q ∈ sL κ.1 ∧ sK κ.1 q = kcr r) ∧ q ≠ E.2.2 ∧ ∀ k, ((ivC r k).1 ≤ (sI κ.1 q k).toInt ∧ (sI κ.1 q k).toInt ≤ (ivC r k).2) ∧ (k ∉ D → RV G W (sP κ.1 q k) (tgC r k))
theorem CV.newO (h : CV G E W c κ) (hq : q ∉ sL κ.1) (hk : d ≤ κ.2) (e : κ' = (h_uN κ.1 q t 0, κ.2 - d)) : CV G E W (c - d) κ' := by
  subst e
  have f0 := h.1.fresh hq
  have hn' : ∀ x, x ≠ q → sI (h_uN κ.1 q t 0) x = sI κ.1 x ∧ sP (h_uN κ.1 q t 0) x = sP κ.1 x := fun x hx => ⟨va_up_ne _ _ hx, va_up_ne _ _ hx⟩
  have nw : ∀ x, W.1 x ≠ 0 → x ≠ q := fun x hx e => hx (by rw [e]; exact f0)
  have cc := h.2.2.2.2.1
  have eq2 : E.2.2 ≠ q := fun e => hq (by rw [← e]; exact h.2.2.2.2.2.1)
  refine ⟨h.1.uN hq, fun x hx y hy => ?_, fun x hx y hy => ?_, fun l r' hl g1 g2 => ?_, cc, List.mem_append_left _ h.2.2.2.2.2.1, ?_⟩
  · have ne := nw x (rw_ne hx)
    rw [(hn' x ne).2] at hy
    rw [(hn' x ne).1]
    exact h.2.1 x hx y hy
  · have ne := nw x (by rw [hx]; decide)
    rw [(hn' x ne).2] at hy
    rw [(hn' x ne).1]
    exact h.2.2.1 x hx y hy
  · have ne := nw l (by rw [hl]; omega)
    rw [(hn' l ne).1, (hn' l ne).2]
    obtain ⟨p1, p2⟩ := h.2.2.2.1 l r' hl g1 g2
    refine ⟨p1, fun y hy hw => ?_⟩
    obtain ⟨q1, q2, q3⟩ := p2 y hy hw
    have yn := nw y (by rw [hw]; omega)
    exact ⟨q1, q2, fun i hi => by rw [(hn' y yn).2]; exact q3 i hi⟩
  · have := pot_up (κ' := (h_uN κ.1 q t 0, κ.2 - d)) h WLe.rf (fun x hx => by show sP (h_uN κ.1 q t 0) x 0 = _; rw [(hn' x (nw x (rw_ne (cc.2.2.2.2.2.1 x hx)))).2]) (fun x hx => by show sP (h_uN κ.1 q t 0) x 13 = _; rw [(hn' x (nw x (by rw [cc.2.2.2.2.2.2 x hx]; decide))).2]) (by show sI (h_uN κ.1 q t 0) E.2.2 2 = _; rw [(hn' _ eq2).1])
    have h8 := h.2.2.2.2.2.2
    show (pot E W (h_uN κ.1 q t 0) : Int) + (c - d) ≤ ((κ.2 - d : Nat) : Int)
    have this : pot E W (h_uN κ.1 q t 0) = pot E W κ.1 := this
    rw [this]
    omega
theorem PO.new (h : CV G E W c κ) (hq : q ∉ sL κ.1) (e : κ' = (h_uN κ.1 q t 0, κ.2 - d)) (hk : kcr r = t) (hD : ∀ k, k < 25 → k ∉ D → (tgC r k).1 = 0 ∨ (tgC r k).2 = 1) : PO G E W κ' q r D := by
  subst e
  have eK : sK (h_uN κ.1 q t 0) q = t := va_up_self _ _ _
  have eI : sI (h_uN κ.1 q t 0) q = fun _ => 0 := va_up_self _ _ _
  have eP : sP (h_uN κ.1 q t 0) q = fun _ => none := va_up_self _ _ _
  refine ⟨h.1.fresh hq, ⟨List.mem_append_right _ (List.mem_singleton.mpr rfl), by rw [eK, hk]⟩, fun e => hq (by rw [e]; exact h.2.2.2.2.2.1), fun k => ⟨?_, fun hk' => ?_⟩⟩
  · rw [eI]
    exact ivC_0
  · rw [eP]
    by_cases c25 : 25 ≤ k
    · rw [tgC_big c25]
      exact Or.inl rfl
    · rcases hD k (by omega) hk' with e | e
      · exact Or.inl e
      · exact Or.inr (Or.inl ⟨e, rfl⟩)
theorem PO.uI {v : Int32} (h : PO G E W κ q r D) (hv : (ivC r k).1 ≤ v.toInt ∧ v.toInt ≤ (ivC r k).2) (e : κ' = (h_uI κ.1 q k v, κ.2)) : PO G E W κ' q r D := by
  subst e
  refine ⟨h.1, h.2.1, h.2.2.1, fun i => ⟨?_, (h.2.2.2 i).2⟩⟩
  show _ ≤ (u2 (sI κ.1) q k v q i).toInt ∧ (u2 (sI κ.1) q k v q i).toInt ≤ _
  by_cases d : i = k
  · subst d
    rw [u2_same]
    exact hv
  · rw [u2_pl d]
    exact (h.2.2.2 i).1
theorem PO.uJ {v : Int64} (h : PO G E W κ q r D) (e : κ' = (h_uJ κ.1 q k v, κ.2)) : PO G E W κ' q r D := by
  subst e
  exact h
theorem PO.uP {v : Option Nat} (h : PO G E W κ q r D) (hv : RV G W v (tgC r k)) (hD : ∀ x ∈ D, x = k ∨ x ∈ D2) (e : κ' = (h_uP κ.1 q k v, κ.2)) : PO G E W κ' q r D2 := by
  subst e
  refine ⟨h.1, h.2.1, h.2.2.1, fun i => ⟨(h.2.2.2 i).1, fun hi => ?_⟩⟩
  show RV G W (u2 (sP κ.1) q k v q i) _
  by_cases d : i = k
  · subst d
    rw [u2_same]
    exact hv
  · rw [u2_pl d]
    exact (h.2.2.2 i).2 (fun x => (hD i x).elim d hi)
theorem PO.fr (p : PO G E W κ q r D) (f : CF M W κ κ') (x : WX W W' κ) : PO G E W' κ' q r D := by
  obtain ⟨p1, p2, p3, p4⟩ := p
  have g := f.2 q p2.1
  refine ⟨x.2 q p2.1 p1, ⟨g.1.1, g.1.2.1.trans p2.2⟩, p3, fun i => ?_⟩
  have e := g.2 p1 i
  rw [e.1, e.2.2]
  exact ⟨(p4 i).1, fun hi => ((p4 i).2 hi).up x.1⟩
theorem CV.uI0 {v : Int32} (h : CV G E W c κ) (p : PO G E W κ q r D) (e : κ' = (h_uI κ.1 q k v, κ.2)) : CV G E W c κ' := h.uI p.1 (Or.inl rfl) (Or.inl (by decide)) (Or.inr (Or.inr ⟨rfl, p.2.2.1⟩)) (fun q => absurd rfl q) e
theorem CV.uP0 {v : Option Nat} (h : CV G E W c κ) (p : PO G E W κ q r D) (e : κ' = (h_uP κ.1 q k v, κ.2)) : CV G E W c κ' := h.uP p.1 rfl (Or.inl (by decide)) (by decide) (by decide) (fun q => absurd rfl q) e
/-- it is made -/
theorem CV.addO (h : CV G E W c κ) (p : PO G E W κ q r []) (hr : r ≠ 0 ∧ r < 14 ∧ r ≠ 5) : ∃ W', (WLe W W' ∧ ∀ a, a ≠ q → W'.1 a = W.1 a) ∧ CV G E W' c κ ∧ W'.1 q = r := by
  obtain ⟨p1, p2, p3, p4⟩ := p
  have ob : isOb r = true := by
    unfold isOb
    rw [decide_eq_true hr.2.1]
    rfl
  have le := upW_le (W := W) (r := r) (n := 0) p1
  have at_ : ∀ x, x ≠ q → (upW W q r 0).1 x = W.1 x ∧ (upW W q r 0).2 x = W.2 x := fun x hx => ⟨if_neg hx, if_neg hx⟩
  have cc := h.2.2.2.2.1
  have nr : ∀ x, ¬ ((upW W q r 0).1 x ≠ 0 ∧ (upW W q r 0).1 x < 14 ∧ (upW W q r 0).1 x ≠ 5) → x ≠ q := fun x hx e => hx (by rw [e, upW_at]; exact hr)
  have nw : ∀ x, W.1 x ≠ 0 → x ≠ q := fun x hx e => hx (by rw [e]; exact p1)
  have rwb : ∀ x, isRw ((upW W q r 0).1 x) = true → x ≠ q := fun x hx => nr x (fun g => by have := isRw_c hx; omega)
  refine ⟨upW W q r 0, ⟨le, fun x hx => (at_ x hx).1⟩, ⟨h.1.add p1 p2 (fun e => by rw [ob] at e; cases e) (fun i _ => ?_), fun x hx y hy => ?_, fun x hx y hy => ?_, fun l r' hl g1 g2 => ?_, ?_, h.2.2.2.2.2.1, ?_⟩, upW_at⟩
  · have e : ixC r i = i := by unfold ixC; rw [ob]; rfl
    rw [e]
    exact ⟨(p4 i).1, (p4 i).2 (fun x => by cases x)⟩
  · have ne := rwb x hx
    rw [(at_ x ne).1] at hx ⊢
    obtain ⟨y', ey, wy⟩ := h.1.nn rfl (rw_ne hx) (rw_ob hx) 0 (rw_t hx) (by decide)
    rw [ey] at hy
    cases hy
    rw [(at_ y (nw y (by rw [wy]; decide))).2]
    exact h.2.1 x hx y ey
  · have ne := nr x (by omega)
    rw [(at_ x ne).1] at hx
    obtain ⟨y', ey, wy⟩ := h.1.nn hx (by decide) rfl 13 rfl (by decide)
    rw [ey] at hy
    cases hy
    rw [(at_ y (nw y (by rw [wy]; decide))).2]
    exact h.2.2.1 x hx y ey
  · have ne := nr l (by omega)
    rw [(at_ l ne).1] at hl
    obtain ⟨g3, g4⟩ := h.2.2.2.1 l r' hl g1 g2
    refine ⟨fun y1 y2 => g3 y1 (fun e => y2 ?_), fun y hy hw => ?_⟩
    · rw [(at_ G.1 (nw _ (by rw [e]; omega))).1]
      exact e
    · have yn := nr y (by omega)
      rw [(at_ y yn).1] at hw
      rw [(at_ y yn).2]
      exact g4 y hy hw
  · obtain ⟨c1, c2, c3, c4, c5, c6, c7⟩ := cc
    refine ⟨c1, fun x hx => ?_, fun x hx => ?_, fun x y e g1 g2 => ?_, ⟨?_, fun x hx => ?_⟩, fun x hx => ?_, fun x hx => ?_⟩
    · have ne := rwb x hx
      rw [(at_ x ne).1] at hx
      exact c2 x hx
    · have ne := nr x (by omega)
      rw [(at_ x ne).1] at hx
      exact c3 x hx
    · have n1 := nr x (by omega)
      have n2 := nr y (by omega)
      rw [(at_ x n1).1] at e g1 g2
      rw [(at_ y n2).1] at e
      exact c4 x y e g1 g2
    · rw [(at_ E.2.2 (Ne.symm p3)).1]
      exact c5.1
    · have ne := nr x (by omega)
      rw [(at_ x ne).1] at hx
      exact c5.2 x hx
    · rw [(at_ x (nw x (rw_ne (c6 x hx)))).1]
      exact c6 x hx
    · rw [(at_ x (nw x (by rw [c7 x hx]; decide))).1]
      exact c7 x hx
  · have := pot_up (κ' := κ) h le (fun x hx => rfl) (fun x hx => rfl) rfl
    rw [this]
    exact h.2.2.2.2.2.2
theorem WX.add (x : WX W W2 κ) (hq : q ∉ sL κ.1) (g : WLe W2 W' ∧ ∀ a, a ≠ q → W'.1 a = W2.1 a) : WX W W' κ := ⟨x.1.tr g.1, fun a ha e => by
  rw [g.2 a (fun e' => hq (by rw [← e']; exact ha))]
  exact x.2 a ha e⟩
/-- a frame that leaves out what is being made -/
def CFx (M : List (Nat × Nat)) (W : CW) (q : Nat) (κ κ' : CS) : Prop := (∀ a, W.1 a ≠ 0 → ∀ k, (W.1 a, ixC (W.1 a) k) ∉ M → sI κ'.1 a k = sI κ.1 a k ∧ sJ κ'.1 a k = sJ κ.1 a k ∧ sP κ'.1 a k = sP κ.1 a k) ∧ ∀ a ∈ sL κ.1, (a ∈ sL κ'.1 ∧ sK κ'.1 a = sK κ.1 a ∧ sN κ'.1 a = sN κ.1 a) ∧ (a ≠ q → W.1 a = 0 → ∀ k, sI κ'.1 a k = sI κ.1 a k ∧ sJ κ'.1 a k = sJ κ.1 a k ∧ sP κ'.1 a k = sP κ.1 a k)
theorem CFx.rf : CFx M W q κ κ := ⟨fun _ _ _ _ => ⟨rfl, rfl, rfl⟩, fun _ h => ⟨⟨h, rfl, rfl⟩, fun _ _ _ => ⟨rfl, rfl, rfl⟩⟩⟩
theorem CFx.sl (h : CFx M W q κ κ') : ∀ a ∈ sL κ.1, a ∈ sL κ'.1 := fun a ha => (h.2 a ha).1.1
theorem CFx.trW (h : CFx M W q κ κ') (x : WX W W' κ) (g : CF M2 W' κ' κ2) (hm : ∀ y ∈ M2, y ∈ M) : CFx M W q κ κ2 := by
  refine ⟨fun a ha k hk => ?_, fun a ha => ?_⟩
  · have h1 := h.1 a ha k hk
    have e := (x.1 a ha).1
    have h2 := g.1 a (by rw [e]; exact ha) k (fun q => hk (hm _ (by rw [e] at q; exact q)))
    exact ⟨h2.1.trans h1.1, h2.2.1.trans h1.2.1, h2.2.2.trans h1.2.2⟩
  · have h1 := h.2 a ha
    have h2 := g.2 a h1.1.1
    refine ⟨⟨h2.1.1, h2.1.2.1.trans h1.1.2.1, h2.1.2.2.trans h1.1.2.2⟩, fun n e k => ?_⟩
    have q1 := h1.2 n e k
    have q2 := h2.2 (x.2 a ha e) k
    exact ⟨q2.1.trans q1.1, q2.2.1.trans q1.2.1, q2.2.2.trans q1.2.2⟩
theorem CF.trX (h : CF M W κ κ') (x : WX W W' κ) (hq : q ∉ sL κ.1) (h0 : W'.1 q = 0) (g : CFx M2 W' q κ' κ2) (hm : ∀ y ∈ M2, y ∈ M) : CF M W κ κ2 := by
  refine ⟨fun a ha k hk => ?_, fun a ha => ?_⟩
  · have h1 := h.1 a ha k hk
    have e := (x.1 a ha).1
    have h2 := g.1 a (by rw [e]; exact ha) k (fun q => hk (hm _ (by rw [e] at q; exact q)))
    exact ⟨h2.1.trans h1.1, h2.2.1.trans h1.2.1, h2.2.2.trans h1.2.2⟩
  · have h1 := h.2 a ha
    have h2 := g.2 a h1.1.1
    refine ⟨⟨h2.1.1, h2.1.2.1.trans h1.1.2.1, h2.1.2.2.trans h1.1.2.2⟩, fun e k => ?_⟩
    have q1 := h1.2 e k
    have q2 := h2.2 (fun e' => hq (by rw [← e']; exact ha)) (x.2 a ha e) k
    exact ⟨q2.1.trans q1.1, q2.2.1.trans q1.2.1, q2.2.2.trans q1.2.2⟩
theorem CFx.pI {v : Int32} (h : CFx M W q κ κ') (h0 : W.1 q = 0) (e : κ2 = (h_uI κ'.1 q k v, κ'.2)) : CFx M W q κ κ2 := by
  subst e
  refine ⟨fun a ha i hi => ?_, fun a ha => ⟨(h.2 a ha).1, fun n e i => ?_⟩⟩
  · have h1 := h.1 a ha i hi
    exact ⟨(u2_addr (fun e => ha (by rw [e]; exact h0))).trans h1.1, h1.2⟩
  · have h1 := (h.2 a ha).2 n e i
    exact ⟨(u2_addr n).trans h1.1, h1.2⟩
theorem CFx.pJ {v : Int64} (h : CFx M W q κ κ') (h0 : W.1 q = 0) (e : κ2 = (h_uJ κ'.1 q k v, κ'.2)) : CFx M W q κ κ2 := by
  subst e
  refine ⟨fun a ha i hi => ?_, fun a ha => ⟨(h.2 a ha).1, fun n e i => ?_⟩⟩
  · have h1 := h.1 a ha i hi
    exact ⟨h1.1, (u2_addr (fun e => ha (by rw [e]; exact h0))).trans h1.2.1, h1.2.2⟩
  · have h1 := (h.2 a ha).2 n e i
    exact ⟨h1.1, (u2_addr n).trans h1.2.1, h1.2.2⟩
theorem CFx.pP {v : Option Nat} (h : CFx M W q κ κ') (h0 : W.1 q = 0) (e : κ2 = (h_uP κ'.1 q k v, κ'.2)) : CFx M W q κ κ2 := by
  subst e
  refine ⟨fun a ha i hi => ?_, fun a ha => ⟨(h.2 a ha).1, fun n e i => ?_⟩⟩
  · have h1 := h.1 a ha i hi
    exact ⟨h1.1, h1.2.1, (u2_addr (fun e => ha (by rw [e]; exact h0))).trans h1.2.2⟩
  · have h1 := (h.2 a ha).2 n e i
    exact ⟨h1.1, h1.2.1, (u2_addr n).trans h1.2.2⟩
/-- a new array, told shortly -/
theorem CV.mkA (h : CV G E W c κ) (hq : q ∉ sL κ.1) (hob : isOb r = false) (hc : kcr r = t) (hf : fxl r = 0 ∨ n = fxl r) (hn : n ≤ 1000000) (h100 : 50 ≤ r → r < 55 → n ≤ 100) (hi : (ivC r 0).1 ≤ 0 ∧ 0 ≤ (ivC r 0).2) (ht : (tgC r 0).1 = 0 ∨ (tgC r 0).2 = 1) (hk : n + 12 ≤ κ.2) (e : κ' = (h_uN κ.1 q t n, κ.2 - (n + 12))) : ∃ W', WX W W' κ ∧ CV G E W' (c - (n + 12)) κ' ∧ W'.1 q = r ∧ W'.2 q = n ∧ CF M W κ κ' := by
  obtain ⟨g1, g2⟩ := h.newA hq h100 hob hc hf hn hi ht hk e
  exact ⟨_, g2, g1, upW_at, upW_ln, CF.rf.uN h.1 hq e⟩
theorem t_J7_copyOf_9075b (hV : CV G E W c κ) (a0 : Option Nat) (e0 : a0 = some b) (hb : W.1 b = 20) (a1 : Int32) (h1 : (W.2 b : Int) < a1.toInt ∧ a1.toInt ≤ 1000000) (hk : a1.toInt + 12 ≤ κ.2) {post : Option Nat → CS → Prop} (kk : ∀ (z : Option Nat) (q : Nat) (W' : CW) (κ' : CS), z = some q → WX W W' κ → CV G E W' (c - (a1.toInt + 12)) κ' → CF [(20, 0)] W κ κ' → W'.1 q = 20 → (W'.2 q : Int) = a1.toInt → post z κ') : F_J7_copyOf_9075b G a0 a1 post κ := by
  unfold F_J7_copyOf_9075b
  have ln := hV.ln hb (by decide) rfl
  have lm := hV.lm hb (by decide) rfl
  refine ⟨W.2 b, AL.of hV e0 hb (by decide) rfl (by decide), fun z1 e1 => ⟨fun c1 => ⟨by omega, by omega, fun o2 hq κ3 e3 => ?_⟩, fun c1 => ?_⟩⟩
  · obtain ⟨W', x, hV3, wq, wn, f3⟩ := hV.mkA (M := [(20, 0)]) (r := 20) hq rfl rfl (Or.inl rfl) (by omega) (by omega) (by decide) (Or.inl rfl) (by omega) e3
    have hb3 := x.1.at hb (by decide)
    have lb3 : W'.2 b = W.2 b := (x.1 b (by rw [hb]; decide)).2
    have l1 := hV3.ln wq (by decide) rfl
    have l2 := hV3.ln hb3 (by decide) rfl
    refine ⟨W'.2 b, AL.of hV3 e0 hb3 (by decide) rfl (by decide), fun z4 e4 z6 e6 => ?_⟩
    have n4 := nI_ln e4 (hV3.lm hb3 (by decide) rfl)
    have k0 : (0 : Int32).toInt = 0 := rfl
    refine ⟨b, e0, o2, rfl, hV3.mm hb3 (by decide) rfl, hV3.mm wq (by decide) rfl, ⟨by omega, by omega, by omega, by omega, by omega⟩, fun j hj => (hV3.1.el hb3 (by decide) rfl _ (by omega)).1, fun κ7 e7 => ?_⟩
    have hV7 := hV3.cpI hb3 rfl wq rfl (by omega) e7
    have f7 := f3.trW x (CF.rf.cpI (M := [(20, 0)]) wq rfl (by decide) e7) (by decide)
    exact kk (some o2) o2 W' κ7 rfl x (hV7.dn (by omega)) f7 wq (by rw [wn]; omega)
  · have n1 := nI_ln e1 lm
    omega
end R9K

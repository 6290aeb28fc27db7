/-! the class: what holds of it, and what it may still make -/
/-- all Rows, all Nodes, the list of those that wait -/
abbrev CE : Type := List Nat × List Nat × Nat
def lnF (W : CW) (σ : HS) (a k : Nat) : Nat := match sP σ a k with
  | some b => W.2 b
  | none => 0
/-- how long the bytes of a Row get, and how dear it is -/
def cpR (r : Nat) : Nat := match r with
  | 60 => 16064 | 61 => 1400 | 62 => 160000 | 63 => 32000 | 64 => 8072 | _ => 0
def dcR (r : Nat) : Nat := match r with
  | 61 => 21 | _ => 3
/-- what the bytes of a Node that are n long may still cost, by steps of 1024 -/
def nP (n : Nat) : Nat := if n < 1024 then 10288 else if n < 2048 then 9252 else if n < 3072 then 7192 else if n < 4096 then 4108 else 0
def sm (f : Nat → Nat) : List Nat → Nat
  | [] => 0
  | a :: l => f a + sm f l
def pot (E : CE) (W : CW) (σ : HS) : Nat := sm (fun a => dcR (W.1 a) * (cpR (W.1 a) - lnF W σ a 0)) E.1 + sm (fun a => nP (lnF W σ a 13)) E.2.1 + 400 * (sI σ E.2.2 2).toInt.toNat
def RR (W : CW) (σ : HS) : Prop := ∀ a, isRw (W.1 a) = true → ∀ b, sP σ a 0 = some b → (sI σ a 1).toInt ≤ W.2 b ∧ W.2 b ≤ cpR (W.1 a) ∧ 64 ≤ W.2 b
def NR (W : CW) (σ : HS) : Prop := ∀ a, W.1 a = 5 → ∀ b, sP σ a 13 = some b → (sI σ a 12).toInt ≤ W.2 b ∧ W.2 b ≤ 4096 ∧ W.2 b % 1024 = 0
def LR (G : GE) (W : CW) (σ : HS) : Prop := ∀ l r, W.1 l = r → 40 ≤ r → r < 45 → (sP σ l 1 = some G.1 → W.1 G.1 ≠ r + 10 → (sI σ l 2).toInt = 0) ∧ ∀ e, sP σ l 1 = some e → W.1 e = r + 10 → (sI σ l 2).toInt ≤ W.2 e ∧ W.2 e ≤ 100 ∧ ∀ k : Nat, (k : Int) < (sI σ l 2).toInt → sP σ e k ≠ none
/-- each elementData belongs to one list -/
def CC (G : GE) (E : CE) (W : CW) : Prop := G = G ∧ (∀ a, isRw (W.1 a) = true → a ∈ E.1) ∧ (∀ a, W.1 a = 5 → a ∈ E.2.1) ∧ (∀ a b, W.1 a = W.1 b → 40 ≤ W.1 a → W.1 a < 45 → a = b) ∧ ((W.1 E.2.2 = 44 ∨ W.1 E.2.2 = 0) ∧ ∀ a, W.1 a = 44 → a = E.2.2) ∧ (∀ a ∈ E.1, isRw (W.1 a) = true) ∧ ∀ a ∈ E.2.1, W.1 a = 5
/-- c: what is left beside (below 0: what is owed) -/
def CV (G : GE) (E : CE) (W : CW) (c : Int) (κ : CS) : Prop := TV G W κ.1 ∧ RR W κ.1 ∧ NR W κ.1 ∧ LR G W κ.1 ∧ CC G E W ∧ E.2.2 ∈ sL κ.1 ∧ (pot E W κ.1 : Int) + c ≤ κ.2
section R99
variable {G : GE} {E : CE} {W W' : CW} {κ κ' : CS} {a b k r t : Nat} {c : Int}
theorem sm_ev {f g : Nat → Nat} : ∀ l : List Nat, (∀ x ∈ l, f x = g x) → sm f l = sm g l
  | [], _ => rfl
  | x :: l, h => by
    show f x + sm f l = g x + sm g l
    rw [h x (List.mem_cons_self), sm_ev l (fun y hy => h y (List.mem_cons_of_mem _ hy))]
theorem sm_le {f g : Nat → Nat} : ∀ l : List Nat, (∀ x ∈ l, f x ≤ g x) → sm f l ≤ sm g l
  | [], _ => Nat.le_refl _
  | x :: l, h => by
    have h1 := h x (List.mem_cons_self)
    have h2 := sm_le l (fun y hy => h y (List.mem_cons_of_mem _ hy))
    show f x + sm f l ≤ g x + sm g l
    omega
/-- one of them falls by d -/
theorem sm_dn {f g : Nat → Nat} {d : Nat} {y : Nat} : ∀ l : List Nat, y ∈ l → (∀ x ∈ l, f x ≤ g x) → f y + d ≤ g y → sm f l + d ≤ sm g l
  | [], h, _, _ => by cases h
  | x :: l, h, h1, h2 => by
    have g1 := h1 x (List.mem_cons_self)
    show f x + sm f l + d ≤ g x + sm g l
    rcases List.mem_cons.mp h with e | e
    · subst e
      have g2 := sm_le l (fun z hz => h1 z (List.mem_cons_of_mem _ hz))
      omega
    · have g2 := sm_dn l e (fun z hz => h1 z (List.mem_cons_of_mem _ hz)) h2
      omega
theorem CV.dn (h : CV G E W c κ) {c' : Int} (hc : c' ≤ c) : CV G E W c' κ := ⟨h.1, h.2.1, h.2.2.1, h.2.2.2.1, h.2.2.2.2.1, h.2.2.2.2.2.1, by have := h.2.2.2.2.2.2; omega⟩
theorem CV.mm (h : CV G E W c κ) (ha : W.1 a = r) (hr : r ≠ 0) {q : Nat} (hk : kcr r = q) : a ∈ sL κ.1 ∧ sK κ.1 a = q := h.1.mm ha hr hk
theorem lnF_eq {σ σ' : HS} (h : sP σ' a k = sP σ a k) : lnF W σ' a k = lnF W σ a k := by
  unfold lnF
  rw [h]
/-- an int is put where nothing hangs on it -/
theorem CV.uI {v : Int32} (h : CV G E W c κ) (ha : W.1 a = r) (hs : isRw r = false ∨ k ≠ 1) (h5 : r ≠ 5 ∨ k ≠ 12) (h4 : (¬ (40 ≤ r ∧ r < 45) ∧ r ≠ 0) ∨ k ≠ 2 ∨ (r = 0 ∧ a ≠ E.2.2)) (hv : r ≠ 0 → (ivC r (ixC r k)).1 ≤ v.toInt ∧ v.toInt ≤ (ivC r (ixC r k)).2) (e : κ' = (h_uI κ.1 a k v, κ.2)) : CV G E W c κ' := by
  subst e
  obtain ⟨h1, h2, h3, h6, h7, hm, h8⟩ := h
  refine ⟨h1.uI (fun q => by rw [ha] at q ⊢; exact hv q), fun x hx y hy => ?_, fun x hx y hy => ?_, fun l q hl g1 g2 => ?_, h7, hm, ?_⟩
  · have g := h2 x hx y hy
    show (u2 (sI κ.1) a k v x 1).toInt ≤ _ ∧ _
    by_cases e : x = a
    · subst e
      rw [ha] at hx
      rw [u2_pl (fun e => (hs.resolve_left (by rw [hx]; decide)) e.symm)]
      exact g
    · rw [u2_addr e]
      exact g
  · have g := h3 x hx y hy
    show (u2 (sI κ.1) a k v x 12).toInt ≤ _ ∧ _
    by_cases e : x = a
    · subst e
      rw [ha] at hx
      rw [u2_pl (fun e => (h5.resolve_left (fun n => n hx)) e.symm)]
      exact g
    · rw [u2_addr e]
      exact g
  · have g := h6 l q hl g1 g2
    have e2 : u2 (sI κ.1) a k v l 2 = sI κ.1 l 2 := by
      by_cases e : l = a
      · subst e
        rw [ha] at hl
        exact u2_pl (fun e => (h4.resolve_left (fun n => n.1 (by rw [hl]; exact ⟨g1, g2⟩))).elim (fun n => n e.symm) (fun n => by omega))
      · exact u2_addr e
    show (_ → _ → (u2 (sI κ.1) a k v l 2).toInt = 0) ∧ ∀ e, _ → _ → (u2 (sI κ.1) a k v l 2).toInt ≤ _ ∧ _ ∧ ∀ k' : Nat, (k' : Int) < (u2 (sI κ.1) a k v l 2).toInt → _
    rw [e2]
    exact g
  · have e2 : u2 (sI κ.1) a k v E.2.2 2 = sI κ.1 E.2.2 2 := by
      by_cases e : E.2.2 = a
      · have hl := h7.2.2.2.2.1.1
        rw [e, ha] at hl
        rw [e]
        exact u2_pl (fun e' => (h4.resolve_left (fun n => hl.elim (fun q => n.1 (by rw [q]; decide)) n.2)).elim (fun n => n e'.symm) (fun n => n.2 e.symm))
      · exact u2_addr e
    have : pot E W (h_uI κ.1 a k v) = pot E W κ.1 := by
      unfold pot
      show sm _ _ + sm _ _ + 400 * (u2 (sI κ.1) a k v E.2.2 2).toInt.toNat = _
      rw [e2]
      rfl
    show (pot E W (h_uI κ.1 a k v) : Int) + c ≤ κ.2
    rw [this]
    exact h8
theorem CV.uJ {v : Int64} (h : CV G E W c κ) (e : κ' = (h_uJ κ.1 a k v, κ.2)) : CV G E W c κ' := by
  subst e
  exact ⟨h.1.uJ, h.2.1, h.2.2.1, h.2.2.2.1, h.2.2.2.2.1, h.2.2.2.2.2.1, h.2.2.2.2.2.2⟩
/-- a ref is put where nothing hangs on it -/
theorem CV.uP {v : Option Nat} (h : CV G E W c κ) (ha : W.1 a = r) (hs : isRw r = false) (h5 : r ≠ 5 ∨ k ≠ 13) (h4 : ¬ (40 ≤ r ∧ r < 45)) (h6 : ¬ (50 ≤ r ∧ r < 55)) (hv : r ≠ 0 → RV G W v (tgC r (ixC r k))) (e : κ' = (h_uP κ.1 a k v, κ.2)) : CV G E W c κ' := by
  subst e
  obtain ⟨h1, h2, h3, g6, h7, hm, h8⟩ := h
  have n0 : ∀ x, isRw (W.1 x) = true → u2 (sP κ.1) a k v x 0 = sP κ.1 x 0 := fun x hx => u2_addr (fun e => by rw [e, ha, hs] at hx; cases hx)
  have n13 : ∀ x, W.1 x = 5 → u2 (sP κ.1) a k v x 13 = sP κ.1 x 13 := fun x hx => by
    by_cases e : x = a
    · subst e
      rw [ha] at hx
      exact u2_pl (fun e => (h5.resolve_left (fun n => n hx)) e.symm)
    · exact u2_addr e
  refine ⟨h1.uP (fun q => by rw [ha] at q ⊢; exact hv q), fun x hx y hy => ?_, fun x hx y hy => ?_, fun l q hl g1 g2 => ?_, h7, hm, ?_⟩
  · have hy : u2 (sP κ.1) a k v x 0 = some y := hy
    rw [n0 x hx] at hy
    exact h2 x hx y hy
  · have hy : u2 (sP κ.1) a k v x 13 = some y := hy
    rw [n13 x hx] at hy
    exact h3 x hx y hy
  · have g := g6 l q hl g1 g2
    have e1 : u2 (sP κ.1) a k v l 1 = sP κ.1 l 1 := u2_addr (fun e => h4 (by rw [← ha, ← e, hl]; exact ⟨g1, g2⟩))
    refine ⟨fun hq hw => ?_, fun e he hr => ?_⟩
    · have hq : u2 (sP κ.1) a k v l 1 = some G.1 := hq
      rw [e1] at hq
      exact g.1 hq hw
    · have he : u2 (sP κ.1) a k v l 1 = some e := he
      rw [e1] at he
      obtain ⟨q1, q2, q3⟩ := g.2 e he hr
      refine ⟨q1, q2, fun k' hk => ?_⟩
      show u2 (sP κ.1) a k v e k' ≠ none
      rw [u2_addr (fun e' => h6 (by rw [← ha, ← e', hr]; omega))]
      exact q3 k' hk
  · have p1 : sm (fun x => dcR (W.1 x) * (cpR (W.1 x) - lnF W (h_uP κ.1 a k v) x 0)) E.1 = sm (fun x => dcR (W.1 x) * (cpR (W.1 x) - lnF W κ.1 x 0)) E.1 := sm_ev _ (fun x hx => by
      have := lnF_eq (W := W) (a := x) (k := 0) (σ := κ.1) (σ' := h_uP κ.1 a k v) (n0 x (h7.2.2.2.2.2.1 x hx))
      rw [this])
    have p2 : sm (fun x => nP (lnF W (h_uP κ.1 a k v) x 13)) E.2.1 = sm (fun x => nP (lnF W κ.1 x 13)) E.2.1 := sm_ev _ (fun x hx => by
      have := lnF_eq (W := W) (a := x) (k := 13) (σ := κ.1) (σ' := h_uP κ.1 a k v) (n13 x (h7.2.2.2.2.2.2 x hx))
      rw [this])
    have : pot E W (h_uP κ.1 a k v) = pot E W κ.1 := by
      unfold pot
      rw [p1, p2]
      rfl
    show (pot E W (h_uP κ.1 a k v) : Int) + c ≤ κ.2
    rw [this]
    exact h8
theorem RV.nn {q : Option Nat} (h : RV G W q (t, 0)) (h0 : t ≠ 0) : ∃ b, q = some b ∧ W.1 b = t := by
  rcases h with e | e | e | e
  · exact absurd e h0
  · exact absurd (show (0 : Nat) = 1 from e.1) (by decide)
  · exact absurd (show (0 : Nat) = 2 from e.1) (by decide)
  · exact e
theorem AL.of (h : CV G E W c κ) {q : Option Nat} (e : q = some b) (hb : W.1 b = r) (hr : r ≠ 0) (hob : isOb r = false) (hk : 20 ≤ kcr r ∧ kcr r < 28) : AL G κ q (W.2 b) := Or.inl ⟨b, e, ⟨(h.1.mm hb hr rfl).1, by rw [(h.1.mm hb hr rfl).2]; exact hk⟩, (h.1.ln hb hr hob).symm⟩
theorem BA.of (h : CV G E W c κ) {q : Option Nat} (e : q = some b) (hb : W.1 b = r) (hr : r ≠ 0) (hob : isOb r = false) (hk : kcr r = 20) : BA G κ q (sI κ.1 b) (W.2 b) := Or.inl ⟨b, e, ⟨(h.1.mm hb hr rfl).1, by rw [(h.1.mm hb hr rfl).2]; exact hk⟩, rfl, (h.1.ln hb hr hob).symm⟩
theorem nI_ln {z : Int32} {n : Nat} (e : z = nI n) (hn : n ≤ 1000000) : z.toInt = n := by
  rw [e]
  exact nI_toInt (by omega)
theorem CV.lm (h : CV G E W c κ) (ha : W.1 a = r) (hr : r ≠ 0) (hob : isOb r = false) : W.2 a ≤ 1000000 := h.1.lm ha hr hob
theorem CV.ln (h : CV G E W c κ) (ha : W.1 a = r) (hr : r ≠ 0) (hob : isOb r = false) : sN κ.1 a = W.2 a := h.1.ln ha hr hob
theorem isRw_c (h : isRw r = true) : r = 60 ∨ r = 61 ∨ r = 62 ∨ r = 63 ∨ r = 64 := by
  unfold isRw at h
  simp at h
  omega
theorem rw_ne (h : isRw r = true) : r ≠ 0 := by
  have := isRw_c h
  omega
theorem rw_k (h : isRw r = true) : kcr r = 2 := by rcases isRw_c h with rfl | rfl | rfl | rfl | rfl <;> rfl
theorem rw_ob (h : isRw r = true) : isOb r = true := by rcases isRw_c h with rfl | rfl | rfl | rfl | rfl <;> rfl
theorem rw_t (h : isRw r = true) : tgC r 0 = (20, 0) := by rcases isRw_c h with rfl | rfl | rfl | rfl | rfl <;> rfl
theorem CV.rwI (h : CV G E W c κ) (ha : W.1 a = r) (hr : isRw r = true) {z : Int32} (e : z = sI κ.1 a 1) : 0 ≤ z.toInt ∧ z.toInt ≤ 80000 := by
  rcases isRw_c hr with rfl | rfl | rfl | rfl | rfl
  · have q := h.1.iv ha (by decide) rfl 1 0 8000 rfl e
    omega
  · have q := h.1.iv ha (by decide) rfl 1 0 1200 rfl e
    omega
  · have q := h.1.iv ha (by decide) rfl 1 0 80000 rfl e
    omega
  · have q := h.1.iv ha (by decide) rfl 1 0 16000 rfl e
    omega
  · have q := h.1.iv ha (by decide) rfl 1 0 4004 rfl e
    omega
theorem jc_dup {β : Type} {B : (β → CS → Prop) → Prop} {D : β → CS → Prop} (h : B D) : jc B D := h
/-- of what kind a list's are -/
def elC (r : Nat) : Nat := (tgC (r + 10) 0).1
theorem ls_c (h : 40 ≤ r ∧ r < 45) : r = 40 ∨ r = 41 ∨ r = 42 ∨ r = 43 ∨ r = 44 := by omega
theorem CV.lsz (h : CV G E W c κ) (ha : W.1 a = r) (hr : 40 ≤ r ∧ r < 45) : 0 ≤ (sI κ.1 a 2).toInt ∧ (sI κ.1 a 2).toInt ≤ 100 := by
  rcases ls_c hr with rfl | rfl | rfl | rfl | rfl <;> exact h.1.iv ha (by decide) rfl 2 0 100 rfl rfl
theorem CV.lel (h : CV G E W c κ) (ha : W.1 a = r) (hr : 40 ≤ r ∧ r < 45) : (sP κ.1 a 1 = some G.1 ∧ W.1 G.1 ≠ r + 10) ∨ ∃ b, sP κ.1 a 1 = some b ∧ W.1 b = r + 10 := by
  have q : sP κ.1 a 1 = some G.1 ∨ ∃ b, sP κ.1 a 1 = some b ∧ W.1 b = r + 10 := by
    rcases ls_c hr with rfl | rfl | rfl | rfl | rfl <;> exact h.1.em ha (by decide) rfl 1 rfl (by decide)
  by_cases w : W.1 G.1 = r + 10
  · exact Or.inr (q.elim (fun e => ⟨G.1, e, w⟩) id)
  · exact q.elim (fun e => Or.inl ⟨e, w⟩) Or.inr
theorem ls_k (hr : 40 ≤ r ∧ r < 45) : kcr r = 7 ∧ kcr (r + 10) = 27 ∧ isOb (r + 10) = false ∧ tgC (r + 10) 0 = (elC r, 1) ∧ elC r ≠ 0 := by
  rcases ls_c hr with rfl | rfl | rfl | rfl | rfl <;> exact ⟨rfl, rfl, rfl, rfl, by decide⟩
theorem t_Jx4a65c_size_8abf5 (h : CV G E W c κ) (o : Nat) (ho : W.1 o = r) (hr : 40 ≤ r ∧ r < 45) {post : Int32 → CS → Prop} (kk : ∀ z : Int32, (z.toInt = (sI κ.1 o 2).toInt ∧ 0 ≤ z.toInt ∧ z.toInt ≤ 100) → post z κ) : F_Jx4a65c_size_8abf5 G o post κ := by
  unfold F_Jx4a65c_size_8abf5
  refine ⟨h.mm ho (by omega) (ls_k hr).1, fun z e => kk z ?_⟩
  rw [e]
  have q := h.lsz ho hr
  omega
theorem t_Jx4a65c_get_915e3 (h : CV G E W c κ) (o : Nat) (ho : W.1 o = r) (hr : 40 ≤ r ∧ r < 45) (i : Int32) (hi : 0 ≤ i.toInt ∧ i.toInt < (sI κ.1 o 2).toInt) {post : Option Nat → CS → Prop} (kk : ∀ z : Option Nat, (∃ b, z = some b ∧ W.1 b = elC r) → post z κ) : F_Jx4a65c_get_915e3 G o i post κ := by
  unfold F_Jx4a65c_get_915e3 F_J15_checkIndex_7cf53 F_J3_checkIndex_8e157 F_Jx4a65c_elementData_915e3
  have m := h.mm ho (by omega) (ls_k hr).1
  have lr := h.2.2.2.1 o r ho hr.1 hr.2
  refine ⟨m, fun z1 e1 => jc_dup ⟨fun q => by omega, fun _ => ⟨fun _ => ⟨m, m, fun q eq => ?_⟩, fun q => by rw [e1] at q; omega⟩⟩⟩
  rcases h.lel ho hr with e | ⟨b, e, hb⟩
  · have := lr.1 e.1 e.2
    omega
  · obtain ⟨g1, g2, g3⟩ := lr.2 b e hb
    have mb := h.mm hb (by omega) (ls_k hr).2.1
    have lb := h.ln hb (by omega) (ls_k hr).2.2.1
    refine ⟨b, eq.trans e, ⟨mb.1, by rw [mb.2]; decide, by rw [mb.2]; decide⟩, ⟨hi.1, by rw [lb]; omega⟩, fun z2 e2 => kk z2 ?_⟩
    have nn := g3 i.toInt.toNat (by omega)
    have rv := (h.1.el hb (by omega) (ls_k hr).2.2.1 i.toInt.toNat (by omega)).2
    rw [(ls_k hr).2.2.2.1] at rv
    rw [← e2] at nn rv
    rcases rv with q | q | q | q
    · exact absurd q (ls_k hr).2.2.2.2
    · exact absurd q.2 nn
    · exact absurd (show (1 : Nat) = 2 from q.1) (by decide)
    · exact q
end R99

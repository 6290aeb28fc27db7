/-! the class's world: which cells are what. A role (0: not told of) and a length by cell; both stay. -/
abbrev CW : Type := (Nat → Nat) × (Nat → Nat)
def kcr (r : Nat) : Nat := if r < 14 then r else if r = 30 ∨ r = 31 then 20 else if r = 34 then 21 else if r = 32 ∨ r = 33 then 22 else if 40 ≤ r ∧ r < 45 then 7 else if 50 ≤ r ∧ r < 55 then 27 else if 60 ≤ r ∧ r < 65 then 2 else r
def isRw (r : Nat) : Bool := decide (60 ≤ r) && decide (r < 65)
def isOb (r : Nat) : Bool := decide (r < 14) || (decide (40 ≤ r) && decide (r < 45)) || isRw r
def fxl (r : Nat) : Nat := match r with
  | 24 => 8
  | 25 => 6
  | 26 => 80
  | 30 => 12
  | 31 => 16
  | 32 => 16
  | 33 => 4
  | 34 => 4
  | _ => 0
/-- where a row points: the role there; 0 never null, 1 may be null, 2 may be the shared empty row -/
def tgC (r k : Nat) : Nat × Nat := match r, k with
  | 1, 0 => (60, 0)
  | 1, 1 => (25, 0)
  | 1, 2 => (34, 0)
  | 1, 3 => (6, 0)
  | 1, 4 => (6, 0)
  | 1, 5 => (24, 0)
  | 1, 8 => (40, 0)
  | 1, 9 => (41, 0)
  | 1, 10 => (42, 0)
  | 1, 11 => (43, 0)
  | 1, 12 => (44, 0)
  | 1, 13 => (33, 0)
  | 1, 14 => (62, 0)
  | 1, 15 => (61, 0)
  | 1, 16 => (61, 0)
  | 1, 17 => (61, 0)
  | 3, 2 => (64, 0)
  | 3, 4 => (63, 0)
  | 3, 5 => (32, 0)
  | 4, 4 => (30, 0)
  | 4, 14 => (20, 0)
  | 5, 5 => (30, 0)
  | 5, 13 => (20, 0)
  | 6, 0 => (26, 0)
  | 8, 0 => (3, 0)
  | 8, 13 => (11, 1)
  | 8, 14 => (12, 1)
  | 8, 15 => (10, 1)
  | 8, 17 => (13, 1)
  | 8, 18 => (5, 1)
  | 8, 20 => (9, 1)
  | 9, 0 => (10, 0)
  | 10, 1 => (12, 0)
  | 10, 2 => (5, 0)
  | 10, 11 => (21, 1)
  | 10, 13 => (30, 0)
  | 11, 1 => (3, 0)
  | 11, 2 => (31, 0)
  | 12, 1 => (11, 0)
  | 12, 2 => (5, 0)
  | 13, 8 => (21, 0)
  | 13, 10 => (5, 1)
  | 13, 11 => (5, 1)
  | 24, 0 => (4, 0)
  | 25, 0 => (3, 0)
  | 26, 0 => (5, 0)
  | 40, 1 => (50, 2)
  | 41, 1 => (51, 2)
  | 42, 1 => (52, 2)
  | 43, 1 => (53, 2)
  | 44, 1 => (54, 2)
  | 50, 0 => (11, 1)
  | 51, 0 => (12, 1)
  | 52, 0 => (10, 1)
  | 53, 0 => (9, 1)
  | 54, 0 => (8, 1)
  | 60, 0 => (20, 0)
  | 61, 0 => (20, 0)
  | 62, 0 => (20, 0)
  | 63, 0 => (20, 0)
  | 64, 0 => (20, 0)
  | _, _ => (0, 0)
def ivC (r k : Nat) : Int × Int := match r, k with
  | 3, 0 => (0, 1)
  | 3, 1 => (0, 1)
  | 3, 6 => (0, 16)
  | 3, 12 => (0, 1)
  | 4, 3 => (0, 1)
  | 4, 5 => (0, 12)
  | 4, 12 => (0, 4096)
  | 4, 13 => (0, 1024)
  | 5, 1 => (0, 1)
  | 5, 2 => (0, 1)
  | 5, 3 => (0, 1)
  | 5, 6 => (0, 12)
  | 5, 12 => (0, 4096)
  | 8, 12 => (0, 1)
  | 8, 19 => (0, 1)
  | 9, 3 => (0, 1)
  | 10, 5 => (0, 1)
  | 10, 6 => (0, 1)
  | 10, 8 => (0, 1)
  | 10, 12 => (0, 2)
  | 11, 3 => ((-2147483648), 16)
  | 11, 4 => (0, 1)
  | 12, 3 => (0, 1)
  | 13, 5 => (0, 1)
  | 13, 6 => (0, 1)
  | 13, 7 => (0, 1)
  | 20, 0 => ((-128), 127)
  | 30, 0 => ((-128), 127)
  | 31, 0 => ((-128), 127)
  | 40, 2 => (0, 100)
  | 41, 2 => (0, 100)
  | 42, 2 => (0, 100)
  | 43, 2 => (0, 100)
  | 44, 2 => (0, 100)
  | 60, 1 => (0, 8000)
  | 61, 1 => (0, 1200)
  | 62, 1 => (0, 80000)
  | 63, 1 => (0, 16000)
  | 64, 1 => (0, 4004)
  | _, _ => (-2147483648, 2147483647)
def ixC (r k : Nat) : Nat := if isOb r then k else 0
def RV (G : GE) (W : CW) (q : Option Nat) (tf : Nat × Nat) : Prop := tf.1 = 0 ∨ (tf.2 = 1 ∧ q = none) ∨ (tf.2 = 2 ∧ q = some G.1) ∨ ∃ b, q = some b ∧ W.1 b = tf.1
def TV (G : GE) (W : CW) (σ : HS) : Prop := ∀ a, W.1 a ≠ 0 → (a ∈ sL σ ∧ sK σ a = kcr (W.1 a)) ∧ (isOb (W.1 a) = false → sN σ a = W.2 a ∧ (fxl (W.1 a) ≠ 0 → W.2 a = fxl (W.1 a)) ∧ W.2 a ≤ 1000000) ∧ ∀ k, (isOb (W.1 a) = false → k < W.2 a) → ((ivC (W.1 a) (ixC (W.1 a) k)).1 ≤ (sI σ a k).toInt ∧ (sI σ a k).toInt ≤ (ivC (W.1 a) (ixC (W.1 a) k)).2) ∧ RV G W (sP σ a k) (tgC (W.1 a) (ixC (W.1 a) k))
def WLe (W W' : CW) : Prop := ∀ a, W.1 a ≠ 0 → W'.1 a = W.1 a ∧ W'.2 a = W.2 a
theorem WLe.rf {W : CW} : WLe W W := fun _ _ => ⟨rfl, rfl⟩
theorem WLe.tr {W W' W2 : CW} (h : WLe W W') (g : WLe W' W2) : WLe W W2 := fun a ha => by
  have h1 := h a ha
  have h2 := g a (by rw [h1.1]; exact ha)
  exact ⟨h2.1.trans h1.1, h2.2.trans h1.2⟩
theorem WLe.at {W W' : CW} (h : WLe W W') {a r : Nat} (ha : W.1 a = r) (hr : r ≠ 0) : W'.1 a = r := by
  rw [(h a (by rw [ha]; exact hr)).1]
  exact ha
theorem RV.up {G : GE} {W W' : CW} (h : WLe W W') {q : Option Nat} {tf : Nat × Nat} (g : RV G W q tf) : RV G W' q tf := by
  rcases g with e | e | e | ⟨b, e1, e2⟩
  · exact Or.inl e
  · exact Or.inr (Or.inl e)
  · exact Or.inr (Or.inr (Or.inl e))
  · by_cases c : tf.1 = 0
    · exact Or.inl c
    · exact Or.inr (Or.inr (Or.inr ⟨b, e1, h.at e2 c⟩))
def upW (W : CW) (q r n : Nat) : CW := (fun a => if a = q then r else W.1 a, fun a => if a = q then n else W.2 a)
section R98
variable {G : GE} {W W' : CW} {σ σ' : HS} {a b k r t : Nat}
theorem upW_le {q n : Nat} (h : W.1 q = 0) : WLe W (upW W q r n) := fun a ha => by
  have : a ≠ q := fun e => ha (by rw [e]; exact h)
  exact ⟨if_neg this, if_neg this⟩
theorem upW_at {q n : Nat} : (upW W q r n).1 q = r := if_pos rfl
theorem upW_ln {q n : Nat} : (upW W q r n).2 q = n := if_pos rfl
theorem TV.mm (h : TV G W σ) (ha : W.1 a = r) (hr : r ≠ 0) {c : Nat} (hk : kcr r = c) : a ∈ sL σ ∧ sK σ a = c := by
  have q := (h a (by rw [ha]; exact hr)).1
  rw [ha, hk] at q
  exact q
theorem TV.rv (h : TV G W σ) (ha : W.1 a = r) (hr : r ≠ 0) (hob : isOb r = true) (k : Nat) : RV G W (sP σ a k) (tgC r k) := by
  have q := ((h a (by rw [ha]; exact hr)).2.2 k (by rw [ha, hob]; exact fun e => by cases e)).2
  rw [ha] at q
  unfold ixC at q
  rw [hob] at q
  exact q
theorem TV.nn (h : TV G W σ) (ha : W.1 a = r) (hr : r ≠ 0) (hob : isOb r = true) (k : Nat) (ht : tgC r k = (t, 0)) (h0 : t ≠ 0) : ∃ b, sP σ a k = some b ∧ W.1 b = t := by
  have q := h.rv ha hr hob k
  rw [ht] at q
  rcases q with e | e | e | e
  · exact absurd e h0
  · exact absurd (show (0 : Nat) = 1 from e.1) (by decide)
  · exact absurd (show (0 : Nat) = 2 from e.1) (by decide)
  · exact e
theorem TV.nl (h : TV G W σ) (ha : W.1 a = r) (hr : r ≠ 0) (hob : isOb r = true) (k : Nat) (ht : tgC r k = (t, 1)) (h0 : t ≠ 0) : sP σ a k = none ∨ ∃ b, sP σ a k = some b ∧ W.1 b = t := by
  have q := h.rv ha hr hob k
  rw [ht] at q
  rcases q with e | e | e | e
  · exact absurd e h0
  · exact Or.inl e.2
  · exact absurd (show (1 : Nat) = 2 from e.1) (by decide)
  · exact Or.inr e
theorem TV.em (h : TV G W σ) (ha : W.1 a = r) (hr : r ≠ 0) (hob : isOb r = true) (k : Nat) (ht : tgC r k = (t, 2)) (h0 : t ≠ 0) : sP σ a k = some G.1 ∨ ∃ b, sP σ a k = some b ∧ W.1 b = t := by
  have q := h.rv ha hr hob k
  rw [ht] at q
  rcases q with e | e | e | e
  · exact absurd e h0
  · exact absurd (show (2 : Nat) = 1 from e.1) (by decide)
  · exact Or.inl e.2
  · exact Or.inr e
theorem TV.iv (h : TV G W σ) (ha : W.1 a = r) (hr : r ≠ 0) (hob : isOb r = true) (k : Nat) (lo hi : Int) (hi' : ivC r k = (lo, hi)) {z : Int32} (e : z = sI σ a k) : lo ≤ z.toInt ∧ z.toInt ≤ hi := by
  have q := ((h a (by rw [ha]; exact hr)).2.2 k (by rw [ha, hob]; exact fun e => by cases e)).1
  rw [ha] at q
  unfold ixC at q
  rw [hob] at q
  have q : (ivC r k).1 ≤ (sI σ a k).toInt ∧ (sI σ a k).toInt ≤ (ivC r k).2 := q
  rw [hi'] at q
  rw [e]
  exact q
theorem TV.ln (h : TV G W σ) (ha : W.1 a = r) (hr : r ≠ 0) (hob : isOb r = false) : sN σ a = W.2 a := ((h a (by rw [ha]; exact hr)).2.1 (by rw [ha]; exact hob)).1
theorem TV.lm (h : TV G W σ) (ha : W.1 a = r) (hr : r ≠ 0) (hob : isOb r = false) : W.2 a ≤ 1000000 := ((h a (by rw [ha]; exact hr)).2.1 (by rw [ha]; exact hob)).2.2
theorem TV.fx (h : TV G W σ) (ha : W.1 a = r) (hr : r ≠ 0) (hob : isOb r = false) (n : Nat) (hn : fxl r = n) (h0 : n ≠ 0) : W.2 a = n := by
  have q := ((h a (by rw [ha]; exact hr)).2.1 (by rw [ha]; exact hob)).2.1 (by rw [ha, hn]; exact h0)
  rw [ha, hn] at q
  exact q
theorem TV.el (h : TV G W σ) (ha : W.1 a = r) (hr : r ≠ 0) (hob : isOb r = false) (k : Nat) (hk : k < W.2 a) : ((ivC r 0).1 ≤ (sI σ a k).toInt ∧ (sI σ a k).toInt ≤ (ivC r 0).2) ∧ RV G W (sP σ a k) (tgC r 0) := by
  have q := (h a (by rw [ha]; exact hr)).2.2 k (fun _ => hk)
  rw [ha] at q
  unfold ixC at q
  rw [hob] at q
  exact q
theorem TV.uI {v : Int32} (h : TV G W σ) (hv : W.1 a ≠ 0 → (ivC (W.1 a) (ixC (W.1 a) k)).1 ≤ v.toInt ∧ v.toInt ≤ (ivC (W.1 a) (ixC (W.1 a) k)).2) : TV G W (h_uI σ a k v) := fun x hx => by
  obtain ⟨h1, h2, h3⟩ := h x hx
  refine ⟨h1, h2, fun i hi => ⟨?_, (h3 i hi).2⟩⟩
  show _ ≤ (u2 (sI σ) a k v x i).toInt ∧ (u2 (sI σ) a k v x i).toInt ≤ _
  by_cases c : x = a
  · subst c
    by_cases d : i = k
    · subst d
      rw [u2_same]
      exact hv hx
    · rw [u2_pl d]
      exact (h3 i hi).1
  · rw [u2_addr c]
    exact (h3 i hi).1
theorem TV.uJ {v : Int64} (h : TV G W σ) : TV G W (h_uJ σ a k v) := fun x hx => h x hx
theorem TV.uP {v : Option Nat} (h : TV G W σ) (hv : W.1 a ≠ 0 → RV G W v (tgC (W.1 a) (ixC (W.1 a) k))) : TV G W (h_uP σ a k v) := fun x hx => by
  obtain ⟨h1, h2, h3⟩ := h x hx
  refine ⟨h1, h2, fun i hi => ⟨(h3 i hi).1, ?_⟩⟩
  show RV G W (u2 (sP σ) a k v x i) _
  by_cases c : x = a
  · subst c
    by_cases d : i = k
    · subst d
      rw [u2_same]
      exact hv hx
    · rw [u2_pl d]
      exact (h3 i hi).2
  · rw [u2_addr c]
    exact (h3 i hi).2
theorem TV.uN {q c n : Nat} (h : TV G W σ) (hq : q ∉ sL σ) : TV G W (h_uN σ q c n) := fun x hx => by
  obtain ⟨h1, h2, h3⟩ := h x hx
  have hne : x ≠ q := fun e => hq (e ▸ h1.1)
  have eK : sK (h_uN σ q c n) x = sK σ x := va_up_ne _ _ hne
  have eN : sN (h_uN σ q c n) x = sN σ x := va_up_ne _ _ hne
  have eI : sI (h_uN σ q c n) x = sI σ x := va_up_ne _ _ hne
  have eP : sP (h_uN σ q c n) x = sP σ x := va_up_ne _ _ hne
  refine ⟨⟨List.mem_append_left _ h1.1, by rw [eK]; exact h1.2⟩, fun e => by rw [eN]; exact h2 e, fun i hi => ?_⟩
  rw [eI, eP]
  exact h3 i hi
theorem TV.fresh {q : Nat} (h : TV G W σ) (hq : q ∉ sL σ) : W.1 q = 0 := by
  by_cases c : W.1 q = 0
  · exact c
  · exact absurd (h q c).1.1 hq
/-- a cell is told of from now on -/
theorem TV.add {q n : Nat} (h : TV G W σ) (hq : W.1 q = 0) (h1 : q ∈ sL σ ∧ sK σ q = kcr r) (h2 : isOb r = false → sN σ q = n ∧ (fxl r ≠ 0 → n = fxl r) ∧ n ≤ 1000000) (h3 : ∀ k, (isOb r = false → k < n) → ((ivC r (ixC r k)).1 ≤ (sI σ q k).toInt ∧ (sI σ q k).toInt ≤ (ivC r (ixC r k)).2) ∧ RV G W (sP σ q k) (tgC r (ixC r k))) : TV G (upW W q r n) σ := fun x hx => by
  by_cases c : x = q
  · subst c
    rw [upW_at, upW_ln]
    exact ⟨h1, h2, fun k hk => ⟨(h3 k hk).1, (h3 k hk).2.up (upW_le hq)⟩⟩
  · have e1 : (upW W q r n).1 x = W.1 x := if_neg c
    have e2 : (upW W q r n).2 x = W.2 x := if_neg c
    rw [e1] at hx ⊢
    rw [e2]
    obtain ⟨g1, g2, g3⟩ := h x hx
    exact ⟨g1, g2, fun k hk => ⟨(g3 k hk).1, (g3 k hk).2.up (upW_le hq)⟩⟩
/-- a new array -/
theorem TV.newA {q n c : Nat} (h : TV G W σ) (hq : q ∉ sL σ) (hob : isOb r = false) (hc : kcr r = c) (hf : fxl r = 0 ∨ n = fxl r) (hn : n ≤ 1000000) (hi : (ivC r 0).1 ≤ 0 ∧ 0 ≤ (ivC r 0).2) (ht : (tgC r 0).1 = 0 ∨ (tgC r 0).2 = 1) : TV G (upW W q r n) (h_uN σ q c n) := by
  have eK : sK (h_uN σ q c n) q = c := va_up_self _ _ _
  have eN : sN (h_uN σ q c n) q = n := va_up_self _ _ _
  have eI : sI (h_uN σ q c n) q = fun _ => 0 := va_up_self _ _ _
  have eP : sP (h_uN σ q c n) q = fun _ => none := va_up_self _ _ _
  refine (h.uN hq).add (h.fresh hq) ⟨List.mem_append_right _ (List.mem_singleton.mpr rfl), by rw [eK, hc]⟩ (fun _ => ⟨eN, fun e => hf.resolve_left e, hn⟩) (fun k hk => ?_)
  rw [eI, eP]
  unfold ixC
  rw [hob]
  exact ⟨hi, ht.elim Or.inl (fun e => Or.inr (Or.inl ⟨e, rfl⟩))⟩
end R98

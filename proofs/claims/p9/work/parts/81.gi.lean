/-! what holds between calls: the log, the nodes, opens, trees, those that wait -/
/-- a good forest: parents are folders that are there, no ring; the shares' roots are there, at the top -/
def GV (R : Nat → Int) (V : Nat → Int × Int × Int) : Prop :=
  (∃ rk : Nat → Nat, ∀ x, x < 80 → (V x).1 = 1 → (V x).2.1 < 0 ∨ ∃ p : Nat, p < 80 ∧ (V x).2.1 = p ∧ (V p).1 = 1 ∧ (V p).2.2 = 1 ∧ rk p < rk x) ∧
  ∀ s, s < 4 → 0 ≤ R s → ∃ p : Nat, p < 80 ∧ R s = p ∧ (V p).1 = 1 ∧ (V p).2.1 < 0
/-- the way up from x does not meet n -/
def NbK (V : Nat → Int × Int × Int) (n : Nat) : Nat → Int → Prop
  | 0, y => y < 0
  | k + 1, y => y < 0 ∨ ∃ x : Nat, y = x ∧ x ≠ n ∧ NbK V n k (V x).2.1
def Nb (V : Nat → Int × Int × Int) (n : Nat) (y : Int) : Prop := ∃ k, NbK V n k y
theorem Nb.top {V : Nat → Int × Int × Int} {n : Nat} {x : Int} (h : x < 0) : Nb V n x := ⟨0, h⟩
theorem Nb.st {V : Nat → Int × Int × Int} {n x : Nat} (h : x ≠ n) (h2 : Nb V n (V x).2.1) : Nb V n x := by
  obtain ⟨k, g⟩ := h2
  exact ⟨k + 1, Or.inr ⟨x, rfl, h, g⟩⟩
section R81
variable {R R' : Nat → Int} {V V' : Nat → Int × Int × Int} {n p o : Nat} {K N U D : Int}
theorem Nb.inv {y : Int} (h : Nb V n y) : y < 0 ∨ ∃ x : Nat, y = x ∧ x ≠ n ∧ Nb V n (V x).2.1 := by
  obtain ⟨k, h⟩ := h
  cases k with
  | zero => exact Or.inl h
  | succ k =>
    rcases h with q | ⟨x, a, b, c⟩
    · exact Or.inl q
    · exact Or.inr ⟨x, a, b, k, c⟩
theorem Nb.ne (h : Nb V n (p : Int)) : p ≠ n := by
  rcases h.inv with q | ⟨x, e, q, -⟩
  · omega
  · omega
theorem Nb.up (h : Nb V n (p : Int)) : Nb V n (V p).2.1 := by
  rcases h.inv with q | ⟨x, e, q, g⟩
  · omega
  · have : p = x := by omega
    subst this
    exact g
theorem ap_ne (h : (o : Int) ≠ N) : ap K N U D V o = V o := by
  unfold ap
  rw [if_neg h]
theorem ap_0 (h : (o : Int) = N) : ap 0 N U D V o = (1, U, D) := by
  unfold ap
  rw [if_pos h, if_neg (by decide), if_pos rfl]
theorem ap_5 (h : (o : Int) = N) : ap 5 N U D V o = (0, (V o).2) := by
  unfold ap
  rw [if_pos h, if_pos rfl]
theorem ap_4 (h : (o : Int) = N) : ap 4 N U D V o = ((V o).1, U, (V o).2.2) := by
  unfold ap
  rw [if_pos h, if_neg (by decide), if_neg (by decide), if_pos rfl]
theorem ap_k (h5 : K ≠ 5) (h0 : K ≠ 0) (h4 : K ≠ 4) : ap K N U D V = V := by
  funext o
  unfold ap
  by_cases c : (o : Int) = N
  · rw [if_pos c, if_neg h5, if_neg h0, if_neg h4]
  · rw [if_neg c]
theorem GV.ev (h : GV R V) (e : ∀ o, o < 80 → V' o = V o) : GV R V' := by
  obtain ⟨⟨rk, a⟩, b⟩ := h
  refine ⟨⟨rk, fun x hx h1 => ?_⟩, fun s hs h0 => ?_⟩
  · rw [e x hx] at h1 ⊢
    rcases a x hx h1 with q | ⟨p, hp, h2, h3, h4, h5⟩
    · exact Or.inl q
    · exact Or.inr ⟨p, hp, h2, by rw [e p hp]; exact h3, by rw [e p hp]; exact h4, h5⟩
  · obtain ⟨p, hp, h2, h3, h4⟩ := b s hs h0
    exact ⟨p, hp, h2, by rw [e p hp]; exact h3, by rw [e p hp]; exact h4⟩
theorem GV.rr (h : GV R V) (e : ∀ s, s < 4 → R' s = R s) : GV R' V := ⟨h.1, fun s hs q => by rw [e s hs] at q ⊢; exact h.2 s hs q⟩
theorem GV.made (h : GV R V) (hN : N = (n : Int)) (hd : (V n).1 ≠ 1) (hU : U = (p : Int)) (hp : p < 80) (hp1 : (V p).1 = 1) (hp2 : (V p).2.2 = 1) : GV R (ap 0 N U D V) := by
  obtain ⟨⟨rk, a⟩, b⟩ := h
  have hs : ∀ q : Nat, (V q).1 = 1 → ap 0 N U D V q = V q := fun q hq => ap_ne (fun e => hd (by have : q = n := (by omega); rw [← this]; exact hq))
  refine ⟨⟨fun x => if x = n then rk p + 1 else rk x, fun x hx h1 => ?_⟩, fun s hs' h0 => ?_⟩
  · have pn : p ≠ n := fun e => hd (by rw [← e]; exact hp1)
    by_cases c : x = n
    · rw [ap_0 (by omega)]
      refine Or.inr ⟨p, hp, hU, by rw [hs p hp1]; exact hp1, by rw [hs p hp1]; exact hp2, ?_⟩
      dsimp only
      rw [if_neg pn, if_pos c]
      exact Nat.lt_succ_self _
    · rw [ap_ne (by omega)] at h1 ⊢
      rcases a x hx h1 with q | ⟨q, hq, h2, h3, h4, h5⟩
      · exact Or.inl q
      · have qn : q ≠ n := fun e => hd (by rw [← e]; exact h3)
        refine Or.inr ⟨q, hq, h2, by rw [hs q h3]; exact h3, by rw [hs q h3]; exact h4, ?_⟩
        dsimp only
        rw [if_neg qn, if_neg c]
        exact h5
  · obtain ⟨q, hq, h2, h3, h4⟩ := b s hs' h0
    exact ⟨q, hq, h2, by rw [hs q h3]; exact h3, by rw [hs q h3]; exact h4⟩
theorem GV.gone (h : GV R V) (hN : N = (n : Int)) (hc : ∀ x, x < 80 → (V x).1 = 1 → (V x).2.1 ≠ n) (hr : 0 ≤ (V n).2.1) : GV R (ap 5 N U D V) := by
  obtain ⟨⟨rk, a⟩, b⟩ := h
  refine ⟨⟨rk, fun x hx h1 => ?_⟩, fun s hs h0 => ?_⟩
  · by_cases c : x = n
    · rw [ap_5 (by omega)] at h1
      have h1 : (0 : Int) = 1 := h1
      omega
    · rw [ap_ne (by omega)] at h1 ⊢
      rcases a x hx h1 with q | ⟨q, hq, h2, h3, h4, h5⟩
      · exact Or.inl q
      · have := hc x hx h1
        have e : ap 5 N U D V q = V q := ap_ne (by omega)
        exact Or.inr ⟨q, hq, h2, by rw [e]; exact h3, by rw [e]; exact h4, h5⟩
  · obtain ⟨q, hq, h2, h3, h4⟩ := b s hs h0
    have qn : q ≠ n := fun e => by rw [e] at h4; omega
    have e : ap 5 N U D V q = V q := ap_ne (by omega)
    exact ⟨q, hq, h2, by rw [e]; exact h3, by rw [e]; exact h4⟩
theorem GV.named (h : GV R V) (hN : N = (n : Int)) (hU : U = (p : Int)) (hp : p < 80) (hp1 : (V p).1 = 1) (hp2 : (V p).2.2 = 1) (hb : Nb V n p) (hr : 0 ≤ (V n).2.1) : GV R (ap 4 N U D V) := by
  classical
  obtain ⟨⟨rk, a⟩, b⟩ := h
  have pn := hb.ne
  have e1 : ∀ q : Nat, (ap 4 N U D V q).1 = (V q).1 := fun q => by
    by_cases c : q = n
    · rw [ap_4 (by omega)]
    · rw [ap_ne (by omega)]
  have e3 : ∀ q : Nat, (ap 4 N U D V q).2.2 = (V q).2.2 := fun q => by
    by_cases c : q = n
    · rw [ap_4 (by omega)]
    · rw [ap_ne (by omega)]
  refine ⟨⟨fun x => if Nb V n x then rk x else rk x + rk p + 1, fun x hx h1 => ?_⟩, fun s hs h0 => ?_⟩
  · by_cases c : x = n
    · refine Or.inr ⟨p, hp, by rw [ap_4 (by omega)]; exact hU, by rw [e1]; exact hp1, by rw [e3]; exact hp2, ?_⟩
      dsimp only
      rw [if_pos hb, if_neg (fun q => q.ne c)]
      omega
    · rw [e1] at h1
      rcases a x hx h1 with q | ⟨q, hq, h2, h3, h4, h5⟩
      · exact Or.inl (by rw [ap_ne (by omega)]; exact q)
      · refine Or.inr ⟨q, hq, by rw [ap_ne (by omega)]; exact h2, by rw [e1]; exact h3, by rw [e3]; exact h4, ?_⟩
        dsimp only
        by_cases d : Nb V n x
        · have d2 := d.up
          rw [h2] at d2
          rw [if_pos d, if_pos d2]
          exact h5
        · have d2 : ¬ Nb V n q := fun g => d (Nb.st c (by rw [h2]; exact g))
          rw [if_neg d, if_neg d2]
          omega
  · obtain ⟨q, hq, h2, h3, h4⟩ := b s hs h0
    have qn : q ≠ n := fun e => by rw [e] at h4; omega
    have e : ap 4 N U D V q = V q := ap_ne (by omega)
    exact ⟨q, hq, h2, by rw [e]; exact h3, by rw [e]; exact h4⟩
end R81
/-- the shares' roots -/
def rts (L : Nat → Nat) (σ : HS) (s : Nat) : Int := (sI σ (L 11) s).toInt
/-- the log and the nodes -/
def LG (h0 : Nat) (L : Nat → Nat) (σ : HS) : Prop := (sI σ h0 16).toInt ≤ 7 ∧ (∀ o : Nat, (o : Int) < (sI σ h0 16).toInt → (sI σ (L 22) o).toInt + (sI σ (L 23) o).toInt ≤ 4096) ∧ (∀ k : Nat, (k : Int) ≤ (sI σ h0 16).toInt → GV (rts L σ) (apl L σ k (vw L σ 80))) ∧ ∀ o, o < 80 → vw L σ 0 o = apl L σ (sI σ h0 16).toInt.toNat (vw L σ 80) o
/-- what is open is there; what goes when it is closed is no root -/
def OG (L : Nat → Nat) (σ : HS) : Prop := (∀ o, o < 40 → (sJ σ (L 41) o).toInt ≠ 0 → (vw L σ 0 (sI σ (L 43) o).toInt.toNat).1 = 1 ∧ ((sI σ (L 50) o).toInt = 1 → 0 ≤ (vw L σ 0 (sI σ (L 43) o).toInt.toNat).2.1)) ∧ ∀ n, n < 80 → (sI σ (L 10) n).toInt = 1 → 0 ≤ (vw L σ 0 n).2.1
/-- trees have a share -/
def TG (L : Nat → Nat) (σ : HS) : Prop := ∀ t, t < 16 → (sJ σ (L 38) t).toInt ≠ 0 → 0 ≤ rts L σ (sI σ (L 40) t).toInt.toNat
noncomputable def WN (L : Nat → Nat) (σ : HS) (w a : Nat) : Nat := NumN (sI σ (L 75)) (4000 * w + a) 2
/-- one that waits: its tree has a share, its bytes hold its name -/
def WG1 (L : Nat → Nat) (σ : HS) (w : Nat) : Prop := 0 ≤ rts L σ (sI σ (L 40) (sI σ (L 68) w).toInt.toNat).toInt.toNat ∧ ((sI σ (L 62) w).toInt = 5 → 120 ≤ (sI σ (L 74) w).toInt ∧ (WN L σ w 110 = 0 ∨ (WN L σ w 108 : Int) + WN L σ w 110 ≤ (sI σ (L 74) w).toInt))
def WG (h0 : Nat) (L : Nat → Nat) (σ : HS) : Prop := ∀ w : Nat, (w : Int) < (sI σ h0 69).toInt → WG1 L σ w
/-- serials of opens are no lower than 0, and few -/
def SG (h0 : Nat) (L : Nat → Nat) (B : Int) (σ : HS) : Prop := (∀ o, o < 40 → 0 ≤ (sJ σ (L 41) o).toInt) ∧ 0 ≤ (sJ σ h0 61).toInt ∧ (sJ σ h0 61).toInt + (sI σ h0 69).toInt ≤ B
def GI (h0 : Nat) (L : Nat → Nat) (B : Int) (σ : HS) : Prop := LG h0 L σ ∧ OG L σ ∧ TG L σ ∧ WG h0 L σ ∧ SG h0 L B σ
def nof (a b : List Nat) : Bool := a.all (fun k => !b.contains k)
theorem nof_n {a b : List Nat} (h : nof a b = true) {k : Nat} (hk : k ∈ b) : k ∉ a := fun q => by
  have h1 := List.all_eq_true.mp h k q
  rw [List.contains_iff_mem.mpr hk] at h1
  exact absurd h1 (by decide)
theorem nof_sub {a b c : List Nat} (h : nof a b = true) (hs : ∀ x ∈ c, x ∈ b) : nof a c = true := List.all_eq_true.mpr (fun x hx => by
  have : ¬ x ∈ c := fun q => nof_n h (hs x q) hx
  simpa using this)
def GJL : List Nat := [1, 2, 3, 10, 11, 14, 15, 16, 17, 22, 23, 38, 40, 41, 43, 50, 62, 68, 74, 75]
def GJM : List Nat := [1, 2, 3, 10, 11, 14, 15, 16, 17, 22, 23, 38, 40, 41, 43, 50]
def GJN : List Nat := [1, 2, 3, 10, 11, 38, 40, 41, 43, 50, 62, 68, 74, 75]
section S81
variable {h0 : Nat} {L : Nat → Nat} {σ σ' σ2 : HS} {fs js : List Nat} {B : Int}
theorem vw_ff (f : Fr h0 L fs js σ σ') (h : nof js [1, 2, 3] = true) (b : Nat) : vw L σ' b = vw L σ b := funext fun o => vw_fr f (nof_n h (by decide)) (nof_n h (by decide)) (nof_n h (by decide)) b o
theorem apl_ff (f : Fr h0 L fs js σ σ') (h : nof js [14, 15, 16, 17] = true) (k : Nat) (V : Nat → Int × Int × Int) : apl L σ' k V = apl L σ k V := apl_fr k (fun j h1 h2 i _ => (f.2.1 j (by omega) (nof_n h (by have : j = 14 ∨ j = 15 ∨ j = 16 ∨ j = 17 := (by omega); rcases this with rfl | rfl | rfl | rfl <;> decide)) i).1)
theorem rts_ff (f : Fr h0 L fs js σ σ') (h : 11 ∉ js) : rts L σ' = rts L σ := funext fun s => congrArg Int32.toInt (f.2.1 11 (by decide) h s).1
theorem sI_ff (f : Fr h0 L fs js σ σ') {j : Nat} (hj : j < 80) (h : j ∉ js) : sI σ' (L j) = sI σ (L j) := funext fun i => (f.2.1 j hj h i).1
theorem sJ_ff (f : Fr h0 L fs js σ σ') {j : Nat} (hj : j < 80) (h : j ∉ js) : sJ σ' (L j) = sJ σ (L j) := funext fun i => (f.2.1 j hj h i).2
theorem LG.fr (hG : LG h0 L σ) (f : Fr h0 L fs js σ σ') (h1 : 16 ∉ fs) (h2 : nof js [1, 2, 3, 11, 14, 15, 16, 17, 22, 23] = true) : LG h0 L σ' := by
  have n : ∀ k ∈ [1, 2, 3, 11, 14, 15, 16, 17, 22, 23], k ∉ js := fun k hk => nof_n h2 hk
  have a1 : nof js [1, 2, 3] = true := nof_sub h2 (by decide)
  have a2 : nof js [14, 15, 16, 17] = true := nof_sub h2 (by decide)
  unfold LG
  rw [(f.1 16 h1).1, vw_ff f a1, vw_ff f a1, rts_ff f (n 11 (by decide)), sI_ff f (by decide) (n 22 (by decide)), sI_ff f (by decide) (n 23 (by decide))]
  refine ⟨hG.1, hG.2.1, fun k hk => ?_, fun o ho => ?_⟩
  · rw [apl_ff f a2]
    exact hG.2.2.1 k hk
  · rw [apl_ff f a2]
    exact hG.2.2.2 o ho
theorem OG.fr (hG : OG L σ) (f : Fr h0 L fs js σ σ') (h2 : nof js [1, 2, 3, 10, 41, 43, 50] = true) : OG L σ' := by
  have n : ∀ k ∈ [1, 2, 3, 10, 41, 43, 50], k ∉ js := fun k hk => nof_n h2 hk
  have a1 : vw L σ' 0 = vw L σ 0 := funext fun o => vw_fr f (n 1 (by decide)) (n 2 (by decide)) (n 3 (by decide)) 0 o
  unfold OG
  rw [a1, sJ_ff f (by decide) (n 41 (by decide)), sI_ff f (by decide) (n 43 (by decide)), sI_ff f (by decide) (n 50 (by decide)), sI_ff f (by decide) (n 10 (by decide))]
  exact hG
theorem TG.fr (hG : TG L σ) (f : Fr h0 L fs js σ σ') (h2 : nof js [11, 38, 40] = true) : TG L σ' := by
  have n : ∀ k ∈ [11, 38, 40], k ∉ js := fun k hk => nof_n h2 hk
  unfold TG
  rw [rts_ff f (n 11 (by decide)), sJ_ff f (by decide) (n 38 (by decide)), sI_ff f (by decide) (n 40 (by decide))]
  exact hG
theorem WG1.fr {w : Nat} (hG : WG1 L σ w) (f : Fr h0 L fs js σ σ') (h2 : nof js [11, 40, 62, 68, 74, 75] = true) : WG1 L σ' w := by
  have n : ∀ k ∈ [11, 40, 62, 68, 74, 75], k ∉ js := fun k hk => nof_n h2 hk
  unfold WG1 WN
  rw [rts_ff f (n 11 (by decide)), sI_ff f (by decide) (n 40 (by decide)), sI_ff f (by decide) (n 62 (by decide)), sI_ff f (by decide) (n 68 (by decide)), sI_ff f (by decide) (n 74 (by decide)), sI_ff f (by decide) (n 75 (by decide))]
  exact hG
theorem WG.fr (hG : WG h0 L σ) (f : Fr h0 L fs js σ σ') (h1 : 69 ∉ fs) (h2 : nof js [11, 40, 62, 68, 74, 75] = true) : WG h0 L σ' := fun w hw => by
  rw [(f.1 69 h1).1] at hw
  exact (hG w hw).fr f h2
theorem SG.fr (hG : SG h0 L B σ) (f : Fr h0 L fs js σ σ') (h1 : 61 ∉ fs) (h2 : 69 ∉ fs) (h3 : 41 ∉ js) : SG h0 L B σ' := by
  unfold SG
  rw [(f.1 69 h2).1, (f.1 61 h1).2.1, sJ_ff f (by decide) h3]
  exact hG
theorem GI.fr (hG : GI h0 L B σ) (f : Fr h0 L fs js σ σ') (h1 : nof fs [16, 61, 69] = true) (h2 : nof js GJL = true) : GI h0 L B σ' := by
  have sub : ∀ l : List Nat, (∀ x ∈ l, x ∈ GJL) → nof js l = true := fun l hl => List.all_eq_true.mpr (fun x hx => by
    have : ¬ x ∈ l := fun q => nof_n h2 (hl x q) hx
    simpa using this)
  exact ⟨hG.1.fr f (nof_n h1 (by decide)) (sub _ (by decide)), hG.2.1.fr f (sub _ (by decide)), hG.2.2.1.fr f (sub _ (by decide)), hG.2.2.2.1.fr f (nof_n h1 (by decide)) (sub _ (by decide)), hG.2.2.2.2.fr f (nof_n h1 (by decide)) (nof_n h1 (by decide)) (nof_n h2 (by decide))⟩
theorem GI.mono {B' : Int} (hG : GI h0 L B σ) (h : B ≤ B') : GI h0 L B' σ := ⟨hG.1, hG.2.1, hG.2.2.1, hG.2.2.2.1, hG.2.2.2.2.1, hG.2.2.2.2.2.1, Int.le_trans hG.2.2.2.2.2.2 h⟩
theorem NumN_ev {f g : Nat → Int32} : ∀ (c s t : Nat), (∀ i, i < c → f (s + i) = g (t + i)) → NumN f s c = NumN g t c
  | 0, _, _, _ => rfl
  | c + 1, s, t, h => by
    show byN (f s) + 256 * NumN f (s + 1) c = byN (g t) + 256 * NumN g (t + 1) c
    rw [show f s = g t from h 0 (by omega), NumN_ev c (s + 1) (t + 1) (fun i hi => by rw [show s + 1 + i = s + (i + 1) by omega, show t + 1 + i = t + (i + 1) by omega]; exact h (i + 1) (by omega))]
theorem EqW.wg {w w' : Nat} (h : EqW L σ σ' w w') (e1 : rts L σ' = rts L σ) (e2 : sI σ' (L 40) = sI σ (L 40)) (hG : WG1 L σ w) (hI : (sI σ (L 74) w).toInt ≤ 4000) : WG1 L σ' w' := by
  unfold WG1
  rw [e1, e2, (h.1 68 (by decide) (by decide)).2 rfl, (h.1 62 (by decide) (by decide)).2 rfl, (h.1 74 (by decide) (by decide)).2 rfl]
  refine ⟨hG.1, fun c => ?_⟩
  obtain ⟨g1, g2⟩ := hG.2 c
  have ev : ∀ a, a + 2 ≤ 120 → WN L σ' w' a = WN L σ w a := fun a ha => NumN_ev 2 _ _ (fun i hi => by
    rw [Nat.add_assoc, Nat.add_assoc]
    exact h.2 (a + i) (by omega) (by omega))
  rw [ev 110 (by decide), ev 108 (by decide)]
  exact ⟨g1, g2⟩
theorem OKM.wz (hI : OKM h0 L σ) {w : Nat} (hw : (w : Int) < (sI σ h0 69).toInt) : (sI σ (L 74) w).toInt ≤ 4000 := by
  have h1 := hI.fI 69 0 16 (by decide) rfl rfl rfl rfl
  have h2 := hI.aI 74 16 0 4000 (by decide) (by decide) rfl rfl rfl (i := (w : Int)) (by omega) rfl
  exact h2.2
/-- who waits after a step waited before it -/
theorem GI.sub (hG : GI h0 L B σ) (hI : OKM h0 L σ) (f : Fr h0 L fs js σ σ') (hS : Sub h0 L σ σ') (h1 : nof fs [16, 61] = true) (h2 : nof js GJM = true) : GI h0 L B σ' := by
  have sub : ∀ l : List Nat, (∀ x ∈ l, x ∈ GJM) → nof js l = true := fun l hl => List.all_eq_true.mpr (fun x hx => by
    have : ¬ x ∈ l := fun q => nof_n h2 (hl x q) hx
    simpa using this)
  refine ⟨hG.1.fr f (nof_n h1 (by decide)) (sub _ (by decide)), hG.2.1.fr f (sub _ (by decide)), hG.2.2.1.fr f (sub _ (by decide)), fun w hw => ?_, ?_⟩
  · obtain ⟨w0, a, b⟩ := hS.2 w hw
    exact b.wg (rts_ff f (nof_n h2 (by decide))) (sI_ff f (by decide) (nof_n h2 (by decide))) (hG.2.2.2.1 w0 a) (hI.wz a)
  · have e := hG.2.2.2.2
    refine ⟨?_, ?_, ?_⟩
    · rw [sJ_ff f (by decide) (nof_n h2 (by decide))]
      exact e.1
    · rw [(f.1 61 (nof_n h1 (by decide))).2.1]
      exact e.2.1
    · rw [(f.1 61 (nof_n h1 (by decide))).2.1]
      have := hS.1
      have := e.2.2
      omega
/-- something is laid into the log behind its end -/
theorem GI.rec (hG : GI h0 L B σ) (f : Fr h0 L fs js σ σ') (h1 : nof fs [16, 61, 69] = true) (h2 : nof js GJN = true) (he : ∀ j, 14 ≤ j → j ≤ 23 → ∀ o : Nat, (o : Int) ≠ (sI σ h0 16).toInt → (j = 14 ∨ j = 15 ∨ j = 16 ∨ j = 17 ∨ j = 22 ∨ j = 23) → (sI σ' (L j) o).toInt = (sI σ (L j) o).toInt) : GI h0 L B σ' := by
  have sub : ∀ l : List Nat, (∀ x ∈ l, x ∈ GJN) → nof js l = true := fun l hl => List.all_eq_true.mpr (fun x hx => by
    have : ¬ x ∈ l := fun q => nof_n h2 (hl x q) hx
    simpa using this)
  have ea : ∀ k : Nat, (k : Int) ≤ (sI σ h0 16).toInt → ∀ V, apl L σ' k V = apl L σ k V := fun k hk V => apl_fr k (fun j a b i hi => i_inj (he j a (by omega) i (by omega) (by omega)))
  refine ⟨?_, hG.2.1.fr f (sub _ (by decide)), hG.2.2.1.fr f (sub _ (by decide)), hG.2.2.2.1.fr f (nof_n h1 (by decide)) (sub _ (by decide)), hG.2.2.2.2.fr f (nof_n h1 (by decide)) (nof_n h1 (by decide)) (nof_n h2 (by decide))⟩
  have g := hG.1
  unfold LG
  rw [(f.1 16 (nof_n h1 (by decide))).1, vw_ff f (sub _ (by decide)), vw_ff f (sub _ (by decide)), rts_ff f (nof_n h2 (by decide))]
  refine ⟨g.1, fun o ho => ?_, fun k hk => ?_, fun o ho => ?_⟩
  · rw [he 22 (by decide) (by decide) o (by omega) (by decide), he 23 (by decide) (by decide) o (by omega) (by decide)]
    exact g.2.1 o ho
  · rw [ea k hk]
    exact g.2.2.1 k hk
  · by_cases c : 0 ≤ (sI σ h0 16).toInt
    · rw [ea _ (by omega)]
      exact g.2.2.2 o ho
    · rw [show (sI σ h0 16).toInt.toNat = 0 by omega]
      have := g.2.2.2 o ho
      rw [show (sI σ h0 16).toInt.toNat = 0 by omega] at this
      exact this
theorem Rc.gi {a1 a2 : Int32} (h : Rc h0 L σ σ' a1 a2) (hG : GI h0 L B σ) (f : Fr h0 L [] [14, 15, 16, 17, 18, 19, 20, 21, 22, 23] σ σ') : GI h0 L B σ' := hG.rec f (by decide) (by decide) (fun j h1 h2 o ho hj => by
  have q := (h o).1 ho
  rcases hj with rfl | rfl | rfl | rfl | rfl | rfl
  · exact q.1
  · exact q.2.1
  · exact q.2.2.1
  · exact q.2.2.2.1
  · exact q.2.2.2.2.1
  · exact q.2.2.2.2.2)
theorem GI.ra {j : Nat} {n : Nat} {v : Int32} (hG : GI h0 L B σ) (hM : MdI h0 L σ) (e : σ' = h_uI σ (L j) n v) (h1 : 14 ≤ j) (h2 : j ≤ 23) (hn : (n : Int) = (sI σ h0 16).toInt) : GI h0 L B σ' := by
  have f : Fr h0 L [] [j] σ σ' := Fr.rf.aI hM (by omega) e (by simp)
  refine hG.rec f (by decide) ?_ (fun j' h3 h4 o ho _ => ?_)
  · unfold nof
    simp only [List.all_cons, List.all_nil, Bool.and_true, GJN]
    have : ¬ j ∈ GJN := fun q => by
      unfold GJN at q
      simp at q
      omega
    unfold GJN at this
    simpa using this
  · subst e
    by_cases c : j' = j
    · subst c
      exact congrArg Int32.toInt (u2_pl (by omega))
    · exact congrArg Int32.toInt (f.2.1 j' (by omega) (by simpa using c) o).1
/-- an entry that may be done -/
def EV (h0 : Nat) (L : Nat → Nat) (σ : HS) (K N U : Int) : Prop := K = 1 ∨ K = 2 ∨ K = 3 ∨ (K = 0 ∧ ∃ n p : Nat, N = n ∧ n < 80 ∧ (vw L σ 0 n).1 ≠ 1 ∧ U = p ∧ p < 80 ∧ (vw L σ 0 p).1 = 1 ∧ (vw L σ 0 p).2.2 = 1 ∧ (sI σ (L 10) n).toInt ≠ 1) ∨ (K = 4 ∧ ∃ n p : Nat, N = n ∧ n < 80 ∧ U = p ∧ p < 80 ∧ (vw L σ 0 p).1 = 1 ∧ (vw L σ 0 p).2.2 = 1 ∧ Nb (vw L σ 0) n p ∧ 0 ≤ (vw L σ 0 n).2.1) ∨ (K = 5 ∧ ∃ n : Nat, N = n ∧ n < 80 ∧ (∀ x, x < 80 → (vw L σ 0 x).1 = 1 → (vw L σ 0 x).2.1 ≠ n) ∧ 0 ≤ (vw L σ 0 n).2.1 ∧ ∀ o, o < 40 → (sJ σ (L 41) o).toInt ≠ 0 → (sI σ (L 43) o).toInt ≠ n)
theorem EV.gv {K N U D : Int} (h : EV h0 L σ K N U) (g : GV (rts L σ) (vw L σ 0)) : GV (rts L σ) (ap K N U D (vw L σ 0)) := by
  rcases h with e | e | e | ⟨e, n, p, a1, a2, a3, a4, a5, a6, a7, a8⟩ | ⟨e, n, p, a1, a2, a4, a5, a6, a7, a8, a9⟩ | ⟨e, n, a1, a2, a3, a4, a5⟩
  · rw [ap_k (by omega) (by omega) (by omega)]
    exact g
  · rw [ap_k (by omega) (by omega) (by omega)]
    exact g
  · rw [ap_k (by omega) (by omega) (by omega)]
    exact g
  · subst e
    exact g.made a1 a3 a4 a5 a6 a7
  · subst e
    exact g.named a1 a4 a5 a6 a7 a8 a9
  · subst e
    exact g.gone a1 a3 a4
theorem EV.og {K N U D : Int} (h : EV h0 L σ K N U) (g : OG L σ) (hI : OKM h0 L σ) (hv : ∀ o, o < 80 → vw L σ' 0 o = ap K N U D (vw L σ 0) o) (f : Fr h0 L fs js σ σ') (h2 : nof js [10, 41, 43, 50] = true) : OG L σ' := by
  have n : ∀ k ∈ [10, 41, 43, 50], k ∉ js := fun k hk => nof_n h2 hk
  unfold OG
  rw [sJ_ff f (by decide) (n 41 (by decide)), sI_ff f (by decide) (n 43 (by decide)), sI_ff f (by decide) (n 50 (by decide)), sI_ff f (by decide) (n 10 (by decide))]
  have hb : ∀ o : Nat, o < 40 → (0 : Int) ≤ (sI σ (L 43) o).toInt ∧ (sI σ (L 43) o).toInt ≤ 79 := fun o ho => hI.aI 43 40 0 79 (by decide) (by decide) rfl rfl rfl (i := (o : Int)) (by omega) rfl
  refine ⟨fun o ho hs => ?_, fun m hm hs => ?_⟩
  · have q := g.1 o ho hs
    have b := hb o ho
    rw [hv _ (by omega)]
    rcases h with e | e | e | ⟨e, n, p, a1, a2, a3, a4, a5, a6, a7, a8⟩ | ⟨e, n, p, a1, a2, a4, a5, a6, a7, a8, a9⟩ | ⟨e, n, a1, a2, a3, a4, a5⟩
    · rw [ap_k (by omega) (by omega) (by omega)]
      exact q
    · rw [ap_k (by omega) (by omega) (by omega)]
      exact q
    · rw [ap_k (by omega) (by omega) (by omega)]
      exact q
    · subst e
      rw [ap_ne (fun e => a3 (by rw [← show (sI σ (L 43) o).toInt.toNat = n by omega]; exact q.1))]
      exact q
    · subst e
      by_cases c : (((sI σ (L 43) o).toInt.toNat : Nat) : Int) = N
      · rw [ap_4 c]
        exact ⟨q.1, fun _ => by show 0 ≤ U; omega⟩
      · rw [ap_ne c]
        exact q
    · subst e
      have := a5 o ho hs
      rw [ap_ne (by omega)]
      exact q
  · have q := g.2 m hm hs
    rw [hv _ hm]
    rcases h with e | e | e | ⟨e, n, p, a1, a2, a3, a4, a5, a6, a7, a8⟩ | ⟨e, n, p, a1, a2, a4, a5, a6, a7, a8, a9⟩ | ⟨e, n, a1, a2, a3, a4, a5⟩
    · rw [ap_k (by omega) (by omega) (by omega)]
      exact q
    · rw [ap_k (by omega) (by omega) (by omega)]
      exact q
    · rw [ap_k (by omega) (by omega) (by omega)]
      exact q
    · subst e
      rw [ap_ne (fun e => a8 (by rw [← show m = n by omega]; exact hs))]
      exact q
    · subst e
      by_cases c : (m : Int) = N
      · rw [ap_4 c]
        show 0 ≤ U
        omega
      · rw [ap_ne c]
        exact q
    · subst e
      by_cases c : (m : Int) = N
      · rw [ap_5 c]
        exact q
      · rw [ap_ne c]
        exact q
theorem LG.live (hG : LG h0 L σ) (hI : OKM h0 L σ) : GV (rts L σ) (vw L σ 0) := by
  have h1 := hI.fI 16 0 8 (by decide) rfl rfl rfl rfl
  exact (hG.2.2.1 (sI σ h0 16).toInt.toNat (by omega)).ev (fun o ho => hG.2.2.2 o ho)
theorem s2_X12_done (hI : OKM h0 L σ) (hG : GI h0 L B σ) (hr : (sI σ (L 22) (sI σ h0 16).toInt.toNat).toInt + (sI σ (L 23) (sI σ h0 16).toInt.toNat).toInt ≤ 4096) (hE : EV h0 L σ (sI σ (L 14) (sI σ h0 16).toInt.toNat).toInt (sI σ (L 15) (sI σ h0 16).toInt.toNat).toInt (sI σ (L 16) (sI σ h0 16).toInt.toNat).toInt) {post : HS → Prop} (kk : ∀ (σ' : HS), OKM h0 L σ' → Fr h0 L [16] [1, 2, 3, 4, 5, 6, 7, 8, 9] σ σ' → (GI h0 L B σ' ∧ ∀ o, o < 80 → vw L σ' 0 o = ap (sI σ (L 14) (sI σ h0 16).toInt.toNat).toInt (sI σ (L 15) (sI σ h0 16).toInt.toNat).toInt (sI σ (L 16) (sI σ h0 16).toInt.toNat).toInt (sI σ (L 17) (sI σ h0 16).toInt.toNat).toInt (vw L σ 0) o) → post σ') : F_X12_done h0 L post σ := by
  have h16 := hI.fI 16 0 8 (by decide) rfl rfl rfl rfl
  have g := hG.1
  refine s_X12_done hI g.1 (fun o ho => ?_) (fun σ' hI' f p => kk σ' hI' f ⟨?_, p.1⟩)
  · by_cases c : (o : Int) < (sI σ h0 16).toInt
    · exact g.2.1 o c
    · rw [show o = (sI σ h0 16).toInt.toNat by omega]
      exact hr
  · have gl := g.live hI
    have gn := hE.gv (D := (sI σ (L 17) (sI σ h0 16).toInt.toNat).toInt) gl
    have ea := fun k V => apl_ff f (by decide) k V
    refine ⟨?_, hE.og hG.2.1 hI p.1 f (by decide), hG.2.2.1.fr f (by decide), hG.2.2.2.1.fr f (by decide) (by decide), hG.2.2.2.2.fr f (by decide) (by decide) (by decide)⟩
    unfold LG
    rw [rts_ff f (by decide), sI_ff f (by decide) (show 22 ∉ [1, 2, 3, 4, 5, 6, 7, 8, 9] by decide), sI_ff f (by decide) (show 23 ∉ [1, 2, 3, 4, 5, 6, 7, 8, 9] by decide)]
    rcases p.2 with ⟨c1, c2, c3⟩ | ⟨c1, c2, c3⟩
    · have e8 : ∀ o, o < 80 → vw L σ' 80 o = vw L σ' 0 o := fun o ho => by
        rw [c3 o ho, p.1 o ho]
        show ap _ _ _ _ (apl L σ 7 (vw L σ 80)) o = _
        rw [show (sI σ h0 16).toInt.toNat = 7 by omega]
        refine ap_ev ?_
        rw [g.2.2.2 o ho, show (sI σ h0 16).toInt.toNat = 7 by omega]
      rw [c2]
      refine ⟨by decide, fun o ho => by omega, fun k hk => ?_, fun o ho => ?_⟩
      · have : k = 0 := by omega
        subst this
        exact gn.ev (fun o ho => by show vw L σ' 80 o = _; rw [e8 o ho, p.1 o ho])
      · exact (e8 o ho).symm
    · rw [c2]
      have ek : ∀ k o, o < 80 → apl L σ' k (vw L σ' 80) o = apl L σ k (vw L σ 80) o := fun k o ho => by
        rw [ea]
        exact apl_ev c3 k o ho
      refine ⟨by omega, fun o ho => ?_, fun k hk => ?_, fun o ho => ?_⟩
      · by_cases c : (o : Int) < (sI σ h0 16).toInt
        · exact g.2.1 o c
        · rw [show o = (sI σ h0 16).toInt.toNat by omega]
          exact hr
      · by_cases c : (k : Int) ≤ (sI σ h0 16).toInt
        · exact (g.2.2.1 k c).ev (fun o ho => ek k o ho)
        · refine gn.ev (fun o ho => ?_)
          rw [ek k o ho, show k = (sI σ h0 16).toInt.toNat + 1 by omega]
          exact ap_ev (g.2.2.2 o ho).symm
      · rw [ek _ o ho, p.1 o ho, show ((sI σ h0 16).toInt + 1).toNat = (sI σ h0 16).toInt.toNat + 1 by omega]
        exact ap_ev (g.2.2.2 o ho)
/-- the log comes to the disk -/
theorem GI.come (hG : GI h0 L B σ) (hI : OKM h0 L σ) (f : Fr h0 L [16] [1, 2, 3, 4, 5, 6, 7, 8, 9] σ σ') (h1 : (sI σ' h0 16).toInt = 0) (hC : Cm L σ σ' (sI σ h0 16).toInt.toNat) : GI h0 L B σ' := by
  have h16 := hI.fI 16 0 8 (by decide) rfl rfl rfl rfl
  have g := hG.1
  have hv : ∀ o, o < 80 → vw L σ' 0 o = vw L σ 0 o := fun o ho => (hC o ho).2
  refine ⟨?_, ?_, hG.2.2.1.fr f (by decide), hG.2.2.2.1.fr f (by decide) (by decide), hG.2.2.2.2.fr f (by decide) (by decide) (by decide)⟩
  · unfold LG
    rw [h1, rts_ff f (by decide)]
    refine ⟨by decide, fun o ho => by omega, fun k hk => ?_, fun o ho => ?_⟩
    · have : k = 0 := by omega
      subst this
      exact (g.2.2.1 (sI σ h0 16).toInt.toNat (by omega)).ev (fun o ho => (hC o ho).1)
    · show vw L σ' 0 o = vw L σ' 80 o
      rw [(hC o ho).1, hv o ho]
      exact g.2.2.2 o ho
  · have q : EV h0 L σ 1 0 0 := Or.inl rfl
    exact q.og (D := 0) hG.2.1 hI (fun o ho => by rw [ap_k (by decide) (by decide) (by decide)]; exact hv o ho) f (by decide)
theorem GI.allCome (hG : GI h0 L B σ) (o : Nat) (ho : (o : Int) < (sI σ h0 16).toInt) : (sI σ (L 22) o).toInt + (sI σ (L 23) o).toInt ≤ 4096 := hG.1.2.1 o ho
end S81


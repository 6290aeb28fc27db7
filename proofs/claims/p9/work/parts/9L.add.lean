/-! the class: a list gets one more -/
section R9L
variable {G : GE} {E : CE} {W W' W2 : CW} {κ κ' κ2 : CS} {M M2 : List (Nat × Nat)} {a b b2 k r t o n q d : Nat} {c : Int}
theorem CV.bud (h : CV G E W c κ) : c ≤ κ.2 := by
  have := h.2.2.2.2.2.2
  omega
theorem nul_up {z : Option Nat} (h : WLe W W') (g : z = none ∨ ∃ b, z = some b ∧ W.1 b = r) (hr : r ≠ 0) : z = none ∨ ∃ b, z = some b ∧ W'.1 b = r := g.imp id (fun ⟨b, e, w⟩ => ⟨b, e, h.at w hr⟩)
theorem BQ.up {z : Option Nat} (h : WLe W W') (g : BQ G W z n) : BQ G W' z n := g.imp (fun ⟨b, e, w, x⟩ => ⟨b, e, h.at w (by decide), x⟩) id
theorem i_half {z w : Int32} (e : w = z >>> (1 &&& 31)) (h : 0 ≤ z.toInt ∧ z.toInt ≤ 100) : w.toInt = z.toInt / 2 := by
  obtain ⟨n, hn⟩ : ∃ n, n = z.toInt.toNat := ⟨_, rfl⟩
  have hz : z = nI n := Int32.toInt_inj.mp (by rw [nI_toInt (by omega)]; omega)
  have key : ∀ n : Nat, n < 101 → ((nI n : Int32) >>> (1 &&& 31)).toInt = ((n / 2 : Nat) : Int) := by decide +kernel
  have k1 := key n (by omega)
  rw [e, hz, k1, nI_toInt (by omega)]
  omega
/-- a list's own cells change -/
theorem CV.lsU (h : CV G E W c κ) (ho : W.1 o = r) (hr : 40 ≤ r ∧ r < 45) (he : sP κ'.1 o 1 = some b) (hb : W.1 b = r + 10) (hL : ∀ x ∈ sL κ.1, x ∈ sL κ'.1 ∧ sK κ'.1 x = sK κ.1 x ∧ sN κ'.1 x = sN κ.1 x) (hI : ∀ x i, ¬ (x = o ∧ (i = 0 ∨ i = 2)) → sI κ'.1 x i = sI κ.1 x i) (hP : ∀ x i, x ≠ b → ¬ (x = o ∧ i = 1) → sP κ'.1 x i = sP κ.1 x i) (hz : 0 ≤ (sI κ'.1 o 2).toInt ∧ (sI κ'.1 o 2).toInt ≤ W.2 b ∧ W.2 b ≤ 100) (hel : ∀ i, i < W.2 b → sP κ'.1 b i = none ∨ ∃ y, sP κ'.1 b i = some y ∧ W.1 y = elC r) (hnn : ∀ i : Nat, (i : Int) < (sI κ'.1 o 2).toInt → sP κ'.1 b i ≠ none) (hd : r = 44 → 400 * (sI κ'.1 o 2).toInt.toNat ≤ 400 * (sI κ.1 o 2).toInt.toNat + d) (e2 : κ'.2 = κ.2) : CV G E W (c - d) κ' := by
  obtain ⟨h1, h2, h3, h6, h7, hm, h8⟩ := h
  have lk := ls_k hr
  have ob : isOb r = true := by rcases ls_c hr with rfl | rfl | rfl | rfl | rfl <;> rfl
  have rb : isOb (r + 10) = false := lk.2.2.1
  have nb : ∀ x, isOb (W.1 x) = true → x ≠ b := fun x hx e => by
    rw [e, hb, rb] at hx
    cases hx
  have pn : ∀ x i, isOb (W.1 x) = true → W.1 x ≠ r ∨ i ≠ 1 → sP κ'.1 x i = sP κ.1 x i := fun x i hx g => hP x i (nb x hx) (fun ⟨e1, e2⟩ => g.elim (fun n => n (by rw [e1]; exact ho)) (fun n => n e2))
  refine ⟨fun x hx => ?_, fun x hx y hy => ?_, fun x hx y hy => ?_, fun l q hl g1 g2 => ?_, h7, (hL _ hm).1, ?_⟩
  · obtain ⟨g1, g2, g3⟩ := h1 x hx
    have k1 := hL x g1.1
    refine ⟨⟨k1.1, k1.2.1.trans g1.2⟩, fun q => by rw [k1.2.2]; exact g2 q, fun i hi => ?_⟩
    refine ⟨?_, ?_⟩
    · by_cases q : x = o ∧ (i = 0 ∨ i = 2)
      · obtain ⟨e, q⟩ := q
        subst e
        rw [ho]
        unfold ixC
        rw [ob]
        rcases q with rfl | rfl
        · have := i_range (sI κ'.1 x 0)
          rcases ls_c hr with rfl | rfl | rfl | rfl | rfl <;> exact this
        · have : 0 ≤ (sI κ'.1 x 2).toInt ∧ (sI κ'.1 x 2).toInt ≤ 100 := by omega
          rcases ls_c hr with rfl | rfl | rfl | rfl | rfl <;> exact this
      · rw [hI x i q]
        exact (g3 i hi).1
    · by_cases q : x = b
      · subst q
        rw [hb]
        unfold ixC
        rw [rb]
        show RV G W _ (tgC (r + 10) 0)
        rw [lk.2.2.2.1]
        rcases hel i (hi (by rw [hb]; exact rb)) with e | ⟨y, e, g⟩
        · exact Or.inr (Or.inl ⟨rfl, e⟩)
        · exact Or.inr (Or.inr (Or.inr ⟨y, e, g⟩))
      · by_cases q2 : x = o ∧ i = 1
        · obtain ⟨e, q2⟩ := q2
          subst e
          subst q2
          rw [he, ho]
          have e1 : ixC r 1 = 1 := by unfold ixC; rw [ob]; rfl
          rw [e1]
          have e2 : tgC r 1 = (r + 10, 2) := by rcases ls_c hr with rfl | rfl | rfl | rfl | rfl <;> rfl
          rw [e2]
          exact Or.inr (Or.inr (Or.inr ⟨b, rfl, hb⟩))
        · rw [hP x i q q2]
          exact (g3 i hi).2
  · have rc := isRw_c hx
    rw [pn x 0 (rw_ob hx) (Or.inr (by decide))] at hy
    rw [hI x 1 (fun q => by rcases q.2 with e | e <;> omega)]
    exact h2 x hx y hy
  · rw [pn x 13 (by rw [hx]; rfl) (Or.inr (by decide))] at hy
    rw [hI x 12 (fun q => by rcases q.2 with e | e <;> omega)]
    exact h3 x hx y hy
  · have obl : isOb q = true := by rcases ls_c ⟨g1, g2⟩ with rfl | rfl | rfl | rfl | rfl <;> rfl
    by_cases e : l = o
    · subst e
      have : q = r := hl.symm.trans ho
      subst this
      refine ⟨fun x xw => ?_, fun x hx hw => ?_⟩
      · rw [he] at x
        have : b = G.1 := Option.some.inj x
        rw [this] at hb
        exact absurd hb xw
      · rw [he] at hx
        have : b = x := Option.some.inj hx
        subst this
        exact ⟨by omega, by omega, hnn⟩
    · have qr : q ≠ r := fun e' => e (h7.2.2.2.1 l o (by rw [hl, ho, e']) (by rw [hl]; exact g1) (by rw [hl]; exact g2))
      rw [pn l 1 (by rw [hl]; exact obl) (Or.inl (by rw [hl]; exact qr)), hI l 2 (fun x => e x.1)]
      obtain ⟨p1, p2⟩ := h6 l q hl g1 g2
      refine ⟨p1, fun x hx hw => ?_⟩
      obtain ⟨q1, q2, q3⟩ := p2 x hx hw
      refine ⟨q1, q2, fun i hi => ?_⟩
      have xb : x ≠ b := fun e' => by
        rw [e', hb] at hw
        omega
      have xo : x ≠ o := fun e' => by
        rw [e', ho] at hw
        omega
      rw [hP x i xb (fun g => xo g.1)]
      exact q3 i hi
  · have p1 : sm (fun x => dcR (W.1 x) * (cpR (W.1 x) - lnF W κ'.1 x 0)) E.1 = sm (fun x => dcR (W.1 x) * (cpR (W.1 x) - lnF W κ.1 x 0)) E.1 := sm_ev _ (fun x hx => by
      have := lnF_eq (W := W) (a := x) (k := 0) (σ := κ.1) (σ' := κ'.1) (pn x 0 (rw_ob (h7.2.2.2.2.2.1 x hx)) (Or.inr (by decide)))
      rw [this])
    have p2 : sm (fun x => nP (lnF W κ'.1 x 13)) E.2.1 = sm (fun x => nP (lnF W κ.1 x 13)) E.2.1 := sm_ev _ (fun x hx => by
      have := lnF_eq (W := W) (a := x) (k := 13) (σ := κ.1) (σ' := κ'.1) (pn x 13 (by rw [h7.2.2.2.2.2.2 x hx]; rfl) (Or.inr (by decide)))
      rw [this])
    unfold pot at h8 ⊢
    rw [p1, p2, e2]
    by_cases e : r = 44
    · have eo : E.2.2 = o := (h7.2.2.2.2.1.2 o (by rw [ho, e])).symm
      have := hd e
      rw [eo] at h8 ⊢
      omega
    · rw [hI E.2.2 2 (fun q => by have w := h7.2.2.2.2.1.1; rw [q.1, ho] at w; omega)]
      omega
theorem CF.lsU (ho : W.1 o = r) (hr : 40 ≤ r ∧ r < 45) (hb : W.1 b = r + 10) (hL : ∀ x ∈ sL κ.1, x ∈ sL κ'.1 ∧ sK κ'.1 x = sK κ.1 x ∧ sN κ'.1 x = sN κ.1 x) (hI : ∀ x i, ¬ (x = o ∧ (i = 0 ∨ i = 2)) → sI κ'.1 x i = sI κ.1 x i) (hJ : ∀ x i, sJ κ'.1 x i = sJ κ.1 x i) (hP : ∀ x i, x ≠ b → ¬ (x = o ∧ i = 1) → sP κ'.1 x i = sP κ.1 x i) : CF [(r, 0), (r, 1), (r, 2), (r + 10, 0)] W κ κ' := by
  have lk := ls_k hr
  have ob : isOb r = true := by rcases ls_c hr with rfl | rfl | rfl | rfl | rfl <;> rfl
  refine ⟨fun x hx i hi => ⟨hI x i (fun q => hi ?_), hJ x i, hP x i (fun q => hi ?_) (fun q => hi ?_)⟩, fun x hx => ⟨hL x hx, fun e i => ⟨hI x i (fun q => ?_), hJ x i, hP x i (fun q => ?_) (fun q => ?_)⟩⟩⟩
  · obtain ⟨e, q⟩ := q
    subst e
    rw [ho]
    unfold ixC
    rw [ob]
    rcases q with rfl | rfl <;> simp
  · subst q
    rw [hb]
    unfold ixC
    rw [lk.2.2.1]
    simp
  · obtain ⟨e, q⟩ := q
    subst e
    subst q
    rw [ho]
    unfold ixC
    rw [ob]
    simp
  · rw [q.1, ho] at e
    omega
  · rw [q, hb] at e
    omega
  · rw [q.1, ho] at e
    omega
/-- a list of the same, with more room -/
theorem grow_in (h : CV G E W c κ) (ho : W.1 o = r) (hr : 40 ≤ r ∧ r < 45) (hz : (sI κ.1 o 2).toInt ≤ 60) (hc : 102 ≤ c) (hfull : ∀ b, sP κ.1 o 1 = some b → W.1 b = r + 10 → (sI κ.1 o 2).toInt = W.2 b) {post : Option Nat → CS → Prop} (kk : ∀ (q : Nat) (W' : CW) (κ' : CS), WX W W' κ → CV G E W' (c - 102) κ' → CF [(r, 0), (r, 1), (r, 2), (r + 10, 0)] W κ κ' → (W'.1 q = r + 10 ∧ sP κ'.1 o 1 = some q ∧ sI κ'.1 o 2 = sI κ.1 o 2 ∧ (sI κ.1 o 2).toInt < W'.2 q) → post (some q) κ') : F_Jx4a65c_grow_d5877 G o post κ := by
  unfold F_Jx4a65c_grow_d5877 F_Jx4a65c_grow_92f84 F_J7_copyOf_1904c F_J7_copyOf_6403c
  have lk := ls_k hr
  have m := h.mm ho (by omega) lk.1
  have lr := h.2.2.2.1 o r ho hr.1 hr.2
  have sz := h.lsz ho hr
  have k1 : (1 : Int32).toInt = 1 := rfl
  have k0 : (0 : Int32).toInt = 0 := rfl
  have k10 : (10 : Int32).toInt = 10 := rfl
  have bud := h.bud
  have obl : isOb r = true := by rcases ls_c hr with rfl | rfl | rfl | rfl | rfl <;> rfl
  have fx0 : fxl (r + 10) = 0 := by rcases ls_c hr with rfl | rfl | rfl | rfl | rfl <;> rfl
  have iv0 : (ivC (r + 10) 0).1 ≤ 0 ∧ 0 ≤ (ivC (r + 10) 0).2 := ivC_0
  have tg0 : (tgC (r + 10) 0).1 = 0 ∨ (tgC (r + 10) 0).2 = 1 := Or.inr (by rw [lk.2.2.2.1])
  refine ⟨m, fun z1 e1 z2 e2 => ⟨m, m, fun y1 ey1 => ?_⟩⟩
  have hz2 := i_add e2 (by rw [e1]; omega) (by rw [e1]; omega)
  rw [e1] at hz2
  -- a new row of n places into which the old ones have gone
  have fin : ∀ (n : Nat) (q : Nat) (κ3 κ4 κ5 : CS), q ∉ sL κ.1 → κ3 = (h_uN κ.1 q 27 n, κ.2 - (n + 12)) → n ≤ 90 → (sI κ.1 o 2).toInt < n → sL κ4.1 = sL κ3.1 → sK κ4.1 = sK κ3.1 → sN κ4.1 = sN κ3.1 → sI κ4.1 = sI κ3.1 → sJ κ4.1 = sJ κ3.1 → (∀ x i, x ≠ q → sP κ4.1 x i = sP κ3.1 x i) → κ4.2 = κ3.2 → (∀ i, i < n → sP κ4.1 q i = none ∨ ∃ y, sP κ4.1 q i = some y ∧ W.1 y = elC r) → (∀ i : Nat, (i : Int) < (sI κ.1 o 2).toInt → sP κ4.1 q i ≠ none) → κ5 = (h_uP κ4.1 o 1 (some q), κ4.2) → post (some q) κ5 := by
    intro n q κ3 κ4 κ5 hq e3 hn hsn eL eK eN eI eJ eP e42 hel hnn e5
    obtain ⟨W', x, hV3, wq, wn, f3⟩ := h.mkA (M := [(r, 0), (r, 1), (r, 2), (r + 10, 0)]) (r := r + 10) (n := n) hq lk.2.2.1 lk.2.1 (Or.inl fx0) (by omega) (fun _ _ => by omega) iv0 tg0 (by omega) e3
    have ho3 := x.1.at ho (by omega)
    have oq : o ≠ q := fun e => by rw [e, wq] at ho3; omega
    have so : sI κ3.1 o = sI κ.1 o := by rw [e3]; exact va_up_ne _ _ oq
    have sI5 : sI κ5.1 = sI κ3.1 := by rw [e5]; exact eI
    have hL : ∀ x ∈ sL κ3.1, x ∈ sL κ5.1 ∧ sK κ5.1 x = sK κ3.1 x ∧ sN κ5.1 x = sN κ3.1 x := fun x hx => by
      rw [e5]
      show x ∈ sL κ4.1 ∧ sK κ4.1 x = _ ∧ sN κ4.1 x = _
      rw [eL, eK, eN]
      exact ⟨hx, rfl, rfl⟩
    have hI : ∀ x i, ¬ (x = o ∧ (i = 0 ∨ i = 2)) → sI κ5.1 x i = sI κ3.1 x i := fun x i _ => by rw [sI5]
    have hJ : ∀ x i, sJ κ5.1 x i = sJ κ3.1 x i := fun x i => by
      rw [e5]
      show sJ κ4.1 x i = _
      rw [eJ]
    have hP : ∀ x i, x ≠ q → ¬ (x = o ∧ i = 1) → sP κ5.1 x i = sP κ3.1 x i := fun x i h1 h2 => by
      rw [e5]
      show u2 (sP κ4.1) o 1 (some q) x i = _
      by_cases e : x = o
      · rw [u2_pl (fun e' => h2 ⟨e, e'⟩)]
        exact eP x i h1
      · rw [u2_addr e]
        exact eP x i h1
    have h5o : sP κ5.1 o 1 = some q := by rw [e5]; exact u2_same
    have p5 : ∀ i, sP κ5.1 q i = sP κ4.1 q i := fun i => by
      rw [e5]
      exact u2_addr (Ne.symm oq)
    have z5 : sI κ5.1 o 2 = sI κ.1 o 2 := by rw [sI5, so]
    have cv := hV3.lsU (d := 0) ho3 hr h5o wq hL hI hP (by rw [z5, wn]; omega) (fun i hi => by
      rw [p5]
      exact (hel i (by omega)).imp id (fun ⟨y, g1, g2⟩ => ⟨y, g1, x.1.at g2 lk.2.2.2.2⟩)) (fun i hi => by
      rw [p5]
      rw [z5] at hi
      exact hnn i hi) (fun _ => by rw [z5, so]; omega) (by rw [e5]; exact e42)
    exact kk q W' κ5 x (cv.dn (by omega)) (f3.trW x (CF.lsU ho3 hr wq hL hI hJ hP) (fun y hy => hy)) ⟨wq, h5o, z5, by rw [wn]; omega⟩
  rcases h.lel ho hr with e | ⟨b, eb, wb⟩
  · -- the shared empty one
    have s0 := lr.1 e.1 e.2
    refine ⟨0, Or.inr (Or.inl ⟨ey1.trans e.1, rfl⟩), fun y2 ey2 => ?_⟩
    have hy2 := nI_ln ey2 (by decide)
    refine jc_dup ⟨fun c1 => by omega, fun c1 => ⟨m, fun y16 ey16 => ⟨fun c2 y18 ey18 => ⟨by omega, by omega, fun q hq κ3 e3 => ?_⟩, fun c2 => absurd (ey16.trans e.1) c2⟩⟩⟩
    have eq27 : sP κ3.1 q = fun _ => none := by rw [e3]; exact va_up_self _ _ _
    have m3 : o ∈ sL κ3.1 ∧ sK κ3.1 o = 7 := by
      have := (h.1.uN (c := 27) (n := y18.toInt.toNat) hq).mm ho (by omega) lk.1
      rw [e3]
      exact this
    refine ⟨m3, fun κ5 e5 => fin y18.toInt.toNat q κ3 κ3 κ5 hq e3 (by omega) (by omega) rfl rfl rfl rfl rfl (fun _ _ _ => rfl) rfl (fun i hi => Or.inl (by rw [eq27])) (fun i hi => by omega) e5⟩
  · obtain ⟨g1, g2, g3⟩ := lr.2 b eb wb
    have full := hfull b eb wb
    have mb := h.mm wb (by omega) lk.2.1
    have lb := h.ln wb (by omega) lk.2.2.1
    have el : ∀ j, j < W.2 b → sP κ.1 b j = none ∨ ∃ y, sP κ.1 b j = some y ∧ W.1 y = elC r := fun j hj => by
      have rv := (h.1.el wb (by omega) lk.2.2.1 j hj).2
      rw [lk.2.2.2.1] at rv
      rcases rv with q | q | q | q
      · exact absurd q lk.2.2.2.2
      · exact Or.inl q.2
      · exact absurd (show (1 : Nat) = 2 from q.1) (by decide)
      · exact Or.inr q
    refine ⟨W.2 b, AL.of h (ey1.trans eb) wb (by omega) lk.2.2.1 (by rw [lk.2.1]; decide), fun y2 ey2 => ?_⟩
    have hy2 := nI_ln ey2 (by omega)
    have copy : ∀ y8 : Int32, y8 = z2 - y2 → ∀ y9 : Int32, y9 = y2 >>> (1 &&& 31) → F_J8_newLength_cabcc G y2 y8 y9 (fun (z11 : Int32) (κ10 : CS) => (o ∈ sL κ10.1 ∧ sK κ10.1 o = 7) ∧ ∀ z12 : Option Nat, z12 = sP κ10.1 o 1 → ∃ b : Nat, z12 = some b ∧ (b ∈ sL κ10.1 ∧ sK κ10.1 b = 27) ∧ jc (fun (K3 : (Option Nat) → CS → Prop) => ((¬ (some G.2.2.2.2.1 : Option Nat) = (some G.2.2.2.2.1)) → False) ∧ (((some G.2.2.2.2.1 : Option Nat) = (some G.2.2.2.2.1)) → (0 ≤ z11.toInt ∧ z11.toInt ≤ 1000000) ∧ (z11.toInt.toNat + 12 ≤ κ10.2) ∧ ∀ o11 : Nat, o11 ∉ sL κ10.1 → ∀ κ12 : CS, κ12 = (h_uN κ10.1 o11 27 z11.toInt.toNat, κ10.2 - (z11.toInt.toNat + 12)) → K3 (some o11) κ12)) (fun (x1 : Option Nat) (κ2 : CS) => ∃ n : Nat, AL G κ2 z12 n ∧ ∀ z6 : Int32, z6 = nI n → ∀ z8 : Int32, z8.toInt = min z6.toInt z11.toInt → ∃ u0 : Nat, z12 = some u0 ∧ ∃ u1 : Nat, x1 = some u1 ∧ (u0 ∈ sL κ2.1 ∧ sK κ2.1 u0 = 27) ∧ (u1 ∈ sL κ2.1 ∧ sK κ2.1 u1 = 27) ∧ (0 ≤ (0 : Int32).toInt ∧ 0 ≤ (0 : Int32).toInt ∧ 0 ≤ z8.toInt ∧ (0 : Int32).toInt + z8.toInt ≤ (sN κ2.1 u0 : Int) ∧ (0 : Int32).toInt + z8.toInt ≤ (sN κ2.1 u1 : Int)) ∧ (∃ kb : Nat, (8 ≤ kb ∧ kb ≤ 12) ∧ ∀ j : Nat, j < z8.toInt.toNat → ∀ y : Nat, sP κ2.1 u0 ((0 : Int32).toInt.toNat + j) = some y → y ∈ sL κ2.1 ∧ sK κ2.1 y = kb) ∧ ∀ κ9 : CS, κ9 = (h_cpP κ2.1 u0 u1 (0 : Int32).toInt.toNat (0 : Int32).toInt.toNat z8.toInt.toNat, κ2.2) → (o ∈ sL κ9.1 ∧ sK κ9.1 o = 7) ∧ ∀ κ15 : CS, κ15 = (h_uP κ9.1 o 1 x1, κ9.2) → post x1 κ15)) κ := by
      intro y8 ey8 y9 ey9
      have hy8 := i_sub ey8 (by omega) (by omega)
      have hy9 := i_half ey9 (by omega)
      refine t_J8_newLength_cabcc h y2 y8 y9 (by omega) (fun z11 p11 => ⟨m, fun z12 e12 => ⟨b, e12.trans eb, mb, jc_dup ⟨fun c1 => absurd rfl c1, fun _ => ⟨by omega, by omega, fun q hq κ3 e3 => ?_⟩⟩⟩⟩)
      have hV3 := h.1.uN (c := 27) (n := z11.toInt.toNat) hq
      have t3 : TV G W κ3.1 := by rw [e3]; exact hV3
      have qb : b ≠ q := fun e => hq (by rw [← e]; exact mb.1)
      have m3 := t3.mm ho (by omega) lk.1
      have mb3 := t3.mm wb (by omega) lk.2.1
      have nb3 : sN κ3.1 b = W.2 b := t3.ln wb (by omega) lk.2.2.1
      have mq3 : q ∈ sL κ3.1 ∧ sK κ3.1 q = 27 := by
        rw [e3]
        exact ⟨List.mem_append_right _ (List.mem_singleton.mpr rfl), va_up_self _ _ _⟩
      have nq3 : sN κ3.1 q = z11.toInt.toNat := by rw [e3]; exact va_up_self _ _ _
      have pb3 : sP κ3.1 b = sP κ.1 b := by rw [e3]; exact va_up_ne _ _ qb
      have pq3 : sP κ3.1 q = fun _ => none := by rw [e3]; exact va_up_self _ _ _
      refine ⟨W.2 b, Or.inl ⟨b, e12.trans eb, ⟨mb3.1, by rw [mb3.2]; decide⟩, nb3.symm⟩, fun z6 e6 z8 e8 => ⟨b, e12.trans eb, q, rfl, mb3, mq3, ?_, ⟨elC r, ?_, fun j hj y hy => ?_⟩, fun κ4 e4 => ?_⟩⟩
      · have hz6 := nI_ln e6 (by omega)
        rw [nb3, nq3]
        omega
      · rcases ls_c hr with rfl | rfl | rfl | rfl | rfl <;> decide
      · have hz6 := nI_ln e6 (by omega)
        rw [pb3] at hy
        rcases el ((0 : Int32).toInt.toNat + j) (by omega) with q' | ⟨y', q', q2⟩
        · rw [q'] at hy
          cases hy
        · rw [q'] at hy
          cases hy
          have := t3.mm q2 lk.2.2.2.2 rfl
          refine ⟨this.1, this.2.trans ?_⟩
          rcases ls_c hr with rfl | rfl | rfl | rfl | rfl <;> rfl
      · have hz6 := nI_ln e6 (by omega)
        have pq4 : sP κ4.1 q = va_cpy (sP κ3.1 b) (sP κ3.1 q) (0 : Int32).toInt.toNat (0 : Int32).toInt.toNat z8.toInt.toNat := by
          rw [e4]
          exact va_up_self _ _ _
        have m4 : o ∈ sL κ4.1 ∧ sK κ4.1 o = 7 := by rw [e4]; exact m3
        refine ⟨m4, fun κ5 e5 => fin z11.toInt.toNat q κ3 κ4 κ5 hq e3 (by omega) (by omega) (by rw [e4]; rfl) (by rw [e4]; rfl) (by rw [e4]; rfl) (by rw [e4]; rfl) (by rw [e4]; rfl) (fun x i hx => ?_) (by rw [e4]) (fun i hi => ?_) (fun i hi => ?_) e5⟩
        · rw [e4]
          show va_up (sP κ3.1) q _ x i = _
          rw [va_up_ne _ _ hx]
        · rw [pq4, pb3, pq3]
          unfold va_cpy
          split
          · exact el _ (by omega)
          · exact Or.inl rfl
        · rw [pq4, pb3]
          unfold va_cpy
          rw [if_pos (by omega)]
          have := g3 ((0 : Int32).toInt.toNat + (i - (0 : Int32).toInt.toNat)) (by omega)
          exact this
    refine jc_in (fun (_ : Unit) (κ' : CS) => κ = κ') (fun x κ' hJ => ?_) (fun K5 hK => ⟨fun _ => hK () κ rfl, fun c1 => ⟨m, fun y16 ey16 => ⟨fun c2 y18 ey18 => ⟨by omega, by omega, fun q hq κ3 e3 => ?_⟩, fun _ => hK () κ rfl⟩⟩⟩)
    · subst hJ
      exact copy
    · have eq27 : sP κ3.1 q = fun _ => none := by rw [e3]; exact va_up_self _ _ _
      have m3 : o ∈ sL κ3.1 ∧ sK κ3.1 o = 7 := by
        have := (h.1.uN (c := 27) (n := y18.toInt.toNat) hq).mm ho (by omega) lk.1
        rw [e3]
        exact this
      refine ⟨m3, fun κ5 e5 => fin y18.toInt.toNat q κ3 κ3 κ5 hq e3 (by omega) (by omega) rfl rfl rfl rfl rfl (fun _ _ _ => rfl) rfl (fun i hi => Or.inl (by rw [eq27])) (fun i hi => by omega) e5⟩
theorem t_Jx4a65c_add_9ea2d (h : CV G E W c κ) (o : Nat) (ho : W.1 o = r) (hr : 40 ≤ r ∧ r < 45) (a1 : Option Nat) (b1 : Nat) (e1 : a1 = some b1) (h1 : W.1 b1 = elC r) (hz : (sI κ.1 o 2).toInt ≤ 60) (d : Nat) (hd : 102 ≤ d ∧ (r = 44 → 502 ≤ d)) (hc : d ≤ c) {post : Int32 → CS → Prop} (kk : ∀ (z : Int32) (W' : CW) (κ' : CS), WX W W' κ → CV G E W' (c - d) κ' → CF [(r, 0), (r, 1), (r, 2), (r + 10, 0)] W κ κ' → ((sI κ'.1 o 2).toInt = (sI κ.1 o 2).toInt + 1) → post z κ') : F_Jx4a65c_add_9ea2d G o a1 post κ := by
  unfold F_Jx4a65c_add_9ea2d F_Jx4a65c_add_72be8
  have lk := ls_k hr
  have m := h.mm ho (by omega) lk.1
  have obl : isOb r = true := by rcases ls_c hr with rfl | rfl | rfl | rfl | rfl <;> rfl
  have ix0 : ixC r 0 = 0 := by unfold ixC; rw [obl]; rfl
  refine ⟨m, fun z1 ez1 z2 ez2 => ⟨m, fun κ3 e3 => ?_⟩⟩
  have rc := ls_c hr
  have h3 : CV G E W c κ3 := h.uI (k := 0) (v := z2) ho (Or.inr (by decide)) (Or.inr (by decide)) (Or.inr (Or.inl (by decide))) (fun _ => by
    have := i_range z2
    rw [ix0]
    rcases ls_c hr with rfl | rfl | rfl | rfl | rfl <;> exact this) e3
  have f3 : CF [(r, 0), (r, 1), (r, 2), (r + 10, 0)] W κ κ3 := CF.rf.uI (k := 0) ho (by omega) (by rw [ix0]; simp) e3
  have s3 : sI κ3.1 o 2 = sI κ.1 o 2 := by rw [e3]; exact u2_pl (by decide)
  have m3 := h3.mm ho (by omega) lk.1
  have lr := h3.2.2.2.1 o r ho hr.1 hr.2
  have sz := h3.lsz ho hr
  have k1 : (1 : Int32).toInt = 1 := rfl
  have k0 : (0 : Int32).toInt = 0 := rfl
  refine ⟨m3, fun z4 e4 => ⟨m3, fun z5 e5 => ⟨m3, ?_⟩⟩⟩
  have hz5 : z5.toInt = (sI κ.1 o 2).toInt := by rw [e5, s3]
  have hz53 : z5.toInt = (sI κ3.1 o 2).toInt := by rw [e5]
  -- what is owed at the end
  have last : ∀ (x2 : Option Nat) (κ4 : CS), (∃ (q : Nat) (W' : CW), x2 = some q ∧ WX W W' κ3 ∧ CV G E W' (c - 102) κ4 ∧ CF [(r, 0), (r, 1), (r, 2), (r + 10, 0)] W κ3 κ4 ∧ W'.1 q = r + 10 ∧ sP κ4.1 o 1 = some q ∧ sI κ4.1 o 2 = sI κ3.1 o 2 ∧ z5.toInt < W'.2 q) → ∃ b : Nat, x2 = some b ∧ (b ∈ sL κ4.1 ∧ 24 ≤ sK κ4.1 b ∧ sK κ4.1 b < 28) ∧ (0 ≤ z5.toInt ∧ z5.toInt < (sN κ4.1 b : Int)) ∧ (a1 = none ∨ ∃ e : Nat, a1 = some e ∧ e ∈ sL κ4.1 ∧ stOk (sK κ4.1 b) (sK κ4.1 e) = true) ∧ ∀ κ7 : CS, κ7 = (h_uP κ4.1 b z5.toInt.toNat a1, κ4.2) → ∀ z8 : Int32, z8 = z5 + 1 → (o ∈ sL κ7.1 ∧ sK κ7.1 o = 7) ∧ ∀ κ9 : CS, κ9 = (h_uI κ7.1 o 2 z8, κ7.2) → (0 ≤ (1 : Int32).toInt ∧ (1 : Int32).toInt ≤ 1) ∧ post 1 κ9 := by
    rintro x2 κ4 ⟨q, W', ex, x, h4, f4, wq, po, so, hlt⟩
    have ho4 := x.1.at ho (by omega)
    have hb4 := x.1.at h1 lk.2.2.2.2
    have mq := h4.mm wq (by omega) lk.2.1
    have mo := h4.mm ho4 (by omega) lk.1
    have lq := h4.ln wq (by omega) lk.2.2.1
    have me := h4.mm hb4 lk.2.2.2.2 rfl
    have lr4 := (h4.2.2.2.1 o r ho4 hr.1 hr.2).2 q po wq
    have oq : o ≠ q := fun e => by rw [e, wq] at ho4; omega
    refine ⟨q, ex, ⟨mq.1, by rw [mq.2]; decide, by rw [mq.2]; decide⟩, ⟨by omega, by rw [lq]; omega⟩, Or.inr ⟨b1, e1, me.1, ?_⟩, fun κ7 e7 z8 ez8 => ⟨by rw [e7]; exact mo, fun κ9 e9 => ⟨by omega, ?_⟩⟩⟩
    · rw [mq.2, me.2]
      rcases ls_c hr with rfl | rfl | rfl | rfl | rfl <;> rfl
    have hz8 := i_add ez8 (by omega) (by omega)
    have z9 : (sI κ9.1 o 2).toInt = z5.toInt + 1 := by
      rw [e9]
      show (u2 (sI κ7.1) o 2 z8 o 2).toInt = _
      rw [u2_same]
      omega
    have z4' : (sI κ4.1 o 2).toInt = z5.toInt := by rw [so, e5]
    have hL : ∀ y ∈ sL κ4.1, y ∈ sL κ9.1 ∧ sK κ9.1 y = sK κ4.1 y ∧ sN κ9.1 y = sN κ4.1 y := fun y hy => by
      rw [e9, e7]
      exact ⟨hy, rfl, rfl⟩
    have hI : ∀ y i, ¬ (y = o ∧ (i = 0 ∨ i = 2)) → sI κ9.1 y i = sI κ4.1 y i := fun y i g => by
      rw [e9, e7]
      show u2 (sI κ4.1) o 2 z8 y i = _
      by_cases e : y = o
      · exact u2_pl (fun e' => g ⟨e, Or.inr e'⟩)
      · exact u2_addr e
    have hJ : ∀ y i, sJ κ9.1 y i = sJ κ4.1 y i := fun y i => by
      rw [e9, e7]
      rfl
    have p9 : sP κ9.1 = u2 (sP κ4.1) q z5.toInt.toNat a1 := by
      rw [e9, e7]
      rfl
    have hP : ∀ y i, y ≠ q → ¬ (y = o ∧ i = 1) → sP κ9.1 y i = sP κ4.1 y i := fun y i g _ => by
      rw [p9]
      exact u2_addr g
    have cv := h4.lsU (d := d - 102) ho4 hr (by rw [p9, u2_addr oq]; exact po) wq hL hI hP (by omega) (fun i hi => by
      rw [p9]
      by_cases e : i = z5.toInt.toNat
      · rw [e, u2_same]
        exact Or.inr ⟨b1, e1, hb4⟩
      · rw [u2_pl e]
        have rv := (h4.1.el wq (by omega) lk.2.2.1 i hi).2
        rw [lk.2.2.2.1] at rv
        rcases rv with g | g | g | g
        · exact absurd g lk.2.2.2.2
        · exact Or.inl g.2
        · exact absurd (show (1 : Nat) = 2 from g.1) (by decide)
        · exact Or.inr g) (fun i hi => by
      rw [p9]
      by_cases e : i = z5.toInt.toNat
      · rw [e, u2_same, e1]
        exact fun g => by cases g
      · rw [u2_pl e]
        exact lr4.2.2 i (by omega)) (fun g => by have := hd.2 g; omega) (by rw [e9, e7])
    exact kk 1 W' κ9 (WX.rf.tr x f3.sl) (cv.dn (by omega)) (f3.tr (f4.trW x (CF.lsU ho4 hr wq hL hI hJ hP) (fun y hy => hy)) (fun y hy => hy)) (by omega)
  rcases h3.lel ho hr with e | ⟨b, eb, wb⟩
  · have s0 := lr.1 e.1 e.2
    refine ⟨0, Or.inr (Or.inl ⟨e4.trans e.1, rfl⟩), fun y1 ey1 => ?_⟩
    have hy1 := nI_ln ey1 (by decide)
    refine jc_in (fun (x2 : Option Nat) (κ4 : CS) => ∃ (q : Nat) (W' : CW), x2 = some q ∧ WX W W' κ3 ∧ CV G E W' (c - 102) κ4 ∧ CF [(r, 0), (r, 1), (r, 2), (r + 10, 0)] W κ3 κ4 ∧ W'.1 q = r + 10 ∧ sP κ4.1 o 1 = some q ∧ sI κ4.1 o 2 = sI κ3.1 o 2 ∧ z5.toInt < W'.2 q) last (fun K4 hK => ⟨fun c1 => by rw [s3] at s0; omega, fun c1 => ⟨m3, grow_in h3 ho hr (by rw [s3]; exact hz) (by omega) (fun b eb wb => absurd (by rw [e.1] at eb; rw [Option.some.inj eb]; exact wb) e.2) (fun q W' κ' x hV f p => hK (some q) κ' ⟨q, W', rfl, x, hV, f, p.1, p.2.1, p.2.2.1, by rw [e5]; exact p.2.2.2⟩)⟩⟩)
  · obtain ⟨g1, g2, g3⟩ := lr.2 b eb wb
    refine ⟨W.2 b, AL.of h3 (e4.trans eb) wb (by omega) lk.2.2.1 (by rw [lk.2.1]; decide), fun y1 ey1 => ?_⟩
    have hy1 := nI_ln ey1 (by omega)
    refine jc_in (fun (x2 : Option Nat) (κ4 : CS) => ∃ (q : Nat) (W' : CW), x2 = some q ∧ WX W W' κ3 ∧ CV G E W' (c - 102) κ4 ∧ CF [(r, 0), (r, 1), (r, 2), (r + 10, 0)] W κ3 κ4 ∧ W'.1 q = r + 10 ∧ sP κ4.1 o 1 = some q ∧ sI κ4.1 o 2 = sI κ3.1 o 2 ∧ z5.toInt < W'.2 q) last (fun K4 hK => ⟨fun c1 => hK z4 κ3 ⟨b, W, e4.trans eb, WX.rf, h3.dn (by omega), CF.rf, wb, eb, rfl, by rw [s3] at g1; omega⟩, fun c1 => ⟨m3, grow_in h3 ho hr (by rw [s3]; exact hz) (by omega) (fun b' eb' wb' => by rw [eb] at eb'; rw [← Option.some.inj eb', s3]; omega) (fun q W' κ' x hV f p => hK (some q) κ' ⟨q, W', rfl, x, hV, f, p.1, p.2.1, p.2.2.1, by rw [e5]; exact p.2.2.2⟩)⟩⟩)
end R9L

/-! the class: what is taken out of a list -/
section R9G
variable {G : GE} {E : CE} {W W' : CW} {κ κ' κ2 : CS} {M M2 : List (Nat × Nat)} {a b k r t o : Nat} {c : Int}
/-- a list's own cells change: it is a list again, with no more than before -/
theorem CV.lst {d : Nat} (h : CV G E W c κ) (ho : W.1 o = r) (hr : 40 ≤ r ∧ r < 45) (he : sP κ.1 o 1 = some b) (hb : W.1 b = r + 10) (hL : ∀ x ∈ sL κ.1, x ∈ sL κ'.1 ∧ sK κ'.1 x = sK κ.1 x ∧ sN κ'.1 x = sN κ.1 x) (hI : ∀ x i, ¬ (x = o ∧ (i = 0 ∨ i = 2)) → sI κ'.1 x i = sI κ.1 x i) (hP : ∀ x i, x ≠ b → sP κ'.1 x i = sP κ.1 x i) (hz : 0 ≤ (sI κ'.1 o 2).toInt ∧ (sI κ'.1 o 2).toInt ≤ (sI κ.1 o 2).toInt) (hel : ∀ i, i < W.2 b → sP κ'.1 b i = none ∨ ∃ y, sP κ'.1 b i = some y ∧ W.1 y = elC r) (hnn : ∀ i : Nat, (i : Int) < (sI κ'.1 o 2).toInt → sP κ'.1 b i ≠ none) (hd : r = 44 → d + 400 * (sI κ'.1 o 2).toInt.toNat ≤ 400 * (sI κ.1 o 2).toInt.toNat) (hd2 : r ≠ 44 → d = 0) (e2 : κ'.2 = κ.2) : CV G E W (c + d) κ' := by
  obtain ⟨h1, h2, h3, h6, h7, hm, h8⟩ := h
  have lk := ls_k hr
  have ob : isOb r = true := by rcases ls_c hr with rfl | rfl | rfl | rfl | rfl <;> rfl
  have rb : isOb (r + 10) = false := lk.2.2.1
  have nb : ∀ x, isOb (W.1 x) = true → x ≠ b := fun x hx e => by
    rw [e, hb, rb] at hx
    cases hx
  have lr := h6 o r ho hr.1 hr.2
  have lr2 := lr.2 b he hb
  have sz0 : 0 ≤ (sI κ.1 o 2).toInt ∧ (sI κ.1 o 2).toInt ≤ 100 := by rcases ls_c hr with rfl | rfl | rfl | rfl | rfl <;> exact h1.iv ho (by decide) rfl 2 0 100 rfl rfl
  refine ⟨fun x hx => ?_, fun x hx y hy => ?_, fun x hx y hy => ?_, fun l q hl g1 g2 => ?_, h7, (hL _ hm).1, ?_⟩
  · obtain ⟨g1, g2, g3⟩ := h1 x hx
    have k1 := hL x g1.1
    refine ⟨⟨k1.1, k1.2.1.trans g1.2⟩, fun q => by rw [k1.2.2]; exact g2 q, fun i hi => ?_⟩
    refine ⟨?_, ?_⟩
    · by_cases q : x = o ∧ (i = 0 ∨ i = 2)
      · obtain ⟨e, q⟩ := q
        subst e
        rw [ho]
        unfold ixC
        rw [ob]
        rcases q with rfl | rfl
        · have := i_range (sI κ'.1 x 0)
          rcases ls_c hr with rfl | rfl | rfl | rfl | rfl <;> exact this
        · have : 0 ≤ (sI κ'.1 x 2).toInt ∧ (sI κ'.1 x 2).toInt ≤ 100 := by omega
          rcases ls_c hr with rfl | rfl | rfl | rfl | rfl <;> exact this
      · rw [hI x i q]
        exact (g3 i hi).1
    · by_cases q : x = b
      · subst q
        rw [hb]
        unfold ixC
        rw [rb]
        show RV G W _ (tgC (r + 10) 0)
        rw [lk.2.2.2.1]
        rcases hel i (hi (by rw [hb]; exact rb)) with e | ⟨y, e, g⟩
        · exact Or.inr (Or.inl ⟨rfl, e⟩)
        · exact Or.inr (Or.inr (Or.inr ⟨y, e, g⟩))
      · rw [hP x i q]
        exact (g3 i hi).2
  · rw [hP x 0 (nb x (rw_ob hx))] at hy
    rw [hI x 1 (fun q => by rcases q.2 with e | e <;> omega)]
    exact h2 x hx y hy
  · rw [hP x 13 (nb x (by rw [hx]; rfl))] at hy
    rw [hI x 12 (fun q => by rcases q.2 with e | e <;> omega)]
    exact h3 x hx y hy
  · have obl : isOb q = true := by rcases ls_c ⟨g1, g2⟩ with rfl | rfl | rfl | rfl | rfl <;> rfl
    rw [hP l 1 (nb l (by rw [hl]; exact obl))]
    by_cases e : l = o
    · subst e
      have : q = r := hl.symm.trans ho
      subst this
      refine ⟨fun x xw => ?_, fun x hx hw => ?_⟩
      · rw [he] at x
        have : b = G.1 := Option.some.inj x
        rw [this] at hb
        exact absurd hb xw
      · rw [he] at hx
        have : b = x := Option.some.inj hx
        subst this
        exact ⟨by omega, lr2.2.1, hnn⟩
    · rw [hI l 2 (fun x => e x.1)]
      obtain ⟨p1, p2⟩ := h6 l q hl g1 g2
      refine ⟨p1, fun x hx hw => ?_⟩
      obtain ⟨q1, q2, q3⟩ := p2 x hx hw
      refine ⟨q1, q2, fun i hi => ?_⟩
      have : x ≠ b := fun e' => by
        rw [e', hb] at hw
        have : q = r := by omega
        exact e (h7.2.2.2.1 l o (by rw [hl, ho, this]) (by rw [hl]; exact g1) (by rw [hl]; exact g2))
      rw [hP x i this]
      exact q3 i hi
  · have p1 : sm (fun x => dcR (W.1 x) * (cpR (W.1 x) - lnF W κ'.1 x 0)) E.1 = sm (fun x => dcR (W.1 x) * (cpR (W.1 x) - lnF W κ.1 x 0)) E.1 := sm_ev _ (fun x hx => by
      have := lnF_eq (W := W) (a := x) (k := 0) (σ := κ.1) (σ' := κ'.1) (hP x 0 (nb x (rw_ob (h7.2.2.2.2.2.1 x hx))))
      rw [this])
    have p2 : sm (fun x => nP (lnF W κ'.1 x 13)) E.2.1 = sm (fun x => nP (lnF W κ.1 x 13)) E.2.1 := sm_ev _ (fun x hx => by
      have := lnF_eq (W := W) (a := x) (k := 13) (σ := κ.1) (σ' := κ'.1) (hP x 13 (nb x (by rw [h7.2.2.2.2.2.2 x hx]; rfl)))
      rw [this])
    unfold pot at h8 ⊢
    rw [p1, p2, e2]
    by_cases e : r = 44
    · have eo : E.2.2 = o := (h7.2.2.2.2.1.2 o (by rw [ho, e])).symm
      have := hd e
      rw [eo] at h8 ⊢
      omega
    · have := hd2 e
      rw [hI E.2.2 2 (fun q => by have w := h7.2.2.2.2.1.1; rw [q.1, ho] at w; omega)]
      omega
theorem CF.lst (ho : W.1 o = r) (hr : 40 ≤ r ∧ r < 45) (hb : W.1 b = r + 10) (hL : ∀ x ∈ sL κ.1, x ∈ sL κ'.1 ∧ sK κ'.1 x = sK κ.1 x ∧ sN κ'.1 x = sN κ.1 x) (hI : ∀ x i, ¬ (x = o ∧ (i = 0 ∨ i = 2)) → sI κ'.1 x i = sI κ.1 x i) (hJ : ∀ x i, sJ κ'.1 x i = sJ κ.1 x i) (hP : ∀ x i, x ≠ b → sP κ'.1 x i = sP κ.1 x i) : CF [(r, 0), (r, 2), (r + 10, 0)] W κ κ' := by
  have lk := ls_k hr
  have ob : isOb r = true := by rcases ls_c hr with rfl | rfl | rfl | rfl | rfl <;> rfl
  refine ⟨fun x hx i hi => ⟨hI x i (fun q => hi ?_), hJ x i, hP x i (fun q => hi ?_)⟩, fun x hx => ⟨hL x hx, fun e i => ⟨hI x i (fun q => ?_), hJ x i, hP x i (fun q => ?_)⟩⟩⟩
  · obtain ⟨e, q⟩ := q
    subst e
    rw [ho]
    unfold ixC
    rw [ob]
    rcases q with rfl | rfl <;> simp
  · subst q
    rw [hb]
    unfold ixC
    rw [lk.2.2.1]
    simp
  · rw [q.1, ho] at e
    omega
  · rw [q, hb] at e
    omega
theorem t_Jx4a65c_remove_915e3 (h : CV G E W c κ) (o : Nat) (ho : W.1 o = r) (hr : 40 ≤ r ∧ r < 45) (i : Int32) (hi : 0 ≤ i.toInt ∧ i.toInt < (sI κ.1 o 2).toInt) {post : Option Nat → CS → Prop} (kk : ∀ (z : Option Nat) (κ' : CS), CV G E W c κ' → CF [(r, 0), (r, 2), (r + 10, 0)] W κ κ' → ((sI κ'.1 o 2).toInt = (sI κ.1 o 2).toInt - 1 ∧ (r = 44 → CV G E W (c + 400) κ')) → post z κ') : F_Jx4a65c_remove_915e3 G o i post κ := by
  unfold F_Jx4a65c_remove_915e3 F_J15_checkIndex_7cf53 F_J3_checkIndex_8e157 F_Jx4a65c_fastRemove_b59b0
  have lk := ls_k hr
  have m := h.mm ho (by omega) lk.1
  have lr := h.2.2.2.1 o r ho hr.1 hr.2
  have sz := h.lsz ho hr
  refine ⟨m, fun z1 e1 => jc_dup ⟨fun q => by omega, fun _ => ⟨fun _ => ⟨m, fun z4 e4 => ?_⟩, fun q => by rw [e1] at q; omega⟩⟩⟩
  rcases h.lel ho hr with e | ⟨b, e, hb⟩
  · have := lr.1 e.1 e.2
    omega
  · obtain ⟨g1, g2, g3⟩ := lr.2 b e hb
    have mb := h.mm hb (by omega) lk.2.1
    have lb := h.ln hb (by omega) lk.2.2.1
    have eb : z4 = some b := e4.trans e
    have nbo : b ≠ o := fun q => by rw [q, ho] at hb; omega
    refine ⟨b, eb, ⟨mb.1, by rw [mb.2]; decide, by rw [mb.2]; decide⟩, ⟨hi.1, by rw [lb]; omega⟩, fun z5 e5 => ⟨m, m, fun y1 ey1 y2 ey2 => ⟨m, fun κ3 k3 => ?_⟩⟩⟩
    have el : ∀ j, j < W.2 b → sP κ.1 b j = none ∨ ∃ y, sP κ.1 b j = some y ∧ W.1 y = elC r := fun j hj => by
      have rv := (h.1.el hb (by omega) lk.2.2.1 j hj).2
      rw [lk.2.2.2.1] at rv
      rcases rv with q | q | q | q
      · exact absurd q lk.2.2.2.2
      · exact Or.inl q.2
      · exact absurd (show (1 : Nat) = 2 from q.1) (by decide)
      · exact Or.inr q
    have m3 : o ∈ sL κ3.1 ∧ sK κ3.1 o = 7 := by rw [k3]; exact m
    have mb3 : b ∈ sL κ3.1 ∧ sK κ3.1 b = 27 := by rw [k3]; exact mb
    have s3 : sI κ3.1 o 2 = sI κ.1 o 2 := by rw [k3]; exact u2_pl (by decide)
    have p3 : sP κ3.1 = sP κ.1 := by rw [k3]; rfl
    have n3 : sN κ3.1 b = W.2 b := by rw [k3]; exact lb
    refine ⟨m3, fun z4' e4' z5' e5' => ?_⟩
    have k1 : (1 : Int32).toInt = 1 := rfl
    have hz4 : z4'.toInt = (sI κ.1 o 2).toInt := by rw [e4', s3]
    have hz5 := i_sub e5' (by omega) (by omega)
    -- what both ways end with
    have fin : ∀ κ7 : CS, sL κ7.1 = sL κ.1 → sK κ7.1 = sK κ.1 → sN κ7.1 = sN κ.1 → sI κ7.1 = sI κ3.1 → sJ κ7.1 = sJ κ.1 → (∀ x j, x ≠ b → sP κ7.1 x j = sP κ.1 x j) → (∀ j, j < W.2 b → sP κ7.1 b j = none ∨ ∃ y, sP κ7.1 b j = some y ∧ W.1 y = elC r) → (∀ j : Nat, (j : Int) < z5'.toInt → sP κ7.1 b j ≠ none) → κ7.2 = κ.2 →
        ((o ∈ sL κ7.1 ∧ sK κ7.1 o = 7) ∧ ∀ κ11 : CS, κ11 = (h_uI κ7.1 o 2 z5', κ7.2) → ∃ b' : Nat, z4 = some b' ∧ (b' ∈ sL κ11.1 ∧ 24 ≤ sK κ11.1 b' ∧ sK κ11.1 b' < 28) ∧ (0 ≤ z5'.toInt ∧ z5'.toInt < (sN κ11.1 b' : Int)) ∧ ((none : Option Nat) = none ∨ ∃ e : Nat, (none : Option Nat) = some e ∧ e ∈ sL κ11.1 ∧ stOk (sK κ11.1 b') (sK κ11.1 e) = true) ∧ ∀ κ12 : CS, κ12 = (h_uP κ11.1 b' z5'.toInt.toNat (none : Option Nat), κ11.2) → post z5 κ12) := by
      intro κ7 hL7 hK7 hN7 hI7 hJ7 hP7 hel7 hnn7 h27
      refine ⟨by rw [hL7, hK7]; exact m, fun κ11 k11 => ⟨b, eb, ?_, ?_, Or.inl rfl, fun κ12 k12 => ?_⟩⟩
      · rw [k11]
        show b ∈ sL κ7.1 ∧ 24 ≤ sK κ7.1 b ∧ sK κ7.1 b < 28
        rw [hL7, hK7]
        exact ⟨mb.1, by rw [mb.2]; decide, by rw [mb.2]; decide⟩
      · rw [k11]
        show 0 ≤ z5'.toInt ∧ z5'.toInt < (sN κ7.1 b : Int)
        rw [hN7, lb]
        omega
      · have hL : ∀ x ∈ sL κ.1, x ∈ sL κ12.1 ∧ sK κ12.1 x = sK κ.1 x ∧ sN κ12.1 x = sN κ.1 x := fun x hx => by
          rw [k12, k11]
          show x ∈ sL κ7.1 ∧ sK κ7.1 x = _ ∧ sN κ7.1 x = _
          rw [hL7, hK7, hN7]
          exact ⟨hx, rfl, rfl⟩
        have hI : ∀ x j, ¬ (x = o ∧ (j = 0 ∨ j = 2)) → sI κ12.1 x j = sI κ.1 x j := fun x j q => by
          rw [k12, k11]
          show u2 (sI κ7.1) o 2 z5' x j = _
          by_cases e : x = o
          · rw [u2_pl (fun e' => q ⟨e, Or.inr e'⟩), hI7, k3]
            exact u2_pl (fun e' => q ⟨e, Or.inl e'⟩)
          · rw [u2_addr e, hI7, k3]
            exact u2_addr e
        have hJ : ∀ x j, sJ κ12.1 x j = sJ κ.1 x j := fun x j => by
          rw [k12, k11]
          show sJ κ7.1 x j = _
          rw [hJ7]
        have hP : ∀ x j, x ≠ b → sP κ12.1 x j = sP κ.1 x j := fun x j q => by
          rw [k12, k11]
          show u2 (sP κ7.1) b z5'.toInt.toNat none x j = _
          rw [u2_addr q]
          exact hP7 x j q
        have hsz : (sI κ12.1 o 2).toInt = z5'.toInt := by
          rw [k12, k11]
          exact congrArg Int32.toInt u2_same
        have pb : ∀ j, sP κ12.1 b j = if j = z5'.toInt.toNat then none else sP κ7.1 b j := fun j => by
          rw [k12, k11]
          show u2 (sP κ7.1) b z5'.toInt.toNat none b j = _
          by_cases e : j = z5'.toInt.toNat
          · rw [e, u2_same, if_pos rfl]
          · rw [u2_pl e, if_neg e]
        have hel : ∀ j, j < W.2 b → sP κ12.1 b j = none ∨ ∃ y, sP κ12.1 b j = some y ∧ W.1 y = elC r := fun j hj => by
          rw [pb j]
          split
          · exact Or.inl rfl
          · exact hel7 j hj
        have hnn : ∀ j : Nat, (j : Int) < (sI κ12.1 o 2).toInt → sP κ12.1 b j ≠ none := fun j hj => by
          rw [hsz] at hj
          rw [pb j, if_neg (by omega)]
          exact hnn7 j hj
        have e2 : κ12.2 = κ.2 := by
          rw [k12, k11]
          exact h27
        have cv := fun d hd1 hd2 => h.lst (d := d) ho hr e hb hL hI hP (by omega) hel hnn hd1 hd2 e2
        exact kk z5 κ12 ((cv 0 (fun _ => by omega) (fun _ => rfl)).dn (by omega)) (CF.lst ho hr hb hL hI hJ hP) ⟨by omega, fun q => cv 400 (fun _ => by omega) (fun q2 => absurd q q2)⟩
    refine jc_dup ⟨fun c1 => ?_, fun c1 z13 e13 z14 e14 => ?_⟩
    · refine fin κ3 (by rw [k3]; rfl) (by rw [k3]; rfl) (by rw [k3]; rfl) rfl (by rw [k3]; rfl) (fun x j _ => by rw [p3]) (fun j hj => by rw [p3]; exact el j hj) (fun j hj => by rw [p3]; exact g3 j (by omega)) (by rw [k3])
    · have hz13 := i_add e13 (by omega) (by omega)
      have hz14 := i_sub e14 (by omega) (by omega)
      refine ⟨b, eb, b, eb, mb3, mb3, ⟨by omega, by omega, by omega, by rw [n3]; omega, by rw [n3]; omega⟩, ⟨elC r, ?_, fun j hj y hy => ?_⟩, fun κ15 k15 => ?_⟩
      · rcases ls_c hr with rfl | rfl | rfl | rfl | rfl <;> decide
      · rw [p3] at hy
        rcases el (z13.toInt.toNat + j) (by omega) with q | ⟨y', q, q2⟩
        · rw [q] at hy
          cases hy
        · rw [q] at hy
          cases hy
          have := h.mm q2 lk.2.2.2.2 rfl
          rw [k3]
          refine ⟨this.1, this.2.trans ?_⟩
          rcases ls_c hr with rfl | rfl | rfl | rfl | rfl <;> rfl
      · have pq : sP κ15.1 b = va_cpy (sP κ.1 b) (sP κ.1 b) z13.toInt.toNat i.toInt.toNat z14.toInt.toNat := by
          rw [k15]
          show va_up (sP κ3.1) b _ b = _
          rw [va_up_self, p3]
        refine fin κ15 (by rw [k15, k3]; rfl) (by rw [k15, k3]; rfl) (by rw [k15, k3]; rfl) (by rw [k15]; rfl) (by rw [k15, k3]; rfl) (fun x j q => ?_) (fun j hj => ?_) (fun j hj => ?_) (by rw [k15, k3])
        · rw [k15]
          show va_up (sP κ3.1) b _ x j = _
          rw [va_up_ne _ _ q, p3]
        · rw [pq]
          unfold va_cpy
          split
          · exact el _ (by omega)
          · exact el j hj
        · rw [pq]
          unfold va_cpy
          split
          · exact g3 _ (by omega)
          · exact g3 j (by omega)
end R9G

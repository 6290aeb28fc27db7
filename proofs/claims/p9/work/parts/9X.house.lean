/-! the class: a new house -/
set_option maxRecDepth 100000 in
set_option maxHeartbeats 4000000 in
theorem t_J7_fill_53178 {G : GE} {E : CE} {W : CW} {c : Int} {κ : CS} (hV : CV G E W c κ) (a0 : Option Nat) (b_a0 : Nat) (e_a0 : a0 = some b_a0) (hs_a0 : W.1 b_a0 = 34) (a1 : Int32)  {post : CS → Prop} (kk : ∀ (κ' : CS), CV G E W c κ' → CF [(34, 0)] W κ κ' → (True) → post κ') : F_J7_fill_53178 G a0 a1 post κ := by
  unfold F_J7_fill_53178
  have hfr : CF [(34, 0)] W κ κ := CF.rf
  have k_0 : (0 : Int32).toInt = 0 := rfl
  have k_1 : (1 : Int32).toInt = 1 := rfl
  have kl_1 : (1 : Int64).toInt = 1 := rfl
  have rg_a1 := i_range a1
  refine ⟨(W.2 b_a0), (AL.of hV e_a0 hs_a0 (by decide) rfl (by decide)), ?_⟩
  intro z1 ez1
  have lnz1 := nI_ln ez1 (hV.lm hs_a0 (by decide) rfl)
  have lmz1 := (hV.lm hs_a0 (by decide) rfl)
  have lxz1 := hV.1.fx hs_a0 (by decide) rfl 4 rfl (by decide)
  refine lc_in (fun (x : Int32) (κ' : CS) => CV G E W c κ' ∧ CF [(34, 0)] W κ κ' ∧ (((0 ≤ x.toInt)))) (fun (x : Int32) (κ' : CS) => (2147483647 - x.toInt).toNat) ⟨hV, hfr, (by (try dsimp only); omega)⟩ (fun x2 κ3 hJ K4 hK4 => ?_)
  obtain ⟨hV, hfr, hv⟩ := hJ
  (try dsimp only at hv)
  have rg_x2 := i_range x2
  refine ⟨fun c1 => ?_, fun c1 => ?_⟩
  · exact kk κ3 hV hfr trivial
  · have ln_ := hV.ln hs_a0 (by decide) rfl
    have lx_ := hV.1.fx hs_a0 (by decide) rfl 4 rfl (by decide)
    refine ⟨b_a0, e_a0, (hV.mm hs_a0 (by decide) rfl), by omega, ?_⟩
    intro κ6 eκ6
    have hV := hV.uI (k := x2.toInt.toNat) (v := a1) hs_a0 (Or.inl rfl) (Or.inl (by decide)) (Or.inl (by decide)) (fun _ => (by have q := i_range a1; exact q)) eκ6
    have hfr := hfr.uI (k := x2.toInt.toNat) hs_a0 (by decide) (show ((34, 0) : Nat × Nat) ∈ ([(34, 0)] : List (Nat × Nat)) by decide) eκ6
    intro z7 ez7
    try have hz7 := i_add ez7 (by omega) (by omega)
    have rg_z7 := i_range z7
    exact hK4 z7 κ6 ⟨hV, hfr, (by (try dsimp only); omega)⟩ (by (try dsimp only); omega)
section R9X
variable {G : GE} {E E' : CE} {W W' : CW} {κ κ' κ2 : CS} {q r rr n b h k t o : Nat} {c c' : Int} {D D2 R R' : List Nat} {A : List (Nat × Nat × Nat × Nat)}
/-- a house that is being made: D what must still be put, R which roles there are, A rows of rows that are still empty -/
def BK (G : GE) (E : CE) (W : CW) (c : Int) (κ : CS) (h : Nat) (D R : List Nat) (A : List (Nat × Nat × Nat × Nat)) : Prop := CV G E W c κ ∧ HO G W κ h 1 D ∧ RS R W ∧ ZL W κ ∧ ∀ x ∈ A, sP κ.1 h x.1 = some x.2.1 ∧ x.2.1 ≠ h ∧ x.2.1 ≠ E.2.2 ∧ PA W κ x.2.1 x.2.2.1 x.2.2.2 0 3
theorem BK.put (hB : BK G E W c κ h D R A) (x : WX W W' κ) (hV : CV G E' W' c' κ') (f : CF [] W κ κ') (hw : W'.1 o = rr) (ht : tgC 1 k = (rr, 0)) (hR : RS R' W') (hz : ZL W' κ') (hk : ∀ y ∈ A, y.1 ≠ k) (hE : ∀ y ∈ A, y.2.1 ≠ E'.2.2) (hD : ∀ x ∈ D, x = k ∨ x ∈ D2) (e : κ2 = (h_uP κ'.1 h k (some o), κ'.2)) : BK G E' W' c' κ2 h D2 R' A := by
  obtain ⟨h1, h2, h3, h4, h5⟩ := hB
  have ho := h2.fr f x
  refine ⟨hV.uP1 ho.1 e, ho.uP (k := k) (v := some o) (by rw [ht]; exact Or.inr (Or.inr (Or.inr ⟨o, rfl, hw⟩))) hD e, hR, by rw [e]; exact hz, fun y hy => ?_⟩
  obtain ⟨g1, g2, g3, g4⟩ := h5 y hy
  have pa := g4.fr f x (by decide)
  refine ⟨?_, g2, hE y hy, ?_⟩
  · rw [e]
    show u2 (sP κ'.1) h k (some o) h y.1 = _
    rw [u2_pl (hk y hy)]
    exact ((f.2 h h2.2.1.1).2 h2.1 y.1).2.2.trans g1
  · rw [e]
    exact ⟨pa.1, pa.2.1, pa.2.2.1, fun k hk => absurd hk (Nat.not_lt_zero k)⟩
theorem b_row (hB : BK G E W c κ h D R A) (k rr cc : Nat) (hr : isRw rr = true) (ht : tgC 1 k = (rr, 0)) (hR : ∀ x ∈ [20, rr], x ∈ R) (hk : ∀ y ∈ A, y.1 ≠ k) (hD : ∀ x ∈ D, x = k ∨ x ∈ D2) (hcc : 90 + dcR rr * (cpR rr - 64) = cc) (hc : (cc : Int) ≤ c) {post : CS → Prop} (kk : ∀ (E' : CE) (W' : CW) (κ6 : CS), E'.2.2 = E.2.2 → BK G E' W' (c - cc) κ6 h D2 R A → post κ6) : (2 + 12 ≤ κ.2) ∧ ∀ o : Nat, o ∉ sL κ.1 → ∀ κ3 : CS, κ3 = (h_uN κ.1 o 2 0, κ.2 - (2 + 12)) → F_X6_init G o (fun (κ4 : CS) => (h ∈ sL κ4.1 ∧ sK κ4.1 h = 1) ∧ ∀ κ6 : CS, κ6 = (h_uP κ4.1 h k (some o), κ4.2) → post κ6) κ3 := by
  subst hcc
  exact i_row (post := fun o κ4 => (h ∈ sL κ4.1 ∧ sK κ4.1 h = 1) ∧ ∀ κ6 : CS, κ6 = (h_uP κ4.1 h k (some o), κ4.2) → post κ6) hB.1 hr hc (fun o E1 W1 κ4 ho eE x hV f w z nw => ⟨(hB.2.1.fr f x).2.1, fun κ6 e6 => kk E1 W1 κ6 eE (hB.put x hV f w ht (hB.2.2.1.nw nw hR) (z hB.2.2.2.1) hk (fun y hy => by rw [eE]; exact (hB.2.2.2.2 y hy).2.2.1) hD e6)⟩)
theorem b_vol (hB : BK G E W c κ h D R A) (k : Nat) (ht : tgC 1 k = (6, 0)) (hR : ∀ x ∈ [5, 20, 26, 30, 6], x ∈ R) (hk : ∀ y ∈ A, y.1 ≠ k) (hD : ∀ x ∈ D, x = k ∨ x ∈ D2) (hc : 828106 ≤ c) {post : CS → Prop} (kk : ∀ (E' : CE) (W' : CW) (κ6 : CS), E'.2.2 = E.2.2 → BK G E' W' (c - 828106) κ6 h D2 R A → post κ6) : (2 + 12 ≤ κ.2) ∧ ∀ o : Nat, o ∉ sL κ.1 → ∀ κ3 : CS, κ3 = (h_uN κ.1 o 6 0, κ.2 - (2 + 12)) → F_X9_init G o (fun (κ4 : CS) => (h ∈ sL κ4.1 ∧ sK κ4.1 h = 1) ∧ ∀ κ6 : CS, κ6 = (h_uP κ4.1 h k (some o), κ4.2) → post κ6) κ3 := by
  have hbd := hB.1.bud
  refine ⟨by omega, fun o ho κ3 e3 => ?_⟩
  have hV3 := hB.1.newO ho (by omega) e3
  have f3 : CF [] W κ κ3 := CF.rf.uN hB.1.1 ho e3
  have p3 : PO G E W κ3 o 6 [0] := PO.new hB.1 ho e3 rfl (by decide)
  refine i_X9 hV3 o p3 (by omega) (fun E1 W1 κ4 eE x hV c4 hoo nw => ?_)
  obtain ⟨W2, xa, hV2, wo⟩ := hV.addO (hoo.po (E := E1) (by rw [eE]; exact p3.2.2.1)) (by decide)
  have f4 : CF [] W κ κ4 := CF.trX f3 WX.rf ho p3.1 c4 (fun y hy => hy)
  have x2 : WX W W2 κ := WX.add ⟨x.1, fun a ha e => x.2 a (f3.sl a ha) e⟩ ho xa
  have nw2 : NWR [5, 20, 26, 30, 6] W W2 := fun a => by
    by_cases e : a = o
    · rw [e, wo]
      exact Or.inr (by simp)
    · rw [xa.2 a e]
      exact (nw.up (by decide)) a
  exact ⟨(hB.2.1.fr f4 x2).2.1, fun κ6 e6 => kk E1 W2 κ6 eE (hB.put x2 (hV2.dn (by omega)) f4 wo ht (hB.2.2.1.nw nw2 hR) (hB.2.2.2.1.nr f4 x2 nw2 (by decide)) hk (fun y hy => by rw [eE]; exact (hB.2.2.2.2 y hy).2.2.1) hD e6)⟩
theorem b_list (hB : BK G E W c κ h D R A) (k r : Nat) (hr : 40 ≤ r ∧ r < 45) (ht : tgC 1 k = (r, 0)) (hn : ∀ x ∈ R, ¬ (40 ≤ x ∧ x < 55) ∨ (x < 44 ∧ x ≠ r)) (hk : ∀ y ∈ A, y.1 ≠ k) (hD : ∀ x ∈ D, x = k ∨ x ∈ D2) (hc : 15 ≤ c) {post : CS → Prop} (kk : ∀ (E' : CE) (W' : CW) (κ6 : CS), (r = 44 → E'.2.2 ≠ h) → BK G E' W' (c - 15) κ6 h D2 (r :: R) A → post κ6) : (3 + 12 ≤ κ.2) ∧ ∀ o : Nat, o ∉ sL κ.1 → ∀ κ3 : CS, κ3 = (h_uN κ.1 o 7 0, κ.2 - (3 + 12)) → F_Jx4a65c_init_da8c8 G o (fun (κ4 : CS) => (h ∈ sL κ4.1 ∧ sK κ4.1 h = 1) ∧ ∀ κ6 : CS, κ6 = (h_uP κ4.1 h k (some o), κ4.2) → post κ6) κ3 := by
  have hbd := hB.1.bud
  refine ⟨by omega, fun o ho κ3 e3 => ?_⟩
  have hV3 := hB.1.newO ho (by omega) e3
  have f3 : CF [] W κ κ3 := CF.rf.uN hB.1.1 ho e3
  have lk := ls_k hr
  have p3 : PO G E W κ3 o r [1] := PO.new hB.1 ho e3 lk.1 (by rcases ls_c hr with rfl | rfl | rfl | rfl | rfl <;> decide)
  have m3 := p3.2.1
  rw [lk.1] at m3
  unfold F_Jx4a65c_init_da8c8 F_Jxc12de_init_da8c8 F_Jxa1e45_init_da8c8
  refine ⟨m3, fun κ4 e4 => ?_⟩
  have p4 := p3.uI (k := 0) (v := 0) (by rcases ls_c hr with rfl | rfl | rfl | rfl | rfl <;> decide) e4
  have hV4 := hV3.uI0 p3 e4
  have m4 := p4.2.1
  rw [lk.1] at m4
  refine ⟨m4, fun κ5 e5 => ?_⟩
  have p5 := p4.uP (k := 1) (v := some G.1) (D2 := []) (by rcases ls_c hr with rfl | rfl | rfl | rfl | rfl <;> exact Or.inr (Or.inr (Or.inl ⟨rfl, rfl⟩))) (by decide) e5
  have hV5 := hV4.uP0 p4 e5
  have s5 : sP κ5.1 o 1 = some G.1 := by
    rw [e5]
    exact u2_same
  have i5 : (sI κ5.1 o 2).toInt = 0 := by
    rw [e5]
    show (sI κ4.1 o 2).toInt = 0
    rw [e4]
    show (u2 (sI κ3.1) o 0 0 o 2).toInt = 0
    rw [u2_pl (by decide), e3]
    show (va_up (sI κ.1) o (fun _ => 0) o 2).toInt = 0
    rw [va_up_self]
    rfl
  have f5 : CF [] W κ κ5 := CF.trX f3 WX.rf ho p3.1 ((CFx.rf.pI p3.1 e4).pP p3.1 e5) (fun y hy => hy)
  have nr : ∀ x ∈ [r], isRw x = false := fun x hx => by
    have : x = r := by simpa using hx
    rw [this]
    rcases ls_c hr with rfl | rfl | rfl | rfl | rfl <;> rfl
  have hVL : ∃ E' : CE, CV G E' (upW W o r 0) (c - 15) κ5 ∧ (∀ y ∈ A, y.2.1 ≠ E'.2.2) ∧ (r = 44 → E'.2.2 ≠ h) := by
    by_cases e : r = 44
    · exact ⟨(E.1, E.2.1, o), (hV5.addL (E' := (E.1, E.2.1, o)) p5 hr hB.2.2.1 hn s5 i5 (fun _ => rfl) (fun q => absurd e q) rfl rfl).dn (by omega), fun y hy e => ho (by rw [← show y.2.1 = o from e]; exact (hB.2.2.2.2 y hy).2.2.2.2.1.1), fun _ e => ho (by rw [show o = h from e]; exact hB.2.1.2.1.1)⟩
    · exact ⟨E, (hV5.addL (E' := E) p5 hr hB.2.2.1 hn s5 i5 (fun q => absurd q e) (fun _ => rfl) rfl rfl).dn (by omega), fun y hy => (hB.2.2.2.2 y hy).2.2.1, fun q => absurd q e⟩
  obtain ⟨E1, hV6, hE1, hE44⟩ := hVL
  have x5 : WX W (upW W o r 0) κ := WX.rf.add ho ⟨upW_le p3.1, fun a ha => if_neg ha⟩
  have nw : NWR [r] W (upW W o r 0) := NWR.one (by simp)
  exact ⟨(hB.2.1.fr f5 x5).2.1, fun κ6 e6 => kk E1 _ κ6 hE44 (hB.put x5 hV6 f5 upW_at ht (fun a => by
    rcases nw a with g | g
    · rw [g]
      exact (hB.2.2.1 a).imp id (fun q => List.mem_cons_of_mem _ q)
    · exact Or.inr (by rw [show (upW W o r 0).1 a = r by simpa using g]; exact List.mem_cons_self)) (hB.2.2.2.1.nr f5 x5 nw nr) hk hE1 hD e6)⟩
theorem b_arr (hB : BK G E W c κ h D R A) (k t rr : Nat) (hr : (rr = 34 ∧ t = 21) ∨ (rr = 33 ∧ t = 22)) (ht : tgC 1 k = (rr, 0)) (hR : rr ∈ R) (hk : ∀ y ∈ A, y.1 ≠ k) (hD : ∀ x ∈ D, x = k ∨ x ∈ D2) (hc : 16 ≤ c) {post : CS → Prop} (kk : ∀ (W' : CW) (κ6 : CS), BK G E W' (c - 16) κ6 h D2 R A → post κ6) : (0 ≤ (4 : Int32).toInt ∧ (4 : Int32).toInt ≤ 1000000) ∧ ((4 : Int32).toInt.toNat + 12 ≤ κ.2) ∧ ∀ o : Nat, o ∉ sL κ.1 → ∀ κ3 : CS, κ3 = (h_uN κ.1 o t (4 : Int32).toInt.toNat, κ.2 - ((4 : Int32).toInt.toNat + 12)) → (h ∈ sL κ3.1 ∧ sK κ3.1 h = 1) ∧ ∀ κ6 : CS, κ6 = (h_uP κ3.1 h k (some o), κ3.2) → post κ6 := by
  have hbd := hB.1.bud
  refine ⟨by decide, by show 4 + 12 ≤ _; omega, fun o ho κ3 e3 => ?_⟩
  have e3' : κ3 = (h_uN κ.1 o t 4, κ.2 - (4 + 12)) := e3
  have nb : isOb rr = false ∧ kcr rr = t ∧ fxl rr = 4 ∧ ((ivC rr 0).1 ≤ 0 ∧ 0 ≤ (ivC rr 0).2) ∧ (tgC rr 0).1 = 0 ∧ isRw rr = false ∧ ¬ (50 ≤ rr ∧ rr < 55) := by
    rcases hr with ⟨rfl, rfl⟩ | ⟨rfl, rfl⟩ <;> decide
  obtain ⟨g3, x3⟩ := hB.1.newA (r := rr) (n := 4) ho (fun a b => absurd ⟨a, b⟩ nb.2.2.2.2.2.2) nb.1 nb.2.1 (Or.inr nb.2.2.1.symm) (by decide) nb.2.2.2.1 (Or.inl nb.2.2.2.2.1) (by omega) e3'
  have f3 : CF [] W κ κ3 := CF.rf.uN hB.1.1 ho e3
  have nw : NWR [rr] W (upW W o rr 4) := NWR.one (by simp)
  exact ⟨(hB.2.1.fr f3 x3).2.1, fun κ6 e6 => kk _ κ6 (hB.put x3 (g3.dn (by omega)) f3 upW_at ht (hB.2.2.1.nw nw (fun x hx => by rw [show x = rr by simpa using hx]; exact hR)) (hB.2.2.2.1.nr f3 x3 nw (fun x hx => by rw [show x = rr by simpa using hx]; exact nb.2.2.2.2.2.1)) hk (fun y hy => (hB.2.2.2.2 y hy).2.2.1) hD e6)⟩
theorem b_arrU (hB : BK G E W c κ h D R A) (k t n : Nat) (N : Int32) (hN : N.toInt = n) (hn : n ≤ 1000) (hkD : k ∈ D) (hk : ∀ y ∈ A, y.1 ≠ k) (hc : ((n + 12 : Nat) : Int) ≤ c) {post : CS → Prop} (kk : ∀ (o : Nat) (κ6 : CS), BK G E W (c - (n + 12 : Nat)) κ6 h D R ((k, o, t, n) :: A) → post κ6) : (0 ≤ N.toInt ∧ N.toInt ≤ 1000000) ∧ (N.toInt.toNat + 12 ≤ κ.2) ∧ ∀ o : Nat, o ∉ sL κ.1 → ∀ κ3 : CS, κ3 = (h_uN κ.1 o t N.toInt.toNat, κ.2 - (N.toInt.toNat + 12)) → (h ∈ sL κ3.1 ∧ sK κ3.1 h = 1) ∧ ∀ κ6 : CS, κ6 = (h_uP κ3.1 h k (some o), κ3.2) → post κ6 := by
  have hbd := hB.1.bud
  have eN : N.toInt.toNat = n := by omega
  rw [eN]
  obtain ⟨h1, h2, h3, h4, h5⟩ := hB
  refine ⟨by omega, by omega, fun o ho κ3 e3 => ?_⟩
  have hV3 := h1.newU ho (by omega) e3
  have f3 : CF [] W κ κ3 := CF.rf.uN h1.1 ho e3
  have ho3 := h2.fr f3 WX.rf
  have w0 := h1.1.fresh ho
  refine ⟨ho3.2.1, fun κ6 e6 => kk o κ6 ⟨hV3.uP1 ho3.1 e6, ho3.uD hkD e6, h3, ?_, fun y hy => ?_⟩⟩
  · have z3 : ZL W κ3 := h4.fr (M := []) f3 (fun _ _ => by simp) WLe.rf (fun a ha => Or.inl (rw_ne ha))
    rw [e6]
    exact z3
  · rcases List.mem_cons.mp hy with e | e
    · subst e
      refine ⟨by rw [e6]; exact u2_same, fun e => ho (by rw [show o = h from e]; exact h2.2.1.1), fun e => ho (by rw [show o = E.2.2 from e]; exact h1.2.2.2.2.2.1), ?_⟩
      rw [e6]
      show W.1 o = 0 ∧ (o ∈ sL κ3.1 ∧ sK κ3.1 o = t) ∧ sN κ3.1 o = n ∧ _
      rw [e3]
      exact ⟨w0, ⟨List.mem_append_right _ (List.mem_singleton.mpr rfl), va_up_self _ _ _⟩, va_up_self _ _ _, fun k hk => absurd hk (Nat.not_lt_zero k)⟩
    · obtain ⟨g1, g2, g3, g4⟩ := h5 y e
      have pa := g4.fr f3 WX.rf (by decide)
      refine ⟨?_, g2, g3, ?_⟩
      · rw [e6]
        show u2 (sP κ3.1) h k (some o) h y.1 = _
        rw [u2_pl (hk y e)]
        exact ((f3.2 h h2.2.1.1).2 h2.1 y.1).2.2.trans g1
      · rw [e6]
        exact ⟨pa.1, pa.2.1, pa.2.2.1, fun k hk => absurd hk (Nat.not_lt_zero k)⟩
theorem PA.put {a m : Nat} {v : Option Nat} (p : PA W κ q t n m r) (hne : q ≠ a) (e : κ' = (h_uP κ.1 a k v, κ.2)) : PA W κ' q t n m r := by
  subst e
  refine ⟨p.1, p.2.1, p.2.2.1, fun i hi => ?_⟩
  obtain ⟨b, e, w⟩ := p.2.2.2 i hi
  exact ⟨b, (u2_addr hne).trans e, w⟩
/-- a new house -/
theorem i_X11 (h : Nat) (hm : h ∈ sL κ.1 ∧ sK κ.1 h = 1) (hzI : sI κ.1 h = fun _ => 0) (hzP : sP κ.1 h = fun _ => none) (c : Int) (hb : 2989689 + c ≤ κ.2) (hc0 : 0 ≤ c) {post : CS → Prop} (kk : ∀ (E' : CE) (W' : CW) (κ' : CS), CV G E' W' c κ' → W'.1 h = 1 → ZL W' κ' → post κ') : F_X11_init G h post κ := by
  have k0 : (0 : Int32).toInt = 0 := rfl
  have k1 : (1 : Int32).toInt = 1 := rfl
  have B0 : BK G ([], [], h) (fun _ => 0, fun _ => 0) (2989689 + c) κ h [0, 1, 2, 3, 4, 5, 8, 9, 10, 11, 12, 13, 14, 15, 16, 17] [20, 60, 34, 5, 26, 30, 6] [] := by
    refine ⟨⟨fun a ha => absurd rfl ha, fun a ha => (by cases ha), fun a ha => (by cases ha), fun l r hl g1 g2 => ?_, ⟨rfl, fun a ha => (by cases ha), fun a ha => (by cases ha), fun a b e g1 g2 => absurd (show 40 ≤ 0 from g1) (by decide), ⟨Or.inr rfl, fun a ha => (by cases ha)⟩, fun a ha => (by cases ha), fun a ha => (by cases ha)⟩, hm.1, ?_⟩, ⟨rfl, hm, by show h ≠ h + 1; omega, fun k => ⟨by rw [hzI]; exact ivC_0, fun hk => ?_⟩⟩, fun a => Or.inl rfl, fun a ha => (by cases ha), fun x hx => (by cases hx)⟩
    · have : (0 : Nat) = r := hl
      omega
    · show ((0 + 0 + 400 * (sI κ.1 h 2).toInt.toNat : Nat) : Int) + _ ≤ _
      rw [hzI]
      show ((0 + 0 + 400 * 0 : Nat) : Int) + _ ≤ _
      omega
    · rw [hzP]
      by_cases c25 : 25 ≤ k
      · rw [tgC_big c25]
        exact Or.inl rfl
      · have : ∀ k, k < 25 → k ∉ [0, 1, 2, 3, 4, 5, 8, 9, 10, 11, 12, 13, 14, 15, 16, 17] → (tgC 1 k).1 = 0 := by decide
        exact Or.inl (this k (by omega) hk)
  unfold F_X11_init
  refine b_row B0 0 60 48090 rfl rfl (by decide) (by simp) (D2 := [1, 2, 3, 4, 5, 8, 9, 10, 11, 12, 13, 14, 15, 16, 17]) (by decide) rfl (by omega) (fun E1 W1 κ6 _ B1 => ?_)
  refine b_arrU B1 1 25 6 6 rfl (by decide) (by decide) (by simp) (by omega) (fun o7 κ9 B2 => ?_)
  refine b_arr B2 2 21 34 (Or.inl ⟨rfl, rfl⟩) rfl (by decide) (by simp) (D2 := [1, 3, 4, 5, 8, 9, 10, 11, 12, 13, 14, 15, 16, 17]) (by decide) (by omega) (fun W3 κ12 B3 => ?_)
  refine b_vol B3 3 rfl (by decide) (by simp) (D2 := [1, 4, 5, 8, 9, 10, 11, 12, 13, 14, 15, 16, 17]) (by decide) (by omega) (fun E4 W4 κ17 _ B4 => ?_)
  refine b_vol B4 4 rfl (by decide) (by simp) (D2 := [1, 5, 8, 9, 10, 11, 12, 13, 14, 15, 16, 17]) (by decide) (by omega) (fun E5 W5 κ22 _ B5 => ?_)
  refine b_arrU B5 5 24 8 8 rfl (by decide) (by decide) (by simp) (by omega) (fun o23 κ25 B6 => ?_)
  refine b_list B6 8 40 (by decide) rfl (by decide) (by simp) (D2 := [1, 5, 9, 10, 11, 12, 13, 14, 15, 16, 17]) (by decide) (by omega) (fun E7 W7 κ30 _ B7 => ?_)
  refine b_list B7 9 41 (by decide) rfl (by decide) (by simp) (D2 := [1, 5, 10, 11, 12, 13, 14, 15, 16, 17]) (by decide) (by omega) (fun E8 W8 κ35 _ B8 => ?_)
  refine b_list B8 10 42 (by decide) rfl (by decide) (by simp) (D2 := [1, 5, 11, 12, 13, 14, 15, 16, 17]) (by decide) (by omega) (fun E9 W9 κ40 _ B9 => ?_)
  refine b_list B9 11 43 (by decide) rfl (by decide) (by simp) (D2 := [1, 5, 12, 13, 14, 15, 16, 17]) (by decide) (by omega) (fun E10 W10 κ45 _ B10 => ?_)
  refine b_list B10 12 44 (by decide) rfl (by decide) (by simp) (D2 := [1, 5, 13, 14, 15, 16, 17]) (by decide) (by omega) (fun E11 W11 κ50 hE11 B11 => ?_)
  have B11 : BK G E11 W11 _ κ50 h [1, 5, 13, 14, 15, 16, 17] [20, 60, 34, 5, 26, 30, 6, 40, 41, 42, 43, 44, 33, 61, 62] _ := ⟨B11.1, B11.2.1, fun a => (B11.2.2.1 a).imp id (fun e => (by decide : ∀ x ∈ [44, 43, 42, 41, 40, 20, 60, 34, 5, 26, 30, 6], x ∈ [20, 60, 34, 5, 26, 30, 6, 40, 41, 42, 43, 44, 33, 61, 62]) _ e), B11.2.2.2⟩
  refine b_arr B11 13 22 33 (Or.inr ⟨rfl, rfl⟩) rfl (by decide) (by simp) (D2 := [1, 5, 14, 15, 16, 17]) (by decide) (by omega) (fun W12 κ53 B12 => ?_)
  refine b_row B12 14 62 479898 rfl rfl (by decide) (by simp) (D2 := [1, 5, 15, 16, 17]) (by decide) rfl (by omega) (fun E13 W13 κ58 e13E B13 => ?_)
  refine b_row B13 15 61 28146 rfl rfl (by decide) (by simp) (D2 := [1, 5, 16, 17]) (by decide) rfl (by omega) (fun E14 W14 κ63 e14E B14 => ?_)
  refine b_row B14 16 61 28146 rfl rfl (by decide) (by simp) (D2 := [1, 5, 17]) (by decide) rfl (by omega) (fun E15 W15 κ68 e15E B15 => ?_)
  refine b_row B15 17 61 28146 rfl rfl (by decide) (by simp) (D2 := [1, 5]) (by decide) rfl (by omega) (fun E16 W16 κ73 e16E B16 => ?_)
  obtain ⟨hV, hoh, _, zl, hA⟩ := B16
  obtain ⟨a51, a52, a53, a54⟩ := hA (5, o23, 24, 8) (by simp)
  obtain ⟨a11, a12, a13, a14⟩ := hA (1, o7, 25, 6) (by simp)
  have n57 : o23 ≠ o7 := fun e => by
    have g1 : sK κ73.1 o23 = 24 := a54.2.1.2
    have g2 : sK κ73.1 o7 = 25 := a14.2.1.2
    rw [e, g2] at g1
    omega
  have hV : CV G E16 W16 (720906 + c) κ73 := hV.dn (by omega)
  have hE16 : E16.2.2 ≠ h := by
    rw [e16E, e15E, e14E, e13E]
    exact hE11 rfl
  refine lc_in (fun (x : Int32) (κ' : CS) => ∃ (E' : CE) (W' : CW), E'.2.2 = E16.2.2 ∧ CV G E' W' (720906 + c - 120067 * x.toInt) κ' ∧ HO G W' κ' h 1 [1, 5] ∧ ZL W' κ' ∧ (0 ≤ x.toInt ∧ x.toInt ≤ 6) ∧ sP κ'.1 h 1 = some o7 ∧ sP κ'.1 h 5 = some o23 ∧ PA W' κ' o7 25 6 x.toInt.toNat 3 ∧ PA W' κ' o23 24 8 0 4) (fun (x : Int32) (_ : CS) => (6 - x.toInt).toNat) ⟨E16, W16, rfl, hV.dn (by rw [k0]; omega), hoh, zl, by rw [k0]; omega, a11, a51, a14, ⟨a54.1, a54.2.1, a54.2.2.1, fun k hk => absurd hk (Nat.not_lt_zero k)⟩⟩ (fun x74 κ75 hJ K76 hK76 => ?_)
  obtain ⟨E1, W1, eE, hV1, ho1, z1, hx, s1, s5, pa7, pa23⟩ := hJ
  refine ⟨ho1.2.1, fun z78 ez78 => ⟨6, Or.inl ⟨o7, ez78.trans s1, ⟨pa7.2.1.1, by rw [pa7.2.1.2]; decide⟩, pa7.2.2.1.symm⟩, fun z79 ez79 => ?_⟩⟩
  have hz79 := nI_ln ez79 (by decide)
  refine ⟨fun c1 => ?_, fun c1 => ⟨ho1.2.1, fun z96 ez96 => ?_⟩⟩
  · have e6 : x74.toInt.toNat = 6 := by omega
    rw [e6] at pa7
    refine lc_in (fun (x : Int32) (κ' : CS) => ∃ (W' : CW), CV G E1 W' (504 + c - 63 * x.toInt) κ' ∧ HO G W' κ' h 1 [1, 5] ∧ ZL W' κ' ∧ (0 ≤ x.toInt ∧ x.toInt ≤ 8) ∧ sP κ'.1 h 1 = some o7 ∧ sP κ'.1 h 5 = some o23 ∧ PA W' κ' o7 25 6 6 3 ∧ PA W' κ' o23 24 8 x.toInt.toNat 4) (fun (x : Int32) (_ : CS) => (8 - x.toInt).toNat) ⟨W1, hV1.dn (by rw [k0]; omega), ho1, z1, by rw [k0]; omega, s1, s5, pa7, pa23⟩ (fun x80 κ81 hJ K82 hK82 => ?_)
    obtain ⟨W2, hV2, ho2, z2, hx2, s12, s52, pa7, pa23⟩ := hJ
    refine ⟨ho2.2.1, fun z84 ez84 => ⟨8, Or.inl ⟨o23, ez84.trans s52, ⟨pa23.2.1.1, by rw [pa23.2.1.2]; decide⟩, pa23.2.2.1.symm⟩, fun z85 ez85 => ?_⟩⟩
    have hz85 := nI_ln ez85 (by decide)
    refine ⟨fun c2 => ⟨ho2.2.1, fun z86 ez86 => ?_⟩, fun c2 => ⟨ho2.2.1, fun z89 ez89 => ?_⟩⟩
    · have e8 : x80.toInt.toNat = 8 := by omega
      rw [e8] at pa23
      have rv := (ho2.2.2.2 2).2 (by decide)
      obtain ⟨b34, eb34, wb34⟩ := RV.nn rv (by decide)
      refine t_J7_fill_53178 hV2 z86 b34 (ez86.trans eb34) wb34 (-1) (fun κ87 hV87 f87 _ => ?_)
      have pa7' := pa7.fr f87 WX.rf (by decide)
      have pa23' := pa23.fr f87 WX.rf (by decide)
      have ho87 := ho2.fr f87 WX.rf
      have s1' : sP κ87.1 h 1 = some o7 := ((f87.2 h ho2.2.1.1).2 ho2.1 1).2.2.trans s12
      have s5' : sP κ87.1 h 5 = some o23 := ((f87.2 h ho2.2.1.1).2 ho2.1 5).2.2.trans s52
      have z87 : ZL W2 κ87 := z2.fr f87 (fun r hr => by have := isRw_c hr; simp) WLe.rf (fun a ha => Or.inl (rw_ne ha))
      have v7 := hV87.addA pa7' (Or.inr (Or.inl ⟨rfl, rfl, rfl⟩)) (by rw [eE]; exact a13)
      have l7 := upW_le (W := W2) (r := 25) (n := 6) pa7'.1
      have pa23b : PA (upW W2 o7 25 6) κ87 o23 24 8 8 4 := ⟨(if_neg n57).trans pa23'.1, pa23'.2.1, pa23'.2.2.1, fun k hk => by
        obtain ⟨b, e, w⟩ := pa23'.2.2.2 k hk
        exact ⟨b, e, l7.at w (by decide)⟩⟩
      have v23 := v7.addA pa23b (Or.inl ⟨rfl, rfl, rfl⟩) (by rw [eE]; exact a53)
      have l23 := upW_le (W := upW W2 o7 25 6) (r := 24) (n := 8) pa23b.1
      have hw0 : (upW (upW W2 o7 25 6) o23 24 8).1 h = 0 := (if_neg (Ne.symm a52)).trans ((if_neg (Ne.symm a12)).trans ho87.1)
      have hoF : HO G (upW (upW W2 o7 25 6) o23 24 8) κ87 h 1 [] := (ho87.up (l7.tr l23) hw0).fin (fun x hx => by
        have : x = 1 ∨ x = 5 := by simpa using hx
        rcases this with e | e
        · rw [e, s1']
          exact Or.inr (Or.inr (Or.inr ⟨o7, rfl, l23.at upW_at (by decide)⟩))
        · rw [e, s5']
          exact Or.inr (Or.inr (Or.inr ⟨o23, rfl, upW_at⟩)))
      have hE2 : h ≠ E1.2.2 := fun e => hE16 (by rw [← eE, ← e])
      obtain ⟨W3, xa, v3, wh⟩ := v23.addO (hoF.po (E := E1) hE2) (by decide)
      refine kk E1 W3 κ87 (v3.dn (by omega)) wh (fun a ha => ?_)
      by_cases q1 : a = h
      · rw [q1, wh] at ha
        cases ha
      · rw [xa.2 a q1] at ha
        by_cases q2 : a = o23
        · rw [q2, upW_at] at ha
          cases ha
        · rw [show (upW (upW W2 o7 25 6) o23 24 8).1 a = (upW W2 o7 25 6).1 a from if_neg q2] at ha
          by_cases q3 : a = o7
          · rw [q3, upW_at] at ha
            cases ha
          · rw [show (upW W2 o7 25 6).1 a = W2.1 a from if_neg q3] at ha
            exact z87 a ha
    · have b2 := hV2.bud
      refine ⟨by omega, fun o90 ho90 κ91 e91 => ?_⟩
      have hV91 := hV2.newO ho90 (by omega) e91
      have f91 : CF [] W2 κ81 κ91 := CF.rf.uN hV2.1 ho90 e91
      have p91 : PO G E1 W2 κ91 o90 4 [4, 14] := PO.new hV2 ho90 e91 rfl (by decide)
      refine t_X1_init hV91 o90 p91 (by omega) (fun W3 κ92 x3 hV92 c92 p92 _ => ?_)
      obtain ⟨W4, xa, hV93, w90⟩ := hV92.addO p92 (by decide)
      have F : CF [] W2 κ81 κ92 := CF.trX f91 WX.rf ho90 p91.1 c92 (fun y hy => hy)
      have x4 : WX W2 W4 κ81 := WX.add ⟨x3.1, fun a ha e => x3.2 a (f91.sl a ha) e⟩ ho90 xa
      have pa7n := pa7.fr F x4 (by decide)
      have pa23n := pa23.fr F x4 (by decide)
      have hon := ho2.fr F x4
      have s1n : sP κ92.1 h 1 = some o7 := ((F.2 h ho2.2.1.1).2 ho2.1 1).2.2.trans s12
      have s5n : sP κ92.1 h 5 = some o23 := ((F.2 h ho2.2.1.1).2 ho2.1 5).2.2.trans s52
      have zln : ZL W4 κ92 := z2.cc hV2 hV93 F x4.1 (fun _ _ => by simp)
      have m90 : o90 ∈ sL κ92.1 ∧ sK κ92.1 o90 = 4 := p92.2.1
      refine ⟨o23, ez89.trans s52, ⟨pa23n.2.1.1, by rw [pa23n.2.1.2]; decide⟩, by rw [pa23n.2.2.1]; omega, Or.inr ⟨o90, rfl, m90.1, by rw [pa23n.2.1.2, m90.2]; rfl⟩, fun κ94 e94 z95 ez95 => ?_⟩
      have hz95 := i_add ez95 (by omega) (by omega)
      have pa23m := pa23n.st (b := o90) w90 e94
      have e17 : x80.toInt.toNat + 1 = z95.toInt.toNat := by omega
      rw [e17] at pa23m
      exact hK82 z95 κ94 ⟨W4, (hV93.uP1 pa23n.1 e94).dn (by omega), hon.put (Ne.symm a52) e94, by rw [e94]; exact zln, by omega, by rw [e94]; exact (u2_addr (Ne.symm a52)).trans s1n, by rw [e94]; exact (u2_addr (Ne.symm a52)).trans s5n, pa7n.put (Ne.symm n57) e94, pa23m⟩ (by (try dsimp only); omega)
  · have b1 := hV1.bud
    refine ⟨by omega, fun o97 ho97 κ98 e98 => ?_⟩
    have hV98 := hV1.newO ho97 (by omega) e98
    have f98 : CF [] W1 κ75 κ98 := CF.rf.uN hV1.1 ho97 e98
    have p98 : PO G E1 W1 κ98 o97 3 [2, 4, 5] := PO.new hV1 ho97 e98 rfl (by decide)
    have z98 : ZL W1 κ98 := z1.fr f98 (fun _ _ => by simp) WLe.rf (fun a ha => Or.inl (rw_ne ha))
    refine i_X2 hV98 o97 p98 z98 (by omega) (fun E2 W3 κ99 eE2 x3 hV99 c99 ho99 zl99 => ?_)
    obtain ⟨W4, xa, hV100, w97⟩ := hV99.addO (ho99.po (E := E2) (by rw [eE2]; exact p98.2.2.1)) (by decide)
    have F : CF [] W1 κ75 κ99 := CF.trX f98 WX.rf ho97 p98.1 c99 (fun y hy => hy)
    have x4 : WX W1 W4 κ75 := WX.add ⟨x3.1, fun a ha e => x3.2 a (f98.sl a ha) e⟩ ho97 xa
    have pa7n := pa7.fr F x4 (by decide)
    have pa23n := pa23.fr F x4 (by decide)
    have hon := ho1.fr F x4
    have s1n : sP κ99.1 h 1 = some o7 := ((F.2 h ho1.2.1.1).2 ho1.1 1).2.2.trans s1
    have s5n : sP κ99.1 h 5 = some o23 := ((F.2 h ho1.2.1.1).2 ho1.1 5).2.2.trans s5
    have zln : ZL W4 κ99 := fun a ha => by
      by_cases q : a = o97
      · rw [q, w97] at ha
        cases ha
      · rw [xa.2 a q] at ha
        exact zl99 a ha
    have m97 : o97 ∈ sL κ99.1 ∧ sK κ99.1 o97 = 3 := ho99.2.1
    refine ⟨o7, ez96.trans s1, ⟨pa7n.2.1.1, by rw [pa7n.2.1.2]; decide⟩, by rw [pa7n.2.2.1]; omega, Or.inr ⟨o97, rfl, m97.1, by rw [pa7n.2.1.2, m97.2]; rfl⟩, fun κ101 e101 z102 ez102 => ?_⟩
    have hz102 := i_add ez102 (by omega) (by omega)
    have pa7m := pa7n.st (b := o97) w97 e101
    have e17 : x74.toInt.toNat + 1 = z102.toInt.toNat := by omega
    rw [e17] at pa7m
    exact hK76 z102 κ101 ⟨E2, W4, eE2.trans eE, (hV100.uP1 pa7n.1 e101).dn (by omega), hon.put (Ne.symm a12) e101, by rw [e101]; exact zln, by omega, by rw [e101]; exact (u2_addr (Ne.symm a12)).trans s1n, by rw [e101]; exact (u2_addr (Ne.symm a12)).trans s5n, pa7m, pa23n.put n57 e101⟩ (by (try dsimp only); omega)
end R9X

/-! the class: nodes, volumes, the log -/
theorem nP_step {a b : Nat} (ha : a % 1024 = 0) (hb : b % 1024 = 0) (h : a < b) (h4 : b ≤ 4096) : (b + 12) + nP b ≤ nP a := by
  unfold nP
  rcases (show b = 1024 ∨ b = 2048 ∨ b = 3072 ∨ b = 4096 by omega) with rfl | rfl | rfl | rfl
  · rw [if_pos (show a < 1024 by omega)]
    decide
  · rcases (show a = 0 ∨ a = 1024 by omega) with rfl | rfl <;> decide
  · rcases (show a = 0 ∨ a = 1024 ∨ a = 2048 by omega) with rfl | rfl | rfl <;> decide
  · rcases (show a = 0 ∨ a = 1024 ∨ a = 2048 ∨ a = 3072 by omega) with rfl | rfl | rfl | rfl <;> decide
theorem uI_uN {σ : HS} {a k q c n : Nat} {v : Int32} (ne : a ≠ q) : h_uN (h_uI σ a k v) q c n = h_uI (h_uN σ q c n) a k v := by
  have e : va_up (u2 (sI σ) a k v) q (fun _ => (0 : Int32)) = u2 (va_up (sI σ) q (fun _ => (0 : Int32))) a k v := by
    funext x i
    by_cases h1 : x = q
    · subst h1
      rw [va_up_self, u2_addr (Ne.symm ne), va_up_self]
    · rw [va_up_ne _ _ h1]
      by_cases h2 : x = a
      · subst h2
        by_cases h3 : i = k
        · subst h3
          rw [u2_same, u2_same]
        · rw [u2_pl h3, u2_pl h3, va_up_ne _ _ h1]
      · rw [u2_addr h2, u2_addr h2, va_up_ne _ _ h1]
  show (_, _, _, va_up (u2 (sI σ) a k v) q (fun _ => (0 : Int32)), _, _) = (_, _, _, u2 (va_up (sI σ) q (fun _ => (0 : Int32))) a k v, _, _)
  rw [e]
  rfl
set_option maxRecDepth 100000 in
set_option maxHeartbeats 4000000 in
theorem t_X4_copyFrom {G : GE} {E : CE} {W0 : CW} {c : Int} {κ : CS} (hV : CV G E W0 c κ) (h : Nat) (hs_h : W0.1 h = 5) (a1 : Option Nat) (b_a1 : Nat) (e_a1 : a1 = some b_a1) (hs_a1 : W0.1 b_a1 = 5)  (hc : 0 ≤ c) {post : CS → Prop} (kk : ∀ (W' : CW) (κ' : CS), WX W0 W' κ → CV G E W' (c - 0) κ' → CF [(20, 0), (30, 0), (5, 1), (5, 10), (5, 11), (5, 12), (5, 13), (5, 2), (5, 3), (5, 4), (5, 6), (5, 7), (5, 8), (5, 9)] W0 κ κ' → (True) → post κ') : F_X4_copyFrom G h a1 post κ := by
  have hs0_h := hs_h
  have hs0_a1 := hs_a1
  suffices H_ : ∀ W : CW, WX W0 W κ → CV G E W (c - 0) κ → (W.1 h = 5) → (W.1 b_a1 = 5) → F_X4_copyFrom G h a1 post κ from H_ W0 WX.rf (hV.dn (by omega)) hs_h hs_a1
  intro W hx hV hs_h hs_a1
  unfold F_X4_copyFrom
  have hfr : CF [(20, 0), (30, 0), (5, 1), (5, 10), (5, 11), (5, 12), (5, 13), (5, 2), (5, 3), (5, 4), (5, 6), (5, 7), (5, 8), (5, 9)] W0 κ κ := CF.rf
  have k_0 : (0 : Int32).toInt = 0 := rfl
  refine ⟨b_a1, e_a1, (hV.mm hs_a1 (by decide) rfl), ?_⟩
  intro z1 ez1
  have vz1 := hV.1.iv hs_a1 (by decide) rfl 1 0 1 rfl ez1
  have wz1 : z1.toInt = (sI κ.1 b_a1 1).toInt := by rw [ez1]
  refine ⟨by omega, (hV.mm hs_h (by decide) rfl), ?_⟩
  intro κ2 eκ2
  have rv_κ2 := i_range z1
  have hV := hV.uI (k := 1) (v := z1) hs_h (Or.inl rfl) (Or.inr (by decide)) (Or.inl (by decide)) (fun _ => (by omega : (0 : Int) ≤ (z1 : Int32).toInt ∧ (z1 : Int32).toInt ≤ 1)) eκ2
  have uκ2 : (sI κ2.1 h 1).toInt = (z1 : Int32).toInt := by rw [eκ2]; exact congrArg Int32.toInt u2_same
  have f1κ2 : CF [(5, 1)] W κ κ2 := CF.rf.uI (k := 1) hs_h (by decide) (show ((5, 1) : Nat × Nat) ∈ ([(5, 1)] : List (Nat × Nat)) by simp) eκ2
  have hfr := hfr.trW hx f1κ2 (by decide)
  refine ⟨b_a1, e_a1, (hV.mm hs_a1 (by decide) rfl), ?_⟩
  intro z3 ez3
  have vz3 := hV.1.iv hs_a1 (by decide) rfl 2 0 1 rfl ez3
  have wz3 : z3.toInt = (sI κ2.1 b_a1 2).toInt := by rw [ez3]
  refine ⟨by omega, (hV.mm hs_h (by decide) rfl), ?_⟩
  intro κ4 eκ4
  have rv_κ4 := i_range z3
  have hV := hV.uI (k := 2) (v := z3) hs_h (Or.inl rfl) (Or.inr (by decide)) (Or.inl (by decide)) (fun _ => (by omega : (0 : Int) ≤ (z3 : Int32).toInt ∧ (z3 : Int32).toInt ≤ 1)) eκ4
  have uκ4 : (sI κ4.1 h 2).toInt = (z3 : Int32).toInt := by rw [eκ4]; exact congrArg Int32.toInt u2_same
  have f1κ4 : CF [(5, 2)] W κ2 κ4 := CF.rf.uI (k := 2) hs_h (by decide) (show ((5, 2) : Nat × Nat) ∈ ([(5, 2)] : List (Nat × Nat)) by simp) eκ4
  have hfr := hfr.trW hx f1κ4 (by decide)
  refine ⟨by omega, (hV.mm hs_h (by decide) rfl), ?_⟩
  intro κ5 eκ5
  have rv_κ5 := i_range 0
  have hV := hV.uI (k := 3) (v := 0) hs_h (Or.inl rfl) (Or.inr (by decide)) (Or.inl (by decide)) (fun _ => (by omega : (0 : Int) ≤ (0 : Int32).toInt ∧ (0 : Int32).toInt ≤ 1)) eκ5
  have uκ5 : (sI κ5.1 h 3).toInt = (0 : Int32).toInt := by rw [eκ5]; exact congrArg Int32.toInt u2_same
  have f1κ5 : CF [(5, 3)] W κ4 κ5 := CF.rf.uI (k := 3) hs_h (by decide) (show ((5, 3) : Nat × Nat) ∈ ([(5, 3)] : List (Nat × Nat)) by simp) eκ5
  have hfr := hfr.trW hx f1κ5 (by decide)
  refine ⟨b_a1, e_a1, (hV.mm hs_a1 (by decide) rfl), ?_⟩
  intro z6 ez6
  have vz6 := hV.1.iv hs_a1 (by decide) rfl 4 (-2147483648) 2147483647 rfl ez6
  have wz6 : z6.toInt = (sI κ5.1 b_a1 4).toInt := by rw [ez6]
  refine ⟨(hV.mm hs_h (by decide) rfl), ?_⟩
  intro κ7 eκ7
  have rv_κ7 := i_range z6
  have hV := hV.uI (k := 4) (v := z6) hs_h (Or.inl rfl) (Or.inr (by decide)) (Or.inl (by decide)) (fun _ => (by omega : (-2147483648 : Int) ≤ (z6 : Int32).toInt ∧ (z6 : Int32).toInt ≤ 2147483647)) eκ7
  have uκ7 : (sI κ7.1 h 4).toInt = (z6 : Int32).toInt := by rw [eκ7]; exact congrArg Int32.toInt u2_same
  have f1κ7 : CF [(5, 4)] W κ5 κ7 := CF.rf.uI (k := 4) hs_h (by decide) (show ((5, 4) : Nat × Nat) ∈ ([(5, 4)] : List (Nat × Nat)) by simp) eκ7
  have hfr := hfr.trW hx f1κ7 (by decide)
  refine ⟨b_a1, e_a1, (hV.mm hs_a1 (by decide) rfl), ?_⟩
  intro z8 ez8
  have vz8 := hV.1.iv hs_a1 (by decide) rfl 6 0 12 rfl ez8
  have wz8 : z8.toInt = (sI κ7.1 b_a1 6).toInt := by rw [ez8]
  refine ⟨(hV.mm hs_h (by decide) rfl), ?_⟩
  intro κ9 eκ9
  have rv_κ9 := i_range z8
  have hV := hV.uI (k := 6) (v := z8) hs_h (Or.inl rfl) (Or.inr (by decide)) (Or.inl (by decide)) (fun _ => (by omega : (0 : Int) ≤ (z8 : Int32).toInt ∧ (z8 : Int32).toInt ≤ 12)) eκ9
  have uκ9 : (sI κ9.1 h 6).toInt = (z8 : Int32).toInt := by rw [eκ9]; exact congrArg Int32.toInt u2_same
  have f1κ9 : CF [(5, 6)] W κ7 κ9 := CF.rf.uI (k := 6) hs_h (by decide) (show ((5, 6) : Nat × Nat) ∈ ([(5, 6)] : List (Nat × Nat)) by simp) eκ9
  have hfr := hfr.trW hx f1κ9 (by decide)
  refine ⟨b_a1, e_a1, (hV.mm hs_a1 (by decide) rfl), ?_⟩
  intro z10 ez10
  obtain ⟨bz10, ebz10, hsz10⟩ := hV.1.nn hs_a1 (by decide) rfl 5 rfl (by decide)
  have ebz10 := ez10.trans ebz10
  refine ⟨(hV.mm hs_h (by decide) rfl), ?_⟩
  intro z11 ez11
  obtain ⟨bz11, ebz11, hsz11⟩ := hV.1.nn hs_h (by decide) rfl 5 rfl (by decide)
  have ebz11 := ez11.trans ebz11
  refine ⟨(hV.mm hs_h (by decide) rfl), ?_⟩
  intro z12 ez12
  have ebz12 : z12 = some bz11 := (ez12.trans ez11.symm).trans ebz11
  refine ⟨(W.2 bz11), (AL.of hV ebz12 hsz11 (by decide) rfl (by decide)), ?_⟩
  intro z13 ez13
  have lnz13 := nI_ln ez13 (hV.lm hsz11 (by decide) rfl)
  have lmz13 := (hV.lm hsz11 (by decide) rfl)
  have lxz13 := hV.1.fx hsz11 (by decide) rfl 12 rfl (by decide)
  have ln0_ := hV.ln hsz10 (by decide) rfl
  have lx0_ := hV.1.fx hsz10 (by decide) rfl 12 rfl (by decide)
  have ln1_ := hV.ln hsz11 (by decide) rfl
  have lx1_ := hV.1.fx hsz11 (by decide) rfl 12 rfl (by decide)
  refine ⟨bz10, ebz10, bz11, ebz11, (hV.mm hsz10 (by decide) rfl), (hV.mm hsz11 (by decide) rfl), (by omega), fun j hj => (hV.1.el hsz10 (by decide) rfl _ (by omega)).1, ?_⟩
  intro κ14 eκ14
  have hV := hV.cpI hsz10 rfl hsz11 rfl (by omega) eκ14
  have f1κ14 : CF [(30, 0)] W κ9 κ14 := CF.rf.cpI hsz11 rfl (by decide) eκ14
  have hfr := hfr.trW hx f1κ14 (by decide)
  refine ⟨b_a1, e_a1, (hV.mm hs_a1 (by decide) rfl), ?_⟩
  intro z15 ez15
  have vz15 := hV.1.iv hs_a1 (by decide) rfl 7 (-2147483648) 2147483647 rfl ez15
  have wz15 : z15.toInt = (sI κ14.1 b_a1 7).toInt := by rw [ez15]
  refine ⟨(hV.mm hs_h (by decide) rfl), ?_⟩
  intro κ16 eκ16
  have rv_κ16 := i_range z15
  have hV := hV.uI (k := 7) (v := z15) hs_h (Or.inl rfl) (Or.inr (by decide)) (Or.inl (by decide)) (fun _ => (by omega : (-2147483648 : Int) ≤ (z15 : Int32).toInt ∧ (z15 : Int32).toInt ≤ 2147483647)) eκ16
  have uκ16 : (sI κ16.1 h 7).toInt = (z15 : Int32).toInt := by rw [eκ16]; exact congrArg Int32.toInt u2_same
  have f1κ16 : CF [(5, 7)] W κ14 κ16 := CF.rf.uI (k := 7) hs_h (by decide) (show ((5, 7) : Nat × Nat) ∈ ([(5, 7)] : List (Nat × Nat)) by simp) eκ16
  have hfr := hfr.trW hx f1κ16 (by decide)
  refine ⟨b_a1, e_a1, (hV.mm hs_a1 (by decide) rfl), ?_⟩
  intro z17 ez17
  have vz17 := l_range z17
  have wz17 : z17.toInt = (sJ κ16.1 b_a1 8).toInt := by rw [ez17]
  refine ⟨(hV.mm hs_h (by decide) rfl), ?_⟩
  intro κ18 eκ18
  have hV := hV.uJ eκ18
  have f1κ18 : CF [(5, 8)] W κ16 κ18 := CF.rf.uJ (k := 8) hs_h (by decide) (show ((5, 8) : Nat × Nat) ∈ ([(5, 8)] : List (Nat × Nat)) by simp) eκ18
  have hfr := hfr.trW hx f1κ18 (by decide)
  refine ⟨b_a1, e_a1, (hV.mm hs_a1 (by decide) rfl), ?_⟩
  intro z19 ez19
  have vz19 := l_range z19
  have wz19 : z19.toInt = (sJ κ18.1 b_a1 9).toInt := by rw [ez19]
  refine ⟨(hV.mm hs_h (by decide) rfl), ?_⟩
  intro κ20 eκ20
  have hV := hV.uJ eκ20
  have f1κ20 : CF [(5, 9)] W κ18 κ20 := CF.rf.uJ (k := 9) hs_h (by decide) (show ((5, 9) : Nat × Nat) ∈ ([(5, 9)] : List (Nat × Nat)) by simp) eκ20
  have hfr := hfr.trW hx f1κ20 (by decide)
  refine ⟨b_a1, e_a1, (hV.mm hs_a1 (by decide) rfl), ?_⟩
  intro z21 ez21
  have vz21 := l_range z21
  have wz21 : z21.toInt = (sJ κ20.1 b_a1 10).toInt := by rw [ez21]
  refine ⟨(hV.mm hs_h (by decide) rfl), ?_⟩
  intro κ22 eκ22
  have hV := hV.uJ eκ22
  have f1κ22 : CF [(5, 10)] W κ20 κ22 := CF.rf.uJ (k := 10) hs_h (by decide) (show ((5, 10) : Nat × Nat) ∈ ([(5, 10)] : List (Nat × Nat)) by simp) eκ22
  have hfr := hfr.trW hx f1κ22 (by decide)
  refine ⟨b_a1, e_a1, (hV.mm hs_a1 (by decide) rfl), ?_⟩
  intro z23 ez23
  have vz23 := l_range z23
  have wz23 : z23.toInt = (sJ κ22.1 b_a1 11).toInt := by rw [ez23]
  refine ⟨(hV.mm hs_h (by decide) rfl), ?_⟩
  intro κ24 eκ24
  have hV := hV.uJ eκ24
  have f1κ24 : CF [(5, 11)] W κ22 κ24 := CF.rf.uJ (k := 11) hs_h (by decide) (show ((5, 11) : Nat × Nat) ∈ ([(5, 11)] : List (Nat × Nat)) by simp) eκ24
  have hfr := hfr.trW hx f1κ24 (by decide)
  refine ⟨b_a1, e_a1, (hV.mm hs_a1 (by decide) rfl), ?_⟩
  intro z25 ez25
  have vz25 := hV.1.iv hs_a1 (by decide) rfl 12 0 4096 rfl ez25
  have wz25 : z25.toInt = (sI κ24.1 b_a1 12).toInt := by rw [ez25]
  refine ⟨(hV.mm hs_h (by decide) rfl), ?_⟩
  intro κ26 eκ26
  obtain ⟨bd, ed, wd⟩ := hV.1.nn hs_a1 (by decide) rfl 13 rfl (by decide)
  obtain ⟨bh, eh, wh⟩ := hV.1.nn hs_h (by decide) rfl 13 rfl (by decide)
  have nd_ := hV.2.2.1 b_a1 hs_a1 bd ed
  have nh_ := hV.2.2.1 h hs_h bh eh
  have mh := hV.mm hs_h (by decide) rfl
  have ma := hV.mm hs_a1 (by decide) rfl
  have mh26 : h ∈ sL κ26.1 ∧ sK κ26.1 h = 5 := by rw [eκ26]; exact mh
  have ma26 : b_a1 ∈ sL κ26.1 ∧ sK κ26.1 b_a1 = 5 := by rw [eκ26]; exact ma
  have t26 : TV G W κ26.1 := by rw [eκ26]; exact hV.1.uI (fun _ => by rw [hs_h]; exact vz25)
  have p26 : sP κ26.1 = sP κ24.1 := by rw [eκ26]; rfl
  have s26 : (sI κ26.1 h 12).toInt = z25.toInt := by rw [eκ26]; exact congrArg Int32.toInt u2_same
  have al26 : ∀ b, W.1 b = 20 → ∀ q : Option Nat, q = some b → AL G κ26 q (W.2 b) := fun b wb q hq => Or.inl ⟨b, hq, ⟨(t26.mm wb (by decide) rfl).1, by rw [(t26.mm wb (by decide) (show kcr 20 = 20 from rfl)).2]; decide⟩, (t26.ln wb (by decide) rfl).symm⟩
  refine ⟨mh26, fun z27 ez27 => ⟨W.2 bh, al26 bh wh z27 (by rw [ez27, p26]; exact eh), fun z28 ez28 => ⟨mh26, fun z29 ez29 => ?_⟩⟩⟩
  have h28 := nI_ln ez28 (by omega)
  have h29 : z29.toInt = z25.toInt := by rw [ez29]; exact s26
  refine jc_in (fun (x : Unit) (κ' : CS) => ∃ W' : CW, WX W0 W' κ ∧ WLe W W' ∧ CV G E W' (c - 0) κ' ∧ CF [(20, 0), (30, 0), (5, 1), (5, 10), (5, 11), (5, 12), (5, 13), (5, 2), (5, 3), (5, 4), (5, 6), (5, 7), (5, 8), (5, 9)] W0 κ κ' ∧ (∃ b, sP κ'.1 b_a1 13 = some b ∧ W'.1 b = 20 ∧ (sI κ'.1 h 12).toInt ≤ W'.2 b)) (fun x30 κ31 hJ => ?_) (fun K32 hK32 => ⟨fun c1 => ?_, fun c1 => ⟨b_a1, e_a1, ma26, fun z39 ez39 => ⟨W.2 bd, al26 bd wd z39 (by rw [ez39, p26]; exact ed), fun z40 ez40 => ?_⟩⟩⟩)
  · obtain ⟨W, hx, hle, hV, hfr, b2, e2, w2, l2⟩ := hJ
    have hs_h := hle.at hs_h (by decide)
    have hs_a1 := hle.at hs_a1 (by decide)
    obtain ⟨b3, e3, w3⟩ := hV.1.nn hs_h (by decide) rfl 13 rfl (by decide)
    have n3 := hV.2.2.1 h hs_h b3 e3
    have i3 := hV.1.iv hs_h (by decide) rfl 12 0 4096 rfl rfl
    have l2' := hV.ln w2 (by decide) rfl
    have l3' := hV.ln w3 (by decide) rfl
    refine ⟨b_a1, e_a1, hV.mm hs_a1 (by decide) rfl, fun z35 ez35 => ⟨hV.mm hs_h (by decide) rfl, fun z36 ez36 => ⟨hV.mm hs_h (by decide) rfl, fun z37 ez37 => ?_⟩⟩⟩
    have h37 : z37.toInt = (sI κ31.1 h 12).toInt := by rw [ez37]
    refine ⟨b2, ez35.trans e2, b3, ez36.trans e3, hV.mm w2 (by decide) rfl, hV.mm w3 (by decide) rfl, by omega, fun j hj => (hV.1.el w2 (by decide) rfl _ (by omega)).1, fun κ38 e38 => ?_⟩
    exact kk W κ38 hx ((hV.cpI w2 rfl w3 rfl (by omega) e38).dn (by omega)) (hfr.trW hx (CF.rf.cpI (M := [(20, 0)]) w3 rfl (by decide) e38) (by decide)) trivial
  · have hV6 := hV.uNS hs_h eh (by omega) (by omega) eκ26
    exact hK32 () κ26 ⟨W, hx, WLe.rf, hV6.dn (by omega), hfr.trW hx (CF.rf.uI (M := [(5, 12)]) (k := 12) hs_h (by decide) (by decide) eκ26) (by decide), bd, by rw [p26]; exact ed, wd, by omega⟩
  · have h40 := nI_ln ez40 (by omega)
    have b26 : κ26.2 = κ24.2 := by rw [eκ26]
    have pn := hV.potN (by omega) hs_h eh
    have st := nP_step nh_.2.2 nd_.2.2 (show W.2 bh < W.2 bd by omega) nd_.2.1
    refine ⟨by omega, by omega, fun o41 hn κ42 e42 => ⟨?_, fun κ43 e43 => ?_⟩⟩
    · rw [e42]
      exact (t26.uN (c := 20) (n := z40.toInt.toNat) hn).mm hs_h (by decide) rfl
    have hn' : o41 ∉ sL κ24.1 := by
      have : sL κ26.1 = sL κ24.1 := by rw [eκ26]; rfl
      rw [← this]
      exact hn
    have hq : h ≠ o41 := fun e => hn' (by rw [← e]; exact mh.1)
    obtain ⟨Wn, x1, hVa, wq, wn, fa⟩ := hV.mkA (M := []) (r := 20) (n := z40.toInt.toNat) hn' rfl rfl (Or.inl rfl) (by omega) (fun h => absurd h (by decide)) (by decide) (Or.inl rfl) (by omega) (κ' := (h_uN κ24.1 o41 20 z40.toInt.toNat, κ24.2 - (z40.toInt.toNat + 12))) rfl
    have hs_h1 := x1.1.at hs_h (by decide)
    have wh1 := x1.1.at wh (by decide)
    have lh1 : Wn.2 bh = W.2 bh := (x1.1 bh (by rw [wh]; decide)).2
    have ld1 : Wn.2 bd = W.2 bd := (x1.1 bd (by rw [wd]; decide)).2
    have eh1 : sP (h_uN κ24.1 o41 20 z40.toInt.toNat) h 13 = some bh := by
      have : sP (h_uN κ24.1 o41 20 z40.toInt.toNat) h = sP κ24.1 h := va_up_ne _ _ hq
      rw [this]
      exact eh
    have si1 : sI (h_uN κ24.1 o41 20 z40.toInt.toNat) h = sI κ24.1 h := va_up_ne _ _ hq
    have nn1 : z40.toInt.toNat = W.2 bd := by omega
    have hVb := hVa.uND (d := W.2 bd + 12) (b := bh) (b2 := o41) hs_h1 eh1 wq (by show (sI (h_uN κ24.1 o41 20 z40.toInt.toNat) h 12).toInt ≤ _; rw [si1, wn]; omega) (by rw [wn, nn1]; exact ⟨nd_.2.1, nd_.2.2⟩) (by rw [wn, lh1, nn1]; omega) rfl
    have e43' : κ43 = (h_uI (h_uP (h_uN κ24.1 o41 20 z40.toInt.toNat) h 13 (some o41)) h 12 z25, κ24.2 - (z40.toInt.toNat + 12)) := by
      rw [e43, e42, eκ26]
      show (h_uP (h_uN (h_uI κ24.1 h 12 z25) o41 20 z40.toInt.toNat) h 13 (some o41), _) = _
      rw [uI_uN hq]
      rfl
    have hVc := hVb.uNS (b := o41) hs_h1 u2_same (v := z25) (by omega) (by rw [wn]; omega) e43'
    refine hK32 () κ43 ⟨Wn, hx.tr x1 hfr.sl, x1.1, hVc.dn (by omega), ?_, bd, ?_, x1.1.at wd (by decide), ?_⟩
    · have f1 := hfr.trW hx fa (by decide)
      have f2 := f1.trW (hx.tr x1 hfr.sl) (CF.rf.uP (M := [(5, 13)]) (k := 13) (v := some o41) (κ2 := (h_uP (h_uN κ24.1 o41 20 z40.toInt.toNat) h 13 (some o41), κ24.2 - (z40.toInt.toNat + 12))) hs_h1 (by decide) (by decide) rfl) (by decide)
      exact f2.trW (hx.tr x1 hfr.sl) (CF.rf.uI (M := [(5, 12)]) (k := 12) hs_h1 (by decide) (by decide) e43') (by decide)
    · have ne : b_a1 ≠ h := fun e => by
        rw [e] at ed
        have : bh = bd := Option.some.inj (eh.symm.trans ed)
        rw [this] at h28
        omega
      have na : b_a1 ≠ o41 := fun e => hn' (by rw [← e]; exact ma.1)
      rw [e43']
      show u2 (va_up (sP κ24.1) o41 (fun _ => none)) h 13 (some o41) b_a1 13 = some bd
      rw [u2_addr ne, va_up_ne _ _ na]
      exact ed
    · rw [ld1, e43']
      show (u2 _ h 12 z25 h 12).toInt ≤ _
      rw [u2_same]
      omega
set_option maxRecDepth 100000 in
set_option maxHeartbeats 4000000 in
theorem t_X9_copyFrom {G : GE} {E : CE} {W0 : CW} {c : Int} {κ : CS} (hV : CV G E W0 c κ) (h : Nat) (hs_h : W0.1 h = 6) (a1 : Option Nat) (b_a1 : Nat) (e_a1 : a1 = some b_a1) (hs_a1 : W0.1 b_a1 = 6)  (hc : 0 ≤ c) {post : CS → Prop} (kk : ∀ (W' : CW) (κ' : CS), WX W0 W' κ → CV G E W' (c - 0) κ' → CF [(20, 0), (30, 0), (5, 1), (5, 10), (5, 11), (5, 12), (5, 13), (5, 2), (5, 3), (5, 4), (5, 6), (5, 7), (5, 8), (5, 9), (6, 1)] W0 κ κ' → (True) → post κ') : F_X9_copyFrom G h a1 post κ := by
  have hs0_h := hs_h
  have hs0_a1 := hs_a1
  suffices H_ : ∀ W : CW, WX W0 W κ → CV G E W (c - 0) κ → (W.1 h = 6) → (W.1 b_a1 = 6) → F_X9_copyFrom G h a1 post κ from H_ W0 WX.rf (hV.dn (by omega)) hs_h hs_a1
  intro W hx hV hs_h hs_a1
  unfold F_X9_copyFrom
  have hfr : CF [(20, 0), (30, 0), (5, 1), (5, 10), (5, 11), (5, 12), (5, 13), (5, 2), (5, 3), (5, 4), (5, 6), (5, 7), (5, 8), (5, 9), (6, 1)] W0 κ κ := CF.rf
  have k_0 : (0 : Int32).toInt = 0 := rfl
  have k_1 : (1 : Int32).toInt = 1 := rfl
  have kl_1 : (1 : Int64).toInt = 1 := rfl
  refine lc_in (fun (x : Int32) (κ' : CS) => ∃ W' : CW, WLe W W' ∧ WX W0 W' κ ∧ CV G E W' (c - 0) κ' ∧ CF [(20, 0), (30, 0), (5, 1), (5, 10), (5, 11), (5, 12), (5, 13), (5, 2), (5, 3), (5, 4), (5, 6), (5, 7), (5, 8), (5, 9), (6, 1)] W0 κ κ' ∧ (((0 ≤ x.toInt)))) (fun (x : Int32) (κ' : CS) => (2147483647 - x.toInt).toNat) ⟨W, WLe.rf, hx, hV.dn (by (try dsimp only); omega), hfr, (by (try dsimp only); omega)⟩ (fun x1 κ2 hJ K3 hK3 => ?_)
  obtain ⟨W, le2, hx, hV, hfr, hv⟩ := hJ
  have hs_h := WLe.at le2 hs_h (by decide)
  have hs_a1 := WLe.at le2 hs_a1 (by decide)
  (try dsimp only at hv)
  have rg_x1 := i_range x1
  refine ⟨(hV.mm hs_h (by decide) rfl), ?_⟩
  intro z5 ez5
  obtain ⟨bz5, ebz5, hsz5⟩ := hV.1.nn hs_h (by decide) rfl 0 rfl (by decide)
  have ebz5 := ez5.trans ebz5
  refine ⟨(W.2 bz5), (AL.of hV ebz5 hsz5 (by decide) rfl (by decide)), ?_⟩
  intro z6 ez6
  have lnz6 := nI_ln ez6 (hV.lm hsz5 (by decide) rfl)
  have lmz6 := (hV.lm hsz5 (by decide) rfl)
  have lxz6 := hV.1.fx hsz5 (by decide) rfl 80 rfl (by decide)
  refine ⟨fun c1 => ?_, fun c1 => ?_⟩
  · refine ⟨b_a1, e_a1, (hV.mm hs_a1 (by decide) rfl), ?_⟩
    intro z7 ez7
    have vz7 := hV.1.iv hs_a1 (by decide) rfl 1 (-2147483648) 2147483647 rfl ez7
    have wz7 : z7.toInt = (sI κ2.1 b_a1 1).toInt := by rw [ez7]
    refine ⟨(hV.mm hs_h (by decide) rfl), ?_⟩
    intro κ8 eκ8
    have rv_κ8 := i_range z7
    have hV := hV.uI (k := 1) (v := z7) hs_h (Or.inl rfl) (Or.inl (by decide)) (Or.inl (by decide)) (fun _ => (by omega : (-2147483648 : Int) ≤ (z7 : Int32).toInt ∧ (z7 : Int32).toInt ≤ 2147483647)) eκ8
    have uκ8 : (sI κ8.1 h 1).toInt = (z7 : Int32).toInt := by rw [eκ8]; exact congrArg Int32.toInt u2_same
    have f1κ8 : CF [(6, 1)] W κ2 κ8 := CF.rf.uI (k := 1) hs_h (by decide) (show ((6, 1) : Nat × Nat) ∈ ([(6, 1)] : List (Nat × Nat)) by simp) eκ8
    have hfr := hfr.trW hx f1κ8 (by decide)
    exact kk W κ8 hx (hV.dn (by omega)) hfr trivial
  · refine ⟨(hV.mm hs_h (by decide) rfl), ?_⟩
    intro z9 ez9
    have ebz9 : z9 = some bz5 := (ez9.trans ez5.symm).trans ebz5
    have ln_ := hV.ln hsz5 (by decide) rfl
    have lx_ := hV.1.fx hsz5 (by decide) rfl 80 rfl (by decide)
    refine ⟨bz5, ebz9, ⟨(hV.mm hsz5 (by decide) rfl).1, by rw [(hV.mm hsz5 (by decide) rfl).2]; decide⟩, by omega, ?_⟩
    intro z10 ez10
    obtain ⟨bz10, ebz10, hsz10⟩ := (hV.1.el hsz5 (by decide) rfl x1.toInt.toNat (by omega)).2.nn (by decide)
    rw [← ez10] at ebz10
    refine ⟨b_a1, e_a1, (hV.mm hs_a1 (by decide) rfl), ?_⟩
    intro z11 ez11
    obtain ⟨bz11, ebz11, hsz11⟩ := hV.1.nn hs_a1 (by decide) rfl 0 rfl (by decide)
    have ebz11 := ez11.trans ebz11
    have ln_ := hV.ln hsz11 (by decide) rfl
    have lx_ := hV.1.fx hsz11 (by decide) rfl 80 rfl (by decide)
    refine ⟨bz11, ebz11, ⟨(hV.mm hsz11 (by decide) rfl).1, by rw [(hV.mm hsz11 (by decide) rfl).2]; decide⟩, by omega, ?_⟩
    intro z12 ez12
    obtain ⟨bz12, ebz12, hsz12⟩ := (hV.1.el hsz11 (by decide) rfl x1.toInt.toNat (by omega)).2.nn (by decide)
    rw [← ez12] at ebz12
    refine ⟨bz10, ebz10, (hV.mm hsz10 (by decide) rfl), ?_⟩
    refine t_X4_copyFrom hV bz10 hsz10 z12 bz12 ebz12 hsz12  (by omega) (fun W κ13 x1_ hV fκ13 pu1 => ?_)
    have hV : CV G E W (c - 0) κ13 := hV.dn (by omega)
    have hx2 := hx.tr x1_ hfr.sl
    have hfr := hfr.trW hx fκ13 (by decide)
    have hs_h := WLe.at (x1_).1 hs_h (by decide)
    have hs_a1 := WLe.at (x1_).1 hs_a1 (by decide)
    have wl_bz5 := ((x1_).1 bz5 (by rw [hsz5]; decide)).2
    have hsz5 := WLe.at (x1_).1 hsz5 (by decide)
    have hsz10 := WLe.at (x1_).1 hsz10 (by decide)
    have wl_bz11 := ((x1_).1 bz11 (by rw [hsz11]; decide)).2
    have hsz11 := WLe.at (x1_).1 hsz11 (by decide)
    have hsz12 := WLe.at (x1_).1 hsz12 (by decide)
    have le2 := WLe.tr le2 (x1_).1
    have hx := hx2
    intro z15 ez15
    try have hz15 := i_add ez15 (by omega) (by omega)
    have rg_z15 := i_range z15
    exact hK3 z15 κ13 ⟨W, le2, hx, hV.dn (by (try dsimp only); omega), hfr, (by (try dsimp only); omega)⟩ (by (try dsimp only); omega)
